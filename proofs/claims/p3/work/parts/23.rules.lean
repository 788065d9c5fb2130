theorem gm_917 : (Jvm.Cond.fieldLink "WellCourtModel" (37 : Nat) "WellCourtModel" "sort" "[I") ∈ gz_T := gz_at 917 (by decide +kernel) rfl
theorem gm_918 : (Jvm.Cond.fieldLink "WellCourtModel" (40 : Nat) "WellCourtModel" "one" "[I") ∈ gz_T := gz_at 918 (by decide +kernel) rfl
theorem gm_919 : (Jvm.Cond.fieldLink "WellCourtModel" (43 : Nat) "WellCourtModel" "two" "[I") ∈ gz_T := gz_at 919 (by decide +kernel) rfl
theorem gm_920 : (Jvm.Cond.fieldLink "WellCourtModel" (46 : Nat) "WellCourtModel" "three" "[I") ∈ gz_T := gz_at 920 (by decide +kernel) rfl
theorem gm_921 : (Jvm.Cond.fieldLink "WellCourtModel" (49 : Nat) "WellCourtModel" "many" "[I") ∈ gz_T := gz_at 921 (by decide +kernel) rfl
theorem gm_922 : (Jvm.Cond.fieldLink "WellCourtModel" (52 : Nat) "WellCourtModel" "turnMany" "[I") ∈ gz_T := gz_at 922 (by decide +kernel) rfl
theorem gm_923 : (Jvm.Cond.fieldLink "WellCourtModel" (55 : Nat) "WellCourtModel" "turnClan" "[I") ∈ gz_T := gz_at 923 (by decide +kernel) rfl
theorem gm_924 : (Jvm.Cond.fieldLink "WellCourtModel" (58 : Nat) "WellCourtModel" "turnDays" "[I") ∈ gz_T := gz_at 924 (by decide +kernel) rfl
theorem gm_925 : (Jvm.Cond.fieldLink "WellCourtModel" (201 : Nat) "WellCourtModel" "bank" "I") ∈ gz_T := gz_at 925 (by decide +kernel) rfl
theorem gm_927 : (Jvm.Cond.fieldLink "WellCourtModel" (204 : Nat) "WellCourtModel" "fresh" "I") ∈ gz_T := gz_at 927 (by decide +kernel) rfl
theorem gm_1114 : (Jvm.Cond.constantLong "WellCourtModel" (223 : Nat) (500186639987 : Int64)) ∈ gz_T := gz_at 1114 (by decide +kernel) rfl
theorem gm_1119 : (Jvm.Cond.constantLong "WellCourtModel" (225 : Nat) (444351214452 : Int64)) ∈ gz_T := gz_at 1119 (by decide +kernel) rfl
theorem gm_1120 : (Jvm.Cond.constantLong "WellCourtModel" (227 : Nat) (7824740 : Int64)) ∈ gz_T := gz_at 1120 (by decide +kernel) rfl
theorem gm_1121 : (Jvm.Cond.constantLong "WellCourtModel" (229 : Nat) (28273320707713140 : Int64)) ∈ gz_T := gz_at 1121 (by decide +kernel) rfl
theorem gm_1122 : (Jvm.Cond.constantLong "WellCourtModel" (231 : Nat) (6582905 : Int64)) ∈ gz_T := gz_at 1122 (by decide +kernel) rfl
theorem gm_1131 : (Jvm.Cond.methodLink "WellCourtModel" (233 : Nat) ({ cls := "WellCourtModel", name := "turns", desc := "(I)Z" } : Jvm.MethodName)) ∈ gz_T := gz_at 1131 (by decide +kernel) rfl
theorem gm_1133 : (Jvm.Cond.instanceMethod ({ cls := "WellCourtModel", name := "turns", desc := "(I)Z" } : Jvm.MethodName)) ∈ gz_T := gz_at 1133 (by decide +kernel) rfl
theorem gm_1134 : (Jvm.Cond.code ({ cls := "WellCourtModel", name := "turns", desc := "(I)Z" } : Jvm.MethodName) prog_12_method_21_code (5 : Nat) (Option.some Jvm.ClassFile.FieldType.boolean)) ∈ gz_T := gz_at 1134 (by decide +kernel) rfl
theorem gm_1135 : (Jvm.Cond.methodLink "WellCourtModel" (251 : Nat) ({ cls := "WellCourtModel", name := "readNumber", desc := "(II)Z" } : Jvm.MethodName)) ∈ gz_T := gz_at 1135 (by decide +kernel) rfl
theorem gm_1137 : (Jvm.Cond.instanceMethod ({ cls := "WellCourtModel", name := "readNumber", desc := "(II)Z" } : Jvm.MethodName)) ∈ gz_T := gz_at 1137 (by decide +kernel) rfl
theorem gm_1138 : (Jvm.Cond.code ({ cls := "WellCourtModel", name := "readNumber", desc := "(II)Z" } : Jvm.MethodName) prog_12_method_17_code (3 : Nat) (Option.some Jvm.ClassFile.FieldType.boolean)) ∈ gz_T := gz_at 1138 (by decide +kernel) rfl
theorem gm_1139 : (Jvm.Cond.methodLink "WellCourtModel" (248 : Nat) ({ cls := "WellCourtModel", name := "must", desc := "(I)Z" } : Jvm.MethodName)) ∈ gz_T := gz_at 1139 (by decide +kernel) rfl
theorem gm_1141 : (Jvm.Cond.instanceMethod ({ cls := "WellCourtModel", name := "must", desc := "(I)Z" } : Jvm.MethodName)) ∈ gz_T := gz_at 1141 (by decide +kernel) rfl
theorem gm_1142 : (Jvm.Cond.code ({ cls := "WellCourtModel", name := "must", desc := "(I)Z" } : Jvm.MethodName) prog_12_method_14_code (2 : Nat) (Option.some Jvm.ClassFile.FieldType.boolean)) ∈ gz_T := gz_at 1142 (by decide +kernel) rfl
theorem gm_1143 : (Jvm.Cond.methodLink "WellCourtModel" (254 : Nat) ({ cls := "WellCourtModel", name := "readClan", desc := "()Z" } : Jvm.MethodName)) ∈ gz_T := gz_at 1143 (by decide +kernel) rfl
theorem gm_1145 : (Jvm.Cond.instanceMethod ({ cls := "WellCourtModel", name := "readClan", desc := "()Z" } : Jvm.MethodName)) ∈ gz_T := gz_at 1145 (by decide +kernel) rfl
theorem gm_1146 : (Jvm.Cond.code ({ cls := "WellCourtModel", name := "readClan", desc := "()Z" } : Jvm.MethodName) prog_12_method_18_code (1 : Nat) (Option.some Jvm.ClassFile.FieldType.boolean)) ∈ gz_T := gz_at 1146 (by decide +kernel) rfl
theorem gm_1149 : (Jvm.Cond.methodLink "WellCourtModel" (236 : Nat) ({ cls := "WellCourtModel", name := "guest", desc := "(I)Z" } : Jvm.MethodName)) ∈ gz_T := gz_at 1149 (by decide +kernel) rfl
theorem gm_1151 : (Jvm.Cond.instanceMethod ({ cls := "WellCourtModel", name := "guest", desc := "(I)Z" } : Jvm.MethodName)) ∈ gz_T := gz_at 1151 (by decide +kernel) rfl
theorem gm_1152 : (Jvm.Cond.code ({ cls := "WellCourtModel", name := "guest", desc := "(I)Z" } : Jvm.MethodName) prog_12_method_22_code (2 : Nat) (Option.some Jvm.ClassFile.FieldType.boolean)) ∈ gz_T := gz_at 1152 (by decide +kernel) rfl
theorem gm_1153 : (Jvm.Cond.constantLong "WellCourtModel" (257 : Nat) (24948 : Int64)) ∈ gz_T := gz_at 1153 (by decide +kernel) rfl
theorem gm_1154 : (Jvm.Cond.methodLink "WellCourtModel" (259 : Nat) ({ cls := "WellCourtModel", name := "mustWord", desc := "(J)Z" } : Jvm.MethodName)) ∈ gz_T := gz_at 1154 (by decide +kernel) rfl
theorem gm_1156 : (Jvm.Cond.instanceMethod ({ cls := "WellCourtModel", name := "mustWord", desc := "(J)Z" } : Jvm.MethodName)) ∈ gz_T := gz_at 1156 (by decide +kernel) rfl
theorem gm_1157 : (Jvm.Cond.code ({ cls := "WellCourtModel", name := "mustWord", desc := "(J)Z" } : Jvm.MethodName) prog_12_method_16_code (3 : Nat) (Option.some Jvm.ClassFile.FieldType.boolean)) ∈ gz_T := gz_at 1157 (by decide +kernel) rfl
theorem gm_1158 : (Jvm.Cond.constantLong "WellCourtModel" (262 : Nat) (28518 : Int64)) ∈ gz_T := gz_at 1158 (by decide +kernel) rfl
theorem gm_1159 : (Jvm.Cond.methodLink "WellCourtModel" (239 : Nat) ({ cls := "WellCourtModel", name := "wed", desc := "(I)Z" } : Jvm.MethodName)) ∈ gz_T := gz_at 1159 (by decide +kernel) rfl
theorem gm_1161 : (Jvm.Cond.instanceMethod ({ cls := "WellCourtModel", name := "wed", desc := "(I)Z" } : Jvm.MethodName)) ∈ gz_T := gz_at 1161 (by decide +kernel) rfl
theorem gm_1162 : (Jvm.Cond.code ({ cls := "WellCourtModel", name := "wed", desc := "(I)Z" } : Jvm.MethodName) prog_12_method_23_code (2 : Nat) (Option.some Jvm.ClassFile.FieldType.boolean)) ∈ gz_T := gz_at 1162 (by decide +kernel) rfl
theorem gm_1163 : (Jvm.Cond.methodLink "WellCourtModel" (242 : Nat) ({ cls := "WellCourtModel", name := "drought", desc := "(I)Z" } : Jvm.MethodName)) ∈ gz_T := gz_at 1163 (by decide +kernel) rfl
theorem gm_1165 : (Jvm.Cond.instanceMethod ({ cls := "WellCourtModel", name := "drought", desc := "(I)Z" } : Jvm.MethodName)) ∈ gz_T := gz_at 1165 (by decide +kernel) rfl
theorem gm_1166 : (Jvm.Cond.code ({ cls := "WellCourtModel", name := "drought", desc := "(I)Z" } : Jvm.MethodName) prog_12_method_24_code (2 : Nat) (Option.some Jvm.ClassFile.FieldType.boolean)) ∈ gz_T := gz_at 1166 (by decide +kernel) rfl
theorem gm_1167 : (Jvm.Cond.constantLong "WellCourtModel" (264 : Nat) (422608400247 : Int64)) ∈ gz_T := gz_at 1167 (by decide +kernel) rfl
theorem gm_1168 : (Jvm.Cond.methodLink "WellCourtModel" (245 : Nat) ({ cls := "WellCourtModel", name := "dry", desc := "(I)Z" } : Jvm.MethodName)) ∈ gz_T := gz_at 1168 (by decide +kernel) rfl
theorem gm_1170 : (Jvm.Cond.instanceMethod ({ cls := "WellCourtModel", name := "dry", desc := "(I)Z" } : Jvm.MethodName)) ∈ gz_T := gz_at 1170 (by decide +kernel) rfl
theorem gm_1171 : (Jvm.Cond.code ({ cls := "WellCourtModel", name := "dry", desc := "(I)Z" } : Jvm.MethodName) prog_12_method_25_code (2 : Nat) (Option.some Jvm.ClassFile.FieldType.boolean)) ∈ gz_T := gz_at 1171 (by decide +kernel) rfl
theorem gm_1172 : (Jvm.Cond.constantLong "WellCourtModel" (266 : Nat) (29807 : Int64)) ∈ gz_T := gz_at 1172 (by decide +kernel) rfl
theorem gs_38 : (Jvm.Cond.selects "WellCourtModel" ({ cls := "WellCourtModel", name := "turns", desc := "(I)Z" } : Jvm.MethodName) ({ cls := "WellCourtModel", name := "turns", desc := "(I)Z" } : Jvm.MethodName)) ∈ gz_T := gz_sel 38 (by decide +kernel) rfl
theorem gs_39 : (Jvm.Cond.selects "WellCourtModel" ({ cls := "WellCourtModel", name := "readNumber", desc := "(II)Z" } : Jvm.MethodName) ({ cls := "WellCourtModel", name := "readNumber", desc := "(II)Z" } : Jvm.MethodName)) ∈ gz_T := gz_sel 39 (by decide +kernel) rfl
theorem gs_40 : (Jvm.Cond.selects "WellCourtModel" ({ cls := "WellCourtModel", name := "must", desc := "(I)Z" } : Jvm.MethodName) ({ cls := "WellCourtModel", name := "must", desc := "(I)Z" } : Jvm.MethodName)) ∈ gz_T := gz_sel 40 (by decide +kernel) rfl
theorem gs_41 : (Jvm.Cond.selects "WellCourtModel" ({ cls := "WellCourtModel", name := "readClan", desc := "()Z" } : Jvm.MethodName) ({ cls := "WellCourtModel", name := "readClan", desc := "()Z" } : Jvm.MethodName)) ∈ gz_T := gz_sel 41 (by decide +kernel) rfl
theorem gs_42 : (Jvm.Cond.selects "WellCourtModel" ({ cls := "WellCourtModel", name := "guest", desc := "(I)Z" } : Jvm.MethodName) ({ cls := "WellCourtModel", name := "guest", desc := "(I)Z" } : Jvm.MethodName)) ∈ gz_T := gz_sel 42 (by decide +kernel) rfl
theorem gs_43 : (Jvm.Cond.selects "WellCourtModel" ({ cls := "WellCourtModel", name := "mustWord", desc := "(J)Z" } : Jvm.MethodName) ({ cls := "WellCourtModel", name := "mustWord", desc := "(J)Z" } : Jvm.MethodName)) ∈ gz_T := gz_sel 43 (by decide +kernel) rfl
theorem gs_44 : (Jvm.Cond.selects "WellCourtModel" ({ cls := "WellCourtModel", name := "wed", desc := "(I)Z" } : Jvm.MethodName) ({ cls := "WellCourtModel", name := "wed", desc := "(I)Z" } : Jvm.MethodName)) ∈ gz_T := gz_sel 44 (by decide +kernel) rfl
theorem gs_45 : (Jvm.Cond.selects "WellCourtModel" ({ cls := "WellCourtModel", name := "drought", desc := "(I)Z" } : Jvm.MethodName) ({ cls := "WellCourtModel", name := "drought", desc := "(I)Z" } : Jvm.MethodName)) ∈ gz_T := gz_sel 45 (by decide +kernel) rfl
theorem gs_46 : (Jvm.Cond.selects "WellCourtModel" ({ cls := "WellCourtModel", name := "dry", desc := "(I)Z" } : Jvm.MethodName) ({ cls := "WellCourtModel", name := "dry", desc := "(I)Z" } : Jvm.MethodName)) ∈ gz_T := gz_sel 46 (by decide +kernel) rfl
theorem dX10_drought_0 : decode cX10_drought 0 = .ok (.aload_n 0, 1) := by decide +kernel
theorem dX10_drought_1 : decode cX10_drought 1 = .ok (.iconst 0, 1) := by decide +kernel
theorem dX10_drought_2 : decode cX10_drought 2 = .ok (.iconst 5, 1) := by decide +kernel
theorem dX10_drought_3 : decode cX10_drought 3 = .ok (.invokevirtual 251, 3) := by decide +kernel
theorem dX10_drought_6 : decode cX10_drought 6 = .ok (.ifCond .ne 5, 3) := by decide +kernel
theorem dX10_drought_9 : decode cX10_drought 9 = .ok (.iconst 0, 1) := by decide +kernel
theorem dX10_drought_10 : decode cX10_drought 10 = .ok (.ireturn, 1) := by decide +kernel
theorem dX10_drought_11 : decode cX10_drought 11 = .ok (.aload_n 0, 1) := by decide +kernel
theorem dX10_drought_12 : decode cX10_drought 12 = .ok (.getfield 40, 3) := by decide +kernel
theorem dX10_drought_15 : decode cX10_drought 15 = .ok (.iload_n 1, 1) := by decide +kernel
theorem dX10_drought_16 : decode cX10_drought 16 = .ok (.aload_n 0, 1) := by decide +kernel
theorem dX10_drought_17 : decode cX10_drought 17 = .ok (.getfield 191, 3) := by decide +kernel
theorem dX10_drought_20 : decode cX10_drought 20 = .ok (.iastore, 1) := by decide +kernel
theorem dX10_drought_21 : decode cX10_drought 21 = .ok (.aload_n 0, 1) := by decide +kernel
theorem dX10_drought_22 : decode cX10_drought 22 = .ok (.ldc2_w 264, 3) := by decide +kernel
theorem dX10_drought_25 : decode cX10_drought 25 = .ok (.invokevirtual 259, 3) := by decide +kernel
theorem dX10_drought_28 : decode cX10_drought 28 = .ok (.ifCond .eq 14, 3) := by decide +kernel
theorem dX10_drought_31 : decode cX10_drought 31 = .ok (.aload_n 0, 1) := by decide +kernel
theorem dX10_drought_32 : decode cX10_drought 32 = .ok (.iconst 0, 1) := by decide +kernel
theorem dX10_drought_33 : decode cX10_drought 33 = .ok (.sipush 1000, 3) := by decide +kernel
theorem dX10_drought_36 : decode cX10_drought 36 = .ok (.invokevirtual 251, 3) := by decide +kernel
theorem dX10_drought_39 : decode cX10_drought 39 = .ok (.ifCond .ne 5, 3) := by decide +kernel
theorem dX10_drought_42 : decode cX10_drought 42 = .ok (.iconst 0, 1) := by decide +kernel
theorem dX10_drought_43 : decode cX10_drought 43 = .ok (.ireturn, 1) := by decide +kernel
theorem dX10_drought_44 : decode cX10_drought 44 = .ok (.aload_n 0, 1) := by decide +kernel
theorem dX10_drought_45 : decode cX10_drought 45 = .ok (.getfield 49, 3) := by decide +kernel
theorem dX10_drought_48 : decode cX10_drought 48 = .ok (.iload_n 1, 1) := by decide +kernel
theorem dX10_drought_49 : decode cX10_drought 49 = .ok (.aload_n 0, 1) := by decide +kernel
theorem dX10_drought_50 : decode cX10_drought 50 = .ok (.getfield 191, 3) := by decide +kernel
theorem dX10_drought_53 : decode cX10_drought 53 = .ok (.iastore, 1) := by decide +kernel
theorem dX10_drought_54 : decode cX10_drought 54 = .ok (.aload_n 0, 1) := by decide +kernel
theorem dX10_drought_55 : decode cX10_drought 55 = .ok (.invokevirtual 254, 3) := by decide +kernel
theorem dX10_drought_58 : decode cX10_drought 58 = .ok (.ifCond .ne 5, 3) := by decide +kernel
theorem dX10_drought_61 : decode cX10_drought 61 = .ok (.iconst 0, 1) := by decide +kernel
theorem dX10_drought_62 : decode cX10_drought 62 = .ok (.ireturn, 1) := by decide +kernel
theorem dX10_drought_63 : decode cX10_drought 63 = .ok (.aload_n 0, 1) := by decide +kernel
theorem dX10_drought_64 : decode cX10_drought 64 = .ok (.getfield 43, 3) := by decide +kernel
theorem dX10_drought_67 : decode cX10_drought 67 = .ok (.iload_n 1, 1) := by decide +kernel
theorem dX10_drought_68 : decode cX10_drought 68 = .ok (.aload_n 0, 1) := by decide +kernel
theorem dX10_drought_69 : decode cX10_drought 69 = .ok (.getfield 191, 3) := by decide +kernel
theorem dX10_drought_72 : decode cX10_drought 72 = .ok (.iastore, 1) := by decide +kernel
theorem dX10_drought_73 : decode cX10_drought 73 = .ok (.iconst 1, 1) := by decide +kernel
theorem dX10_drought_74 : decode cX10_drought 74 = .ok (.ireturn, 1) := by decide +kernel
theorem dX10_dry_0 : decode cX10_dry 0 = .ok (.aload_n 0, 1) := by decide +kernel
theorem dX10_dry_1 : decode cX10_dry 1 = .ok (.iconst 0, 1) := by decide +kernel
theorem dX10_dry_2 : decode cX10_dry 2 = .ok (.iconst 5, 1) := by decide +kernel
theorem dX10_dry_3 : decode cX10_dry 3 = .ok (.invokevirtual 251, 3) := by decide +kernel
theorem dX10_dry_6 : decode cX10_dry 6 = .ok (.ifCond .ne 5, 3) := by decide +kernel
theorem dX10_dry_9 : decode cX10_dry 9 = .ok (.iconst 0, 1) := by decide +kernel
theorem dX10_dry_10 : decode cX10_dry 10 = .ok (.ireturn, 1) := by decide +kernel
theorem dX10_dry_11 : decode cX10_dry 11 = .ok (.aload_n 0, 1) := by decide +kernel
theorem dX10_dry_12 : decode cX10_dry 12 = .ok (.getfield 40, 3) := by decide +kernel
theorem dX10_dry_15 : decode cX10_dry 15 = .ok (.iload_n 1, 1) := by decide +kernel
theorem dX10_dry_16 : decode cX10_dry 16 = .ok (.aload_n 0, 1) := by decide +kernel
theorem dX10_dry_17 : decode cX10_dry 17 = .ok (.getfield 191, 3) := by decide +kernel
theorem dX10_dry_20 : decode cX10_dry 20 = .ok (.iastore, 1) := by decide +kernel
theorem dX10_dry_21 : decode cX10_dry 21 = .ok (.aload_n 0, 1) := by decide +kernel
theorem dX10_dry_22 : decode cX10_dry 22 = .ok (.ldc2_w 266, 3) := by decide +kernel
theorem dX10_dry_25 : decode cX10_dry 25 = .ok (.invokevirtual 259, 3) := by decide +kernel
theorem dX10_dry_28 : decode cX10_dry 28 = .ok (.ifCond .eq 12, 3) := by decide +kernel
theorem dX10_dry_31 : decode cX10_dry 31 = .ok (.aload_n 0, 1) := by decide +kernel
theorem dX10_dry_32 : decode cX10_dry 32 = .ok (.iconst 0, 1) := by decide +kernel
theorem dX10_dry_33 : decode cX10_dry 33 = .ok (.iconst 5, 1) := by decide +kernel
theorem dX10_dry_34 : decode cX10_dry 34 = .ok (.invokevirtual 251, 3) := by decide +kernel
theorem dX10_dry_37 : decode cX10_dry 37 = .ok (.ifCond .ne 5, 3) := by decide +kernel
theorem dX10_dry_40 : decode cX10_dry 40 = .ok (.iconst 0, 1) := by decide +kernel
theorem dX10_dry_41 : decode cX10_dry 41 = .ok (.ireturn, 1) := by decide +kernel
theorem dX10_dry_42 : decode cX10_dry 42 = .ok (.aload_n 0, 1) := by decide +kernel
theorem dX10_dry_43 : decode cX10_dry 43 = .ok (.getfield 43, 3) := by decide +kernel
theorem dX10_dry_46 : decode cX10_dry 46 = .ok (.iload_n 1, 1) := by decide +kernel
theorem dX10_dry_47 : decode cX10_dry 47 = .ok (.aload_n 0, 1) := by decide +kernel
theorem dX10_dry_48 : decode cX10_dry 48 = .ok (.getfield 191, 3) := by decide +kernel
theorem dX10_dry_51 : decode cX10_dry 51 = .ok (.iastore, 1) := by decide +kernel
theorem dX10_dry_52 : decode cX10_dry 52 = .ok (.aload_n 0, 1) := by decide +kernel
theorem dX10_dry_53 : decode cX10_dry 53 = .ok (.getfield 191, 3) := by decide +kernel
theorem dX10_dry_56 : decode cX10_dry 56 = .ok (.aload_n 0, 1) := by decide +kernel
theorem dX10_dry_57 : decode cX10_dry 57 = .ok (.getfield 40, 3) := by decide +kernel
theorem dX10_dry_60 : decode cX10_dry 60 = .ok (.iload_n 1, 1) := by decide +kernel
theorem dX10_dry_61 : decode cX10_dry 61 = .ok (.iaload, 1) := by decide +kernel
theorem dX10_dry_62 : decode cX10_dry 62 = .ok (.if_icmp .ne 15, 3) := by decide +kernel
theorem dX10_dry_65 : decode cX10_dry 65 = .ok (.aload_n 0, 1) := by decide +kernel
theorem dX10_dry_66 : decode cX10_dry 66 = .ok (.iconst 3, 1) := by decide +kernel
theorem dX10_dry_67 : decode cX10_dry 67 = .ok (.aload_n 0, 1) := by decide +kernel
theorem dX10_dry_68 : decode cX10_dry 68 = .ok (.getfield 194, 3) := by decide +kernel
theorem dX10_dry_71 : decode cX10_dry 71 = .ok (.invokevirtual 176, 3) := by decide +kernel
theorem dX10_dry_74 : decode cX10_dry 74 = .ok (.ifCond .eq 7, 3) := by decide +kernel
theorem dX10_dry_77 : decode cX10_dry 77 = .ok (.iconst 1, 1) := by decide +kernel
theorem dX10_dry_78 : decode cX10_dry 78 = .ok (.goto 4, 3) := by decide +kernel
theorem dX10_dry_81 : decode cX10_dry 81 = .ok (.iconst 0, 1) := by decide +kernel
theorem dX10_dry_82 : decode cX10_dry 82 = .ok (.ireturn, 1) := by decide +kernel
theorem dX10_guest_0 : decode cX10_guest 0 = .ok (.aload_n 0, 1) := by decide +kernel
theorem dX10_guest_1 : decode cX10_guest 1 = .ok (.invokevirtual 254, 3) := by decide +kernel
theorem dX10_guest_4 : decode cX10_guest 4 = .ok (.ifCond .ne 5, 3) := by decide +kernel
theorem dX10_guest_7 : decode cX10_guest 7 = .ok (.iconst 0, 1) := by decide +kernel
theorem dX10_guest_8 : decode cX10_guest 8 = .ok (.ireturn, 1) := by decide +kernel
theorem dX10_guest_9 : decode cX10_guest 9 = .ok (.aload_n 0, 1) := by decide +kernel
theorem dX10_guest_10 : decode cX10_guest 10 = .ok (.getfield 40, 3) := by decide +kernel
theorem dX10_guest_13 : decode cX10_guest 13 = .ok (.iload_n 1, 1) := by decide +kernel
theorem dX10_guest_14 : decode cX10_guest 14 = .ok (.aload_n 0, 1) := by decide +kernel
theorem dX10_guest_15 : decode cX10_guest 15 = .ok (.getfield 191, 3) := by decide +kernel
theorem dX10_guest_18 : decode cX10_guest 18 = .ok (.iastore, 1) := by decide +kernel
theorem dX10_guest_19 : decode cX10_guest 19 = .ok (.aload_n 0, 1) := by decide +kernel
theorem dX10_guest_20 : decode cX10_guest 20 = .ok (.ldc2_w 257, 3) := by decide +kernel
theorem dX10_guest_23 : decode cX10_guest 23 = .ok (.invokevirtual 259, 3) := by decide +kernel
theorem dX10_guest_26 : decode cX10_guest 26 = .ok (.ifCond .eq 12, 3) := by decide +kernel
theorem dX10_guest_29 : decode cX10_guest 29 = .ok (.aload_n 0, 1) := by decide +kernel
theorem dX10_guest_30 : decode cX10_guest 30 = .ok (.iconst 0, 1) := by decide +kernel
theorem dX10_guest_31 : decode cX10_guest 31 = .ok (.iconst 5, 1) := by decide +kernel
theorem dX10_guest_32 : decode cX10_guest 32 = .ok (.invokevirtual 251, 3) := by decide +kernel
theorem dX10_guest_35 : decode cX10_guest 35 = .ok (.ifCond .ne 5, 3) := by decide +kernel
theorem dX10_guest_38 : decode cX10_guest 38 = .ok (.iconst 0, 1) := by decide +kernel
theorem dX10_guest_39 : decode cX10_guest 39 = .ok (.ireturn, 1) := by decide +kernel
theorem dX10_guest_40 : decode cX10_guest 40 = .ok (.aload_n 0, 1) := by decide +kernel
theorem dX10_guest_41 : decode cX10_guest 41 = .ok (.getfield 43, 3) := by decide +kernel
theorem dX10_guest_44 : decode cX10_guest 44 = .ok (.iload_n 1, 1) := by decide +kernel
theorem dX10_guest_45 : decode cX10_guest 45 = .ok (.aload_n 0, 1) := by decide +kernel
theorem dX10_guest_46 : decode cX10_guest 46 = .ok (.getfield 191, 3) := by decide +kernel
theorem dX10_guest_49 : decode cX10_guest 49 = .ok (.iastore, 1) := by decide +kernel
theorem dX10_guest_50 : decode cX10_guest 50 = .ok (.aload_n 0, 1) := by decide +kernel
theorem dX10_guest_51 : decode cX10_guest 51 = .ok (.ldc2_w 262, 3) := by decide +kernel
theorem dX10_guest_54 : decode cX10_guest 54 = .ok (.invokevirtual 259, 3) := by decide +kernel
theorem dX10_guest_57 : decode cX10_guest 57 = .ok (.ifCond .eq 10, 3) := by decide +kernel
theorem dX10_guest_60 : decode cX10_guest 60 = .ok (.aload_n 0, 1) := by decide +kernel
theorem dX10_guest_61 : decode cX10_guest 61 = .ok (.invokevirtual 254, 3) := by decide +kernel
theorem dX10_guest_64 : decode cX10_guest 64 = .ok (.ifCond .ne 5, 3) := by decide +kernel
theorem dX10_guest_67 : decode cX10_guest 67 = .ok (.iconst 0, 1) := by decide +kernel
theorem dX10_guest_68 : decode cX10_guest 68 = .ok (.ireturn, 1) := by decide +kernel
theorem dX10_guest_69 : decode cX10_guest 69 = .ok (.aload_n 0, 1) := by decide +kernel
theorem dX10_guest_70 : decode cX10_guest 70 = .ok (.getfield 191, 3) := by decide +kernel
theorem dX10_guest_73 : decode cX10_guest 73 = .ok (.aload_n 0, 1) := by decide +kernel
theorem dX10_guest_74 : decode cX10_guest 74 = .ok (.getfield 40, 3) := by decide +kernel
theorem dX10_guest_77 : decode cX10_guest 77 = .ok (.iload_n 1, 1) := by decide +kernel
theorem dX10_guest_78 : decode cX10_guest 78 = .ok (.iaload, 1) := by decide +kernel
theorem dX10_guest_79 : decode cX10_guest 79 = .ok (.if_icmp .ne 13, 3) := by decide +kernel
theorem dX10_guest_82 : decode cX10_guest 82 = .ok (.aload_n 0, 1) := by decide +kernel
theorem dX10_guest_83 : decode cX10_guest 83 = .ok (.iconst 3, 1) := by decide +kernel
theorem dX10_guest_84 : decode cX10_guest 84 = .ok (.aload_n 0, 1) := by decide +kernel
theorem dX10_guest_85 : decode cX10_guest 85 = .ok (.getfield 194, 3) := by decide +kernel
theorem dX10_guest_88 : decode cX10_guest 88 = .ok (.invokevirtual 176, 3) := by decide +kernel
theorem dX10_guest_91 : decode cX10_guest 91 = .ok (.ireturn, 1) := by decide +kernel
theorem dX10_guest_92 : decode cX10_guest 92 = .ok (.aload_n 0, 1) := by decide +kernel
theorem dX10_guest_93 : decode cX10_guest 93 = .ok (.getfield 46, 3) := by decide +kernel
theorem dX10_guest_96 : decode cX10_guest 96 = .ok (.iload_n 1, 1) := by decide +kernel
theorem dX10_guest_97 : decode cX10_guest 97 = .ok (.aload_n 0, 1) := by decide +kernel
theorem dX10_guest_98 : decode cX10_guest 98 = .ok (.getfield 191, 3) := by decide +kernel
theorem dX10_guest_101 : decode cX10_guest 101 = .ok (.iastore, 1) := by decide +kernel
theorem dX10_guest_102 : decode cX10_guest 102 = .ok (.aload_n 0, 1) := by decide +kernel
theorem dX10_guest_103 : decode cX10_guest 103 = .ok (.iconst 0, 1) := by decide +kernel
theorem dX10_guest_104 : decode cX10_guest 104 = .ok (.sipush 1000, 3) := by decide +kernel
theorem dX10_guest_107 : decode cX10_guest 107 = .ok (.invokevirtual 251, 3) := by decide +kernel
theorem dX10_guest_110 : decode cX10_guest 110 = .ok (.ifCond .ne 5, 3) := by decide +kernel
theorem dX10_guest_113 : decode cX10_guest 113 = .ok (.iconst 0, 1) := by decide +kernel
theorem dX10_guest_114 : decode cX10_guest 114 = .ok (.ireturn, 1) := by decide +kernel
theorem dX10_guest_115 : decode cX10_guest 115 = .ok (.aload_n 0, 1) := by decide +kernel
theorem dX10_guest_116 : decode cX10_guest 116 = .ok (.getfield 49, 3) := by decide +kernel
theorem dX10_guest_119 : decode cX10_guest 119 = .ok (.iload_n 1, 1) := by decide +kernel
theorem dX10_guest_120 : decode cX10_guest 120 = .ok (.aload_n 0, 1) := by decide +kernel
theorem dX10_guest_121 : decode cX10_guest 121 = .ok (.getfield 191, 3) := by decide +kernel
theorem dX10_guest_124 : decode cX10_guest 124 = .ok (.iastore, 1) := by decide +kernel
theorem dX10_guest_125 : decode cX10_guest 125 = .ok (.iconst 1, 1) := by decide +kernel
theorem dX10_guest_126 : decode cX10_guest 126 = .ok (.ireturn, 1) := by decide +kernel
theorem dX10_rule_0 : decode cX10_rule 0 = .ok (.aload_n 0, 1) := by decide +kernel
theorem dX10_rule_1 : decode cX10_rule 1 = .ok (.ldc2_w 223, 3) := by decide +kernel
theorem dX10_rule_4 : decode cX10_rule 4 = .ok (.invokevirtual 187, 3) := by decide +kernel
theorem dX10_rule_7 : decode cX10_rule 7 = .ok (.ifCond .eq 7, 3) := by decide +kernel
theorem dX10_rule_10 : decode cX10_rule 10 = .ok (.iconst 0, 1) := by decide +kernel
theorem dX10_rule_11 : decode cX10_rule 11 = .ok (.goto 60, 3) := by decide +kernel
theorem dX10_rule_14 : decode cX10_rule 14 = .ok (.aload_n 0, 1) := by decide +kernel
theorem dX10_rule_15 : decode cX10_rule 15 = .ok (.ldc2_w 225, 3) := by decide +kernel
theorem dX10_rule_18 : decode cX10_rule 18 = .ok (.invokevirtual 187, 3) := by decide +kernel
theorem dX10_rule_21 : decode cX10_rule 21 = .ok (.ifCond .eq 7, 3) := by decide +kernel
theorem dX10_rule_24 : decode cX10_rule 24 = .ok (.iconst 1, 1) := by decide +kernel
theorem dX10_rule_25 : decode cX10_rule 25 = .ok (.goto 46, 3) := by decide +kernel
theorem dX10_rule_28 : decode cX10_rule 28 = .ok (.aload_n 0, 1) := by decide +kernel
theorem dX10_rule_29 : decode cX10_rule 29 = .ok (.ldc2_w 227, 3) := by decide +kernel
theorem dX10_rule_32 : decode cX10_rule 32 = .ok (.invokevirtual 187, 3) := by decide +kernel
theorem dX10_rule_35 : decode cX10_rule 35 = .ok (.ifCond .eq 7, 3) := by decide +kernel
theorem dX10_rule_38 : decode cX10_rule 38 = .ok (.iconst 2, 1) := by decide +kernel
theorem dX10_rule_39 : decode cX10_rule 39 = .ok (.goto 32, 3) := by decide +kernel
theorem dX10_rule_42 : decode cX10_rule 42 = .ok (.aload_n 0, 1) := by decide +kernel
theorem dX10_rule_43 : decode cX10_rule 43 = .ok (.ldc2_w 229, 3) := by decide +kernel
theorem dX10_rule_46 : decode cX10_rule 46 = .ok (.invokevirtual 187, 3) := by decide +kernel
theorem dX10_rule_49 : decode cX10_rule 49 = .ok (.ifCond .eq 7, 3) := by decide +kernel
theorem dX10_rule_52 : decode cX10_rule 52 = .ok (.iconst 3, 1) := by decide +kernel
theorem dX10_rule_53 : decode cX10_rule 53 = .ok (.goto 18, 3) := by decide +kernel
theorem dX10_rule_56 : decode cX10_rule 56 = .ok (.aload_n 0, 1) := by decide +kernel
theorem dX10_rule_57 : decode cX10_rule 57 = .ok (.ldc2_w 231, 3) := by decide +kernel
theorem dX10_rule_60 : decode cX10_rule 60 = .ok (.invokevirtual 187, 3) := by decide +kernel
theorem dX10_rule_63 : decode cX10_rule 63 = .ok (.ifCond .eq 7, 3) := by decide +kernel
theorem dX10_rule_66 : decode cX10_rule 66 = .ok (.iconst 4, 1) := by decide +kernel
theorem dX10_rule_67 : decode cX10_rule 67 = .ok (.goto 4, 3) := by decide +kernel
theorem dX10_rule_70 : decode cX10_rule 70 = .ok (.iconst (-1), 1) := by decide +kernel
theorem dX10_rule_71 : decode cX10_rule 71 = .ok (.istore_n 1, 1) := by decide +kernel
theorem dX10_rule_72 : decode cX10_rule 72 = .ok (.iload_n 1, 1) := by decide +kernel
theorem dX10_rule_73 : decode cX10_rule 73 = .ok (.ifCond .ge 8, 3) := by decide +kernel
theorem dX10_rule_76 : decode cX10_rule 76 = .ok (.aload_n 0, 1) := by decide +kernel
theorem dX10_rule_77 : decode cX10_rule 77 = .ok (.invokevirtual 180, 3) := by decide +kernel
theorem dX10_rule_80 : decode cX10_rule 80 = .ok (.ireturn, 1) := by decide +kernel
theorem dX10_rule_81 : decode cX10_rule 81 = .ok (.aload_n 0, 1) := by decide +kernel
theorem dX10_rule_82 : decode cX10_rule 82 = .ok (.getfield 204, 3) := by decide +kernel
theorem dX10_rule_85 : decode cX10_rule 85 = .ok (.bipush 20, 2) := by decide +kernel
theorem dX10_rule_87 : decode cX10_rule 87 = .ok (.if_icmp .ne 13, 3) := by decide +kernel
theorem dX10_rule_90 : decode cX10_rule 90 = .ok (.aload_n 0, 1) := by decide +kernel
theorem dX10_rule_91 : decode cX10_rule 91 = .ok (.iconst 4, 1) := by decide +kernel
theorem dX10_rule_92 : decode cX10_rule 92 = .ok (.aload_n 0, 1) := by decide +kernel
theorem dX10_rule_93 : decode cX10_rule 93 = .ok (.getfield 150, 3) := by decide +kernel
theorem dX10_rule_96 : decode cX10_rule 96 = .ok (.invokevirtual 176, 3) := by decide +kernel
theorem dX10_rule_99 : decode cX10_rule 99 = .ok (.ireturn, 1) := by decide +kernel
theorem dX10_rule_100 : decode cX10_rule 100 = .ok (.bipush 24, 2) := by decide +kernel
theorem dX10_rule_102 : decode cX10_rule 102 = .ok (.aload_n 0, 1) := by decide +kernel
theorem dX10_rule_103 : decode cX10_rule 103 = .ok (.getfield 201, 3) := by decide +kernel
theorem dX10_rule_106 : decode cX10_rule 106 = .ok (.imul, 1) := by decide +kernel
theorem dX10_rule_107 : decode cX10_rule 107 = .ok (.aload_n 0, 1) := by decide +kernel
theorem dX10_rule_108 : decode cX10_rule 108 = .ok (.getfield 204, 3) := by decide +kernel
theorem dX10_rule_111 : decode cX10_rule 111 = .ok (.iadd, 1) := by decide +kernel
theorem dX10_rule_112 : decode cX10_rule 112 = .ok (.istore_n 2, 1) := by decide +kernel
theorem dX10_rule_113 : decode cX10_rule 113 = .ok (.aload_n 0, 1) := by decide +kernel
theorem dX10_rule_114 : decode cX10_rule 114 = .ok (.getfield 37, 3) := by decide +kernel
theorem dX10_rule_117 : decode cX10_rule 117 = .ok (.iload_n 2, 1) := by decide +kernel
theorem dX10_rule_118 : decode cX10_rule 118 = .ok (.iload_n 1, 1) := by decide +kernel
theorem dX10_rule_119 : decode cX10_rule 119 = .ok (.iastore, 1) := by decide +kernel
theorem dX10_rule_120 : decode cX10_rule 120 = .ok (.aload_n 0, 1) := by decide +kernel
theorem dX10_rule_121 : decode cX10_rule 121 = .ok (.invokevirtual 184, 3) := by decide +kernel
theorem dX10_rule_124 : decode cX10_rule 124 = .ok (.iload_n 1, 1) := by decide +kernel
theorem dX10_rule_125 : decode cX10_rule 125 = .ok (.ifCond .ne 11, 3) := by decide +kernel
theorem dX10_rule_128 : decode cX10_rule 128 = .ok (.aload_n 0, 1) := by decide +kernel
theorem dX10_rule_129 : decode cX10_rule 129 = .ok (.iload_n 2, 1) := by decide +kernel
theorem dX10_rule_130 : decode cX10_rule 130 = .ok (.invokevirtual 233, 3) := by decide +kernel
theorem dX10_rule_133 : decode cX10_rule 133 = .ok (.goto 47, 3) := by decide +kernel
theorem dX10_rule_136 : decode cX10_rule 136 = .ok (.iload_n 1, 1) := by decide +kernel
theorem dX10_rule_137 : decode cX10_rule 137 = .ok (.iconst 1, 1) := by decide +kernel
theorem dX10_rule_138 : decode cX10_rule 138 = .ok (.if_icmp .ne 11, 3) := by decide +kernel
theorem dX10_rule_141 : decode cX10_rule 141 = .ok (.aload_n 0, 1) := by decide +kernel
theorem dX10_rule_142 : decode cX10_rule 142 = .ok (.iload_n 2, 1) := by decide +kernel
theorem dX10_rule_143 : decode cX10_rule 143 = .ok (.invokevirtual 236, 3) := by decide +kernel
theorem dX10_rule_146 : decode cX10_rule 146 = .ok (.goto 34, 3) := by decide +kernel
theorem dX10_rule_149 : decode cX10_rule 149 = .ok (.iload_n 1, 1) := by decide +kernel
theorem dX10_rule_150 : decode cX10_rule 150 = .ok (.iconst 2, 1) := by decide +kernel
theorem dX10_rule_151 : decode cX10_rule 151 = .ok (.if_icmp .ne 11, 3) := by decide +kernel
theorem dX10_rule_154 : decode cX10_rule 154 = .ok (.aload_n 0, 1) := by decide +kernel
theorem dX10_rule_155 : decode cX10_rule 155 = .ok (.iload_n 2, 1) := by decide +kernel
theorem dX10_rule_156 : decode cX10_rule 156 = .ok (.invokevirtual 239, 3) := by decide +kernel
theorem dX10_rule_159 : decode cX10_rule 159 = .ok (.goto 21, 3) := by decide +kernel
theorem dX10_rule_162 : decode cX10_rule 162 = .ok (.iload_n 1, 1) := by decide +kernel
theorem dX10_rule_163 : decode cX10_rule 163 = .ok (.iconst 3, 1) := by decide +kernel
theorem dX10_rule_164 : decode cX10_rule 164 = .ok (.if_icmp .ne 11, 3) := by decide +kernel
theorem dX10_rule_167 : decode cX10_rule 167 = .ok (.aload_n 0, 1) := by decide +kernel
theorem dX10_rule_168 : decode cX10_rule 168 = .ok (.iload_n 2, 1) := by decide +kernel
theorem dX10_rule_169 : decode cX10_rule 169 = .ok (.invokevirtual 242, 3) := by decide +kernel
theorem dX10_rule_172 : decode cX10_rule 172 = .ok (.goto 8, 3) := by decide +kernel
theorem dX10_rule_175 : decode cX10_rule 175 = .ok (.aload_n 0, 1) := by decide +kernel
theorem dX10_rule_176 : decode cX10_rule 176 = .ok (.iload_n 2, 1) := by decide +kernel
theorem dX10_rule_177 : decode cX10_rule 177 = .ok (.invokevirtual 245, 3) := by decide +kernel
theorem dX10_rule_180 : decode cX10_rule 180 = .ok (.istore_n 3, 1) := by decide +kernel
theorem dX10_rule_181 : decode cX10_rule 181 = .ok (.iload_n 3, 1) := by decide +kernel
theorem dX10_rule_182 : decode cX10_rule 182 = .ok (.ifCond .eq 12, 3) := by decide +kernel
theorem dX10_rule_185 : decode cX10_rule 185 = .ok (.aload_n 0, 1) := by decide +kernel
theorem dX10_rule_186 : decode cX10_rule 186 = .ok (.bipush 59, 2) := by decide +kernel
theorem dX10_rule_188 : decode cX10_rule 188 = .ok (.invokevirtual 248, 3) := by decide +kernel
theorem dX10_rule_191 : decode cX10_rule 191 = .ok (.ifCond .ne 5, 3) := by decide +kernel
theorem dX10_rule_194 : decode cX10_rule 194 = .ok (.iconst 0, 1) := by decide +kernel
theorem dX10_rule_195 : decode cX10_rule 195 = .ok (.ireturn, 1) := by decide +kernel
theorem dX10_rule_196 : decode cX10_rule 196 = .ok (.aload_n 0, 1) := by decide +kernel
theorem dX10_rule_197 : decode cX10_rule 197 = .ok (.dup, 1) := by decide +kernel
theorem dX10_rule_198 : decode cX10_rule 198 = .ok (.getfield 204, 3) := by decide +kernel
theorem dX10_rule_201 : decode cX10_rule 201 = .ok (.iconst 1, 1) := by decide +kernel
theorem dX10_rule_202 : decode cX10_rule 202 = .ok (.iadd, 1) := by decide +kernel
theorem dX10_rule_203 : decode cX10_rule 203 = .ok (.putfield 204, 3) := by decide +kernel
theorem dX10_rule_206 : decode cX10_rule 206 = .ok (.iconst 1, 1) := by decide +kernel
theorem dX10_rule_207 : decode cX10_rule 207 = .ok (.ireturn, 1) := by decide +kernel
theorem dX10_turns_0 : decode cX10_turns 0 = .ok (.aload_n 0, 1) := by decide +kernel
theorem dX10_turns_1 : decode cX10_turns 1 = .ok (.iconst 0, 1) := by decide +kernel
theorem dX10_turns_2 : decode cX10_turns 2 = .ok (.iconst 5, 1) := by decide +kernel
theorem dX10_turns_3 : decode cX10_turns 3 = .ok (.invokevirtual 251, 3) := by decide +kernel
theorem dX10_turns_6 : decode cX10_turns 6 = .ok (.ifCond .ne 5, 3) := by decide +kernel
theorem dX10_turns_9 : decode cX10_turns 9 = .ok (.iconst 0, 1) := by decide +kernel
theorem dX10_turns_10 : decode cX10_turns 10 = .ok (.ireturn, 1) := by decide +kernel
theorem dX10_turns_11 : decode cX10_turns 11 = .ok (.bipush 24, 2) := by decide +kernel
theorem dX10_turns_13 : decode cX10_turns 13 = .ok (.aload_n 0, 1) := by decide +kernel
theorem dX10_turns_14 : decode cX10_turns 14 = .ok (.getfield 201, 3) := by decide +kernel
theorem dX10_turns_17 : decode cX10_turns 17 = .ok (.imul, 1) := by decide +kernel
theorem dX10_turns_18 : decode cX10_turns 18 = .ok (.istore_n 2, 1) := by decide +kernel
theorem dX10_turns_19 : decode cX10_turns 19 = .ok (.iload_n 2, 1) := by decide +kernel
theorem dX10_turns_20 : decode cX10_turns 20 = .ok (.iload_n 1, 1) := by decide +kernel
theorem dX10_turns_21 : decode cX10_turns 21 = .ok (.if_icmp .ge 41, 3) := by decide +kernel
theorem dX10_turns_24 : decode cX10_turns 24 = .ok (.aload_n 0, 1) := by decide +kernel
theorem dX10_turns_25 : decode cX10_turns 25 = .ok (.getfield 37, 3) := by decide +kernel
theorem dX10_turns_28 : decode cX10_turns 28 = .ok (.iload_n 2, 1) := by decide +kernel
theorem dX10_turns_29 : decode cX10_turns 29 = .ok (.iaload, 1) := by decide +kernel
theorem dX10_turns_30 : decode cX10_turns 30 = .ok (.ifCond .ne 26, 3) := by decide +kernel
theorem dX10_turns_33 : decode cX10_turns 33 = .ok (.aload_n 0, 1) := by decide +kernel
theorem dX10_turns_34 : decode cX10_turns 34 = .ok (.getfield 40, 3) := by decide +kernel
theorem dX10_turns_37 : decode cX10_turns 37 = .ok (.iload_n 2, 1) := by decide +kernel
theorem dX10_turns_38 : decode cX10_turns 38 = .ok (.iaload, 1) := by decide +kernel
theorem dX10_turns_39 : decode cX10_turns 39 = .ok (.aload_n 0, 1) := by decide +kernel
theorem dX10_turns_40 : decode cX10_turns 40 = .ok (.getfield 191, 3) := by decide +kernel
theorem dX10_turns_43 : decode cX10_turns 43 = .ok (.if_icmp .ne 13, 3) := by decide +kernel
theorem dX10_turns_46 : decode cX10_turns 46 = .ok (.aload_n 0, 1) := by decide +kernel
theorem dX10_turns_47 : decode cX10_turns 47 = .ok (.iconst 3, 1) := by decide +kernel
theorem dX10_turns_48 : decode cX10_turns 48 = .ok (.aload_n 0, 1) := by decide +kernel
theorem dX10_turns_49 : decode cX10_turns 49 = .ok (.getfield 194, 3) := by decide +kernel
theorem dX10_turns_52 : decode cX10_turns 52 = .ok (.invokevirtual 176, 3) := by decide +kernel
theorem dX10_turns_55 : decode cX10_turns 55 = .ok (.ireturn, 1) := by decide +kernel
theorem dX10_turns_56 : decode cX10_turns 56 = .ok (.iinc 2 1, 3) := by decide +kernel
theorem dX10_turns_59 : decode cX10_turns 59 = .ok (.goto (-40), 3) := by decide +kernel
theorem dX10_turns_62 : decode cX10_turns 62 = .ok (.aload_n 0, 1) := by decide +kernel
theorem dX10_turns_63 : decode cX10_turns 63 = .ok (.getfield 40, 3) := by decide +kernel
theorem dX10_turns_66 : decode cX10_turns 66 = .ok (.iload_n 1, 1) := by decide +kernel
theorem dX10_turns_67 : decode cX10_turns 67 = .ok (.aload_n 0, 1) := by decide +kernel
theorem dX10_turns_68 : decode cX10_turns 68 = .ok (.getfield 191, 3) := by decide +kernel
theorem dX10_turns_71 : decode cX10_turns 71 = .ok (.iastore, 1) := by decide +kernel
theorem dX10_turns_72 : decode cX10_turns 72 = .ok (.aload_n 0, 1) := by decide +kernel
theorem dX10_turns_73 : decode cX10_turns 73 = .ok (.bipush 58, 2) := by decide +kernel
theorem dX10_turns_75 : decode cX10_turns 75 = .ok (.invokevirtual 248, 3) := by decide +kernel
theorem dX10_turns_78 : decode cX10_turns 78 = .ok (.ifCond .ne 5, 3) := by decide +kernel
theorem dX10_turns_81 : decode cX10_turns 81 = .ok (.iconst 0, 1) := by decide +kernel
theorem dX10_turns_82 : decode cX10_turns 82 = .ok (.ireturn, 1) := by decide +kernel
theorem dX10_turns_83 : decode cX10_turns 83 = .ok (.iconst 0, 1) := by decide +kernel
theorem dX10_turns_84 : decode cX10_turns 84 = .ok (.istore_n 2, 1) := by decide +kernel
theorem dX10_turns_85 : decode cX10_turns 85 = .ok (.iconst 1, 1) := by decide +kernel
theorem dX10_turns_86 : decode cX10_turns 86 = .ok (.istore_n 3, 1) := by decide +kernel
theorem dX10_turns_87 : decode cX10_turns 87 = .ok (.iload_n 3, 1) := by decide +kernel
theorem dX10_turns_88 : decode cX10_turns 88 = .ok (.ifCond .eq 118, 3) := by decide +kernel
theorem dX10_turns_91 : decode cX10_turns 91 = .ok (.aload_n 0, 1) := by decide +kernel
theorem dX10_turns_92 : decode cX10_turns 92 = .ok (.getfield 150, 3) := by decide +kernel
theorem dX10_turns_95 : decode cX10_turns 95 = .ok (.istore 4, 2) := by decide +kernel
theorem dX10_turns_97 : decode cX10_turns 97 = .ok (.aload_n 0, 1) := by decide +kernel
theorem dX10_turns_98 : decode cX10_turns 98 = .ok (.invokevirtual 254, 3) := by decide +kernel
theorem dX10_turns_101 : decode cX10_turns 101 = .ok (.ifCond .ne 5, 3) := by decide +kernel
theorem dX10_turns_104 : decode cX10_turns 104 = .ok (.iconst 0, 1) := by decide +kernel
theorem dX10_turns_105 : decode cX10_turns 105 = .ok (.ireturn, 1) := by decide +kernel
theorem dX10_turns_106 : decode cX10_turns 106 = .ok (.iload_n 2, 1) := by decide +kernel
theorem dX10_turns_107 : decode cX10_turns 107 = .ok (.bipush 8, 2) := by decide +kernel
theorem dX10_turns_109 : decode cX10_turns 109 = .ok (.if_icmp .ne 11, 3) := by decide +kernel
theorem dX10_turns_112 : decode cX10_turns 112 = .ok (.aload_n 0, 1) := by decide +kernel
theorem dX10_turns_113 : decode cX10_turns 113 = .ok (.iconst 4, 1) := by decide +kernel
theorem dX10_turns_114 : decode cX10_turns 114 = .ok (.iload 4, 2) := by decide +kernel
theorem dX10_turns_116 : decode cX10_turns 116 = .ok (.invokevirtual 176, 3) := by decide +kernel
theorem dX10_turns_119 : decode cX10_turns 119 = .ok (.ireturn, 1) := by decide +kernel
theorem dX10_turns_120 : decode cX10_turns 120 = .ok (.aload_n 0, 1) := by decide +kernel
theorem dX10_turns_121 : decode cX10_turns 121 = .ok (.getfield 55, 3) := by decide +kernel
theorem dX10_turns_124 : decode cX10_turns 124 = .ok (.bipush 8, 2) := by decide +kernel
theorem dX10_turns_126 : decode cX10_turns 126 = .ok (.iload_n 1, 1) := by decide +kernel
theorem dX10_turns_127 : decode cX10_turns 127 = .ok (.imul, 1) := by decide +kernel
theorem dX10_turns_128 : decode cX10_turns 128 = .ok (.iload_n 2, 1) := by decide +kernel
theorem dX10_turns_129 : decode cX10_turns 129 = .ok (.iadd, 1) := by decide +kernel
theorem dX10_turns_130 : decode cX10_turns 130 = .ok (.aload_n 0, 1) := by decide +kernel
theorem dX10_turns_131 : decode cX10_turns 131 = .ok (.getfield 191, 3) := by decide +kernel
theorem dX10_turns_134 : decode cX10_turns 134 = .ok (.iastore, 1) := by decide +kernel
theorem dX10_turns_135 : decode cX10_turns 135 = .ok (.aload_n 0, 1) := by decide +kernel
theorem dX10_turns_136 : decode cX10_turns 136 = .ok (.iconst 1, 1) := by decide +kernel
theorem dX10_turns_137 : decode cX10_turns 137 = .ok (.bipush 9, 2) := by decide +kernel
theorem dX10_turns_139 : decode cX10_turns 139 = .ok (.invokevirtual 251, 3) := by decide +kernel
theorem dX10_turns_142 : decode cX10_turns 142 = .ok (.ifCond .ne 5, 3) := by decide +kernel
theorem dX10_turns_145 : decode cX10_turns 145 = .ok (.iconst 0, 1) := by decide +kernel
theorem dX10_turns_146 : decode cX10_turns 146 = .ok (.ireturn, 1) := by decide +kernel
theorem dX10_turns_147 : decode cX10_turns 147 = .ok (.aload_n 0, 1) := by decide +kernel
theorem dX10_turns_148 : decode cX10_turns 148 = .ok (.getfield 58, 3) := by decide +kernel
theorem dX10_turns_151 : decode cX10_turns 151 = .ok (.bipush 8, 2) := by decide +kernel
theorem dX10_turns_153 : decode cX10_turns 153 = .ok (.iload_n 1, 1) := by decide +kernel
theorem dX10_turns_154 : decode cX10_turns 154 = .ok (.imul, 1) := by decide +kernel
theorem dX10_turns_155 : decode cX10_turns 155 = .ok (.iload_n 2, 1) := by decide +kernel
theorem dX10_turns_156 : decode cX10_turns 156 = .ok (.iadd, 1) := by decide +kernel
theorem dX10_turns_157 : decode cX10_turns 157 = .ok (.aload_n 0, 1) := by decide +kernel
theorem dX10_turns_158 : decode cX10_turns 158 = .ok (.getfield 191, 3) := by decide +kernel
theorem dX10_turns_161 : decode cX10_turns 161 = .ok (.iastore, 1) := by decide +kernel
theorem dX10_turns_162 : decode cX10_turns 162 = .ok (.iinc 2 1, 3) := by decide +kernel
theorem dX10_turns_165 : decode cX10_turns 165 = .ok (.aload_n 0, 1) := by decide +kernel
theorem dX10_turns_166 : decode cX10_turns 166 = .ok (.getfield 52, 3) := by decide +kernel
theorem dX10_turns_169 : decode cX10_turns 169 = .ok (.iload_n 1, 1) := by decide +kernel
theorem dX10_turns_170 : decode cX10_turns 170 = .ok (.iload_n 2, 1) := by decide +kernel
theorem dX10_turns_171 : decode cX10_turns 171 = .ok (.iastore, 1) := by decide +kernel
theorem dX10_turns_172 : decode cX10_turns 172 = .ok (.aload_n 0, 1) := by decide +kernel
theorem dX10_turns_173 : decode cX10_turns 173 = .ok (.getfield 153, 3) := by decide +kernel
theorem dX10_turns_176 : decode cX10_turns 176 = .ok (.iconst 3, 1) := by decide +kernel
theorem dX10_turns_177 : decode cX10_turns 177 = .ok (.if_icmp .ne 16, 3) := by decide +kernel
theorem dX10_turns_180 : decode cX10_turns 180 = .ok (.aload_n 0, 1) := by decide +kernel
theorem dX10_turns_181 : decode cX10_turns 181 = .ok (.getfield 167, 3) := by decide +kernel
theorem dX10_turns_184 : decode cX10_turns 184 = .ok (.bipush 44, 2) := by decide +kernel
theorem dX10_turns_186 : decode cX10_turns 186 = .ok (.if_icmp .ne 7, 3) := by decide +kernel
theorem dX10_turns_189 : decode cX10_turns 189 = .ok (.iconst 1, 1) := by decide +kernel
theorem dX10_turns_190 : decode cX10_turns 190 = .ok (.goto 4, 3) := by decide +kernel
theorem dX10_turns_193 : decode cX10_turns 193 = .ok (.iconst 0, 1) := by decide +kernel
theorem dX10_turns_194 : decode cX10_turns 194 = .ok (.istore_n 3, 1) := by decide +kernel
theorem dX10_turns_195 : decode cX10_turns 195 = .ok (.iload_n 3, 1) := by decide +kernel
theorem dX10_turns_196 : decode cX10_turns 196 = .ok (.ifCond .eq 7, 3) := by decide +kernel
theorem dX10_turns_199 : decode cX10_turns 199 = .ok (.aload_n 0, 1) := by decide +kernel
theorem dX10_turns_200 : decode cX10_turns 200 = .ok (.invokevirtual 184, 3) := by decide +kernel
theorem dX10_turns_203 : decode cX10_turns 203 = .ok (.goto (-116), 3) := by decide +kernel
theorem dX10_turns_206 : decode cX10_turns 206 = .ok (.iconst 1, 1) := by decide +kernel
theorem dX10_turns_207 : decode cX10_turns 207 = .ok (.ireturn, 1) := by decide +kernel
theorem dX10_wed_0 : decode cX10_wed 0 = .ok (.aload_n 0, 1) := by decide +kernel
theorem dX10_wed_1 : decode cX10_wed 1 = .ok (.invokevirtual 254, 3) := by decide +kernel
theorem dX10_wed_4 : decode cX10_wed 4 = .ok (.ifCond .ne 5, 3) := by decide +kernel
theorem dX10_wed_7 : decode cX10_wed 7 = .ok (.iconst 0, 1) := by decide +kernel
theorem dX10_wed_8 : decode cX10_wed 8 = .ok (.ireturn, 1) := by decide +kernel
theorem dX10_wed_9 : decode cX10_wed 9 = .ok (.aload_n 0, 1) := by decide +kernel
theorem dX10_wed_10 : decode cX10_wed 10 = .ok (.getfield 40, 3) := by decide +kernel
theorem dX10_wed_13 : decode cX10_wed 13 = .ok (.iload_n 1, 1) := by decide +kernel
theorem dX10_wed_14 : decode cX10_wed 14 = .ok (.aload_n 0, 1) := by decide +kernel
theorem dX10_wed_15 : decode cX10_wed 15 = .ok (.getfield 191, 3) := by decide +kernel
theorem dX10_wed_18 : decode cX10_wed 18 = .ok (.iastore, 1) := by decide +kernel
theorem dX10_wed_19 : decode cX10_wed 19 = .ok (.aload_n 0, 1) := by decide +kernel
theorem dX10_wed_20 : decode cX10_wed 20 = .ok (.invokevirtual 254, 3) := by decide +kernel
theorem dX10_wed_23 : decode cX10_wed 23 = .ok (.ifCond .ne 5, 3) := by decide +kernel
theorem dX10_wed_26 : decode cX10_wed 26 = .ok (.iconst 0, 1) := by decide +kernel
theorem dX10_wed_27 : decode cX10_wed 27 = .ok (.ireturn, 1) := by decide +kernel
theorem dX10_wed_28 : decode cX10_wed 28 = .ok (.aload_n 0, 1) := by decide +kernel
theorem dX10_wed_29 : decode cX10_wed 29 = .ok (.getfield 43, 3) := by decide +kernel
theorem dX10_wed_32 : decode cX10_wed 32 = .ok (.iload_n 1, 1) := by decide +kernel
theorem dX10_wed_33 : decode cX10_wed 33 = .ok (.aload_n 0, 1) := by decide +kernel
theorem dX10_wed_34 : decode cX10_wed 34 = .ok (.getfield 191, 3) := by decide +kernel
theorem dX10_wed_37 : decode cX10_wed 37 = .ok (.iastore, 1) := by decide +kernel
theorem dX10_wed_38 : decode cX10_wed 38 = .ok (.aload_n 0, 1) := by decide +kernel
theorem dX10_wed_39 : decode cX10_wed 39 = .ok (.getfield 191, 3) := by decide +kernel
theorem dX10_wed_42 : decode cX10_wed 42 = .ok (.aload_n 0, 1) := by decide +kernel
theorem dX10_wed_43 : decode cX10_wed 43 = .ok (.getfield 40, 3) := by decide +kernel
theorem dX10_wed_46 : decode cX10_wed 46 = .ok (.iload_n 1, 1) := by decide +kernel
theorem dX10_wed_47 : decode cX10_wed 47 = .ok (.iaload, 1) := by decide +kernel
theorem dX10_wed_48 : decode cX10_wed 48 = .ok (.if_icmp .ne 15, 3) := by decide +kernel
theorem dX10_wed_51 : decode cX10_wed 51 = .ok (.aload_n 0, 1) := by decide +kernel
theorem dX10_wed_52 : decode cX10_wed 52 = .ok (.iconst 3, 1) := by decide +kernel
theorem dX10_wed_53 : decode cX10_wed 53 = .ok (.aload_n 0, 1) := by decide +kernel
theorem dX10_wed_54 : decode cX10_wed 54 = .ok (.getfield 194, 3) := by decide +kernel
theorem dX10_wed_57 : decode cX10_wed 57 = .ok (.invokevirtual 176, 3) := by decide +kernel
theorem dX10_wed_60 : decode cX10_wed 60 = .ok (.ifCond .eq 7, 3) := by decide +kernel
theorem dX10_wed_63 : decode cX10_wed 63 = .ok (.iconst 1, 1) := by decide +kernel
theorem dX10_wed_64 : decode cX10_wed 64 = .ok (.goto 4, 3) := by decide +kernel
theorem dX10_wed_67 : decode cX10_wed 67 = .ok (.iconst 0, 1) := by decide +kernel
theorem dX10_wed_68 : decode cX10_wed 68 = .ok (.ireturn, 1) := by decide +kernel
/-! the rules of the reference: what keeps a round of turns from being empty -/
def mPos (f g : Nat → Int32) : Prop := ∀ q, 1 ≤ (f q).toInt → 1 ≤ (g q).toInt
theorem mPos.rf {f : Nat → Int32} : mPos f f := fun _ h => h
theorem mPos.trans {f g h : Nat → Int32} (h1 : mPos f g) (h2 : mPos g h) : mPos f h := fun q hq => h2 q (h1 q hq)
theorem mPos.up {f g : Nat → Int32} {j : Nat} {v : Int32} (h : mPos f g) (hv : 1 ≤ v.toInt) : mPos f (upd g j v) := fun q hq => by
  by_cases e : q = j
  · rw [e, pk_us]; exact hv
  · rw [pk_un e]; exact h q hq
/-- where a rule has shares, its first has days -/
def mTdR (f g : Nat → Int32) : Prop := ∀ r, 1 ≤ (f r).toInt → 1 ≤ (g (8 * r)).toInt
theorem mTd_up {f g : Nat → Int32} {r idx v n n1 : Int32} (h : mTdR f g) (hr : 0 ≤ r.toInt) (hidx : idx.toInt = 8 * r.toInt + n.toInt) (hn0 : 0 ≤ n.toInt) (hn : n.toInt ≤ 7) (hv : 1 ≤ v.toInt) (hold : 1 ≤ n.toInt → 1 ≤ (f r.toNatClampNeg).toInt) : mTdR (upd f r.toNatClampNeg n1) (upd g idx.toNatClampNeg v) := by
  have c1 := gs_cl hr
  have c2 := gs_cl (x := idx) (by omega)
  intro q hq
  by_cases e : q = r.toNatClampNeg
  · by_cases e0 : n.toInt = 0
    · have : 8 * q = idx.toNatClampNeg := by omega
      rw [this, pk_us]; exact hv
    · rw [pk_un (by omega), e]
      exact h _ (hold (by omega))
  · rw [pk_un e] at hq
    rw [pk_un (by omega)]
    exact h q hq
/-- the rules 24 b .. 24 b + n - 1: one of turns has shares -/
def mActR (f g : Nat → Int32) (b n : Int) : Prop := ∀ r : Nat, 24 * b ≤ (r : Int) → (r : Int) < 24 * b + n → (f r).toInt = 0 → 1 ≤ (g r).toInt
theorem mAct_pos {f g h : Nat → Int32} {b n : Int} (ha : mActR f g b n) (hp : mPos g h) : mActR f h b n := fun r h1 h2 h3 => hp r (ha r h1 h2 h3)
theorem mAct_keep {f g h : Nat → Int32} {b n : Int} {r s : Int32} (ha : mActR f g b n) (hp : mPos g h) (h0 : 0 ≤ r.toInt) (ho : r.toInt < 24 * b ∨ 24 * b + n ≤ r.toInt) : mActR (upd f r.toNatClampNeg s) h b n := fun q h1 h2 h3 => by
  have c1 := gs_cl h0
  rw [pk_un (by omega)] at h3
  exact hp q (ha q h1 h2 h3)
theorem mAct_new {f g h : Nat → Int32} {b n : Int} {r s : Int32} (ha : mActR f g b n) (hp : mPos g h) (h0 : 0 ≤ r.toInt) (hr : r.toInt = 24 * b + n) (hs : s.toInt = 0 → 1 ≤ (h r.toNatClampNeg).toInt) : mActR (upd f r.toNatClampNeg s) h b (n + 1) := fun q h1 h2 h3 => by
  have c1 := gs_cl h0
  by_cases e : q = r.toNatClampNeg
  · rw [e, pk_us] at h3
    rw [e]; exact hs h3
  · rw [pk_un e] at h3
    exact hp q (ha q h1 (by omega) h3)
theorem mAct_nil {f g : Nat → Int32} {b : Int} : mActR f g b 0 := fun r h1 h2 _ => by omega
theorem gs_div2 {a b x : Int32} {y : Int} (hb : b.toInt = y) (h0 : 0 ≤ a.toInt) (hy : 0 < y) (h : x = a / b) : 0 ≤ x.toInt ∧ x.toInt ≤ a.toInt ∧ y * x.toInt ≤ a.toInt ∧ a.toInt < y * x.toInt + y ∧ x.toInt = (a / b).toInt := by
  obtain ⟨h1, h2, h3, h4⟩ := gs_div hb h0 hy h
  exact ⟨h1, h2, h3, h4, by rw [h]⟩
theorem gs_rem2 {a b x : Int32} {y : Int} (hb : b.toInt = y) (h0 : 0 ≤ a.toInt) (hy : 0 < y) (h : x = a - a / b * b) : 0 ≤ x.toInt ∧ x.toInt < y ∧ x.toInt ≤ a.toInt ∧ x.toInt = a.toInt - y * (a / b).toInt := by
  obtain ⟨h1, h2, h3⟩ := gs_rem hb h0 hy h
  obtain ⟨d0, d1, d2, d3⟩ := gs_div (x := a / b) hb h0 hy rfl
  have h4 := gi_hi a
  have m0 := Int.mul_nonneg (Int.le_of_lt hy) d0
  have m1 : (a / b * b).toInt = (a / b).toInt * y := gz_mulI rfl hb (by rw [Int.mul_comm]; omega) (by rw [Int.mul_comm]; omega)
  rw [Int.mul_comm] at m1
  exact ⟨h1, h2, h3, by rw [h]; exact gz_subI rfl m1 (by omega) (by omega)⟩
set_option maxHeartbeats 4000000 in
set_option maxRecDepth 100000 in
/-- WellCourtModel.guest -/
theorem m_guest (l : Launch) (G : va_G) (cy : Nat → ClassId) (sK sV : Nat → Nat) (ad : Nat → Nat → Nat) (sz : Nat) (st : gS) (hB : gBd bM st) (x : Int32) (Xx : Int) (kx : x.toInt = Xx) (hx0 : 0 ≤ Xx) (hx1 : Xx ≤ 43) : gsMi l yX10_guest cX10_guest 2 (some .boolean) ({ frames := 3, cells := 0, slots := 0, locals := 66 } : Room) G cy sK sV (shM cy ad) cnM ad sz [.ref (ad 0 0), .int x] st (fun (r : Int32) (u : gS) => gBN bM kM [11, 12, 13, 14, 15, 16, 17, 18, 19, 59, 900, 1000, 1100, 1200] st u ∧ ((r = 1) ∨ (r = 0))) := by
  refine gs_start (fun A => gsQi G (shM cy ad) cnM ad _ A) (by decide) (Nat.le_of_ble_eq_true rfl) ?_
  intro p e s m below meth c A ls H hx hb hr hml hlocks hown hts hK hov hE hI hM hm hS hA hl
  have hl : lv_has ls 2 [(0, .ref (ad 0 0)), (1, .int x)] := hl
  have hB_st : gBN bM kM [11, 12, 13, 14, 15, 16, 17, 18, 19, 59, 900, 1000, 1100, 1200] st st := gBN.rf hB
  refine lv_aload_n hx hb dX10_guest_0 rfl (lv_at hl 0 rfl) ?_
  refine gs_calli (va_runV (As := []) (rest := []) ⟨hx, hb, hml, hown, hts⟩ (m_readClan l G cy sK sV ad H.size st hB_st.1  ) ⟨(gz_cb (n := 0) hts gm_1143 gm_12 gm_1146 ⟨by decide +kernel, by decide +kernel, by decide +kernel⟩ ⟨Nat.le_of_ble_eq_true rfl, Nat.le_of_ble_eq_true rfl⟩), hts _ gm_1145, hts _ gs_41⟩ (gs_preV hK hov hE hI hM hm hS hA 0 0 (by decide) rfl rfl) rfl rfl hl.1 rfl (lv_room (Nat.le_of_ble_eq_true rfl)) dX10_guest_1 ⟨Nat.le_of_ble_eq_true rfl, Nat.le_of_ble_eq_true rfl⟩) hm hS hA (fun r_1 st_1 H locs hw_1 hM hS => ?_)
  obtain ⟨n_1, hw_1⟩ := hw_1
  have hB_st_1 : gBN bM kM [11, 12, 13, 14, 15, 16, 17, 18, 19, 59, 900, 1000, 1100, 1200] st st_1 := hB_st.call n_1 (by decide)
  rcases hw_1 with ⟨rfl, hw_1_0, hw_1_1⟩ | rfl
  · skip
    refine lv_if_ne (tgt := 9) hx hb dX10_guest_4 (by decide) (fun _ => ?_) (fun h9 => absurd h9 (by decide))
    refine lv_aload_n hx hb dX10_guest_9 rfl (lv_at hl 0 rfl) ?_
    refine gs_get (C := RX10) (T := TX10) (N := 59) hx hb hts inX10 hown hK hM 0 0 21 (by decide) rfl rfl (by decide) (hts _ gm_918) (fun _ h9 => h9) rfl dX10_guest_10 ?_
    refine lv_iload_n hx hb dX10_guest_13 rfl (lv_at hl 1 rfl) ?_
    refine lv_aload_n hx hb dX10_guest_14 rfl (lv_at hl 0 rfl) ?_
    refine gs_get (C := RX10) (T := TX10) (N := 59) hx hb hts inX10 hown hK hM 0 0 18 (by decide) rfl rfl (by decide) (hts _ gm_915) (fun _ h9 => h9) rfl dX10_guest_15 ?_
    refine gs_iast hx hb hK hI hm hM hS 9 0 (by decide) (fun _ => rfl) (vp_in_iff.mpr ⟨by omega, by omega⟩) dX10_guest_18 (fun st_3 H locs est_3 hM hS => ?_)
    have hB_st_3 : gBN bM kM [11, 12, 13, 14, 15, 16, 17, 18, 19, 59, 900, 1000, 1100, 1200] st st_3 := by rw [est_3]; exact hB_st_1.up (show (900 : Nat) ∈ _ from by decide) (show (0 : Int) ≤ (st_1 0 0 18).toInt from by omega) (show (st_1 0 0 18).toInt ≤ (5 : Int) from by omega)
    refine lv_aload_n hx hb dX10_guest_19 rfl (lv_at hl 0 rfl) ?_
    refine lv_ldc2 (v := 24948) hx hb hown (hts _ gm_1153) dX10_guest_20 ?_
    refine gs_calli (va_runV (As := [.long (24948 : Int64)]) (rest := []) ⟨hx, hb, hml, hown, hts⟩ (m_mustWord l G cy sK sV ad H.size st_3 hB_st_3.1 (24948 : Int64) ) ⟨(gz_cb (n := 1) hts gm_1154 gm_12 gm_1157 ⟨by decide +kernel, by decide +kernel, by decide +kernel⟩ ⟨Nat.le_of_ble_eq_true rfl, Nat.le_of_ble_eq_true rfl⟩), hts _ gm_1156, hts _ gs_43⟩ (gs_preV hK hov hE hI hM hm hS hA 0 0 (by decide) rfl rfl) rfl rfl hl.1 rfl (lv_room (Nat.le_of_ble_eq_true rfl)) dX10_guest_23 ⟨Nat.le_of_ble_eq_true rfl, Nat.le_of_ble_eq_true rfl⟩) hm hS hA (fun r_4 st_4 H locs hw_4 hM hS => ?_)
    obtain ⟨n_4, hw_4⟩ := hw_4
    have hB_st_4 : gBN bM kM [11, 12, 13, 14, 15, 16, 17, 18, 19, 59, 900, 1000, 1100, 1200] st st_4 := hB_st_3.call n_4 (by decide)
    rcases hw_4 with rfl | rfl
    · skip
      refine lv_if_eq (tgt := 38) hx hb dX10_guest_26 (by decide) (fun h9 => absurd h9 (by decide)) (fun _ => ?_)
      refine lv_aload_n hx hb dX10_guest_29 rfl (lv_at hl 0 rfl) ?_
      refine lv_iconst (v := 0) hx hb dX10_guest_30 (by decide) ?_
      refine lv_iconst (v := 5) hx hb dX10_guest_31 (by decide) ?_
      refine gs_calli (va_runV (As := [.int 0, .int 5]) (rest := []) ⟨hx, hb, hml, hown, hts⟩ (m_readNumber l G cy sK sV ad H.size st_4 hB_st_4.1 (0 : Int32) (5 : Int32) 0 5 (by decide) (by decide) ) ⟨(gz_cb (n := 2) hts gm_1135 gm_12 gm_1138 ⟨by decide +kernel, by decide +kernel, by decide +kernel⟩ ⟨Nat.le_of_ble_eq_true rfl, Nat.le_of_ble_eq_true rfl⟩), hts _ gm_1137, hts _ gs_39⟩ (gs_preV hK hov hE hI hM hm hS hA 0 0 (by decide) rfl rfl) rfl rfl hl.1 rfl (lv_room (Nat.le_of_ble_eq_true rfl)) dX10_guest_32 ⟨Nat.le_of_ble_eq_true rfl, Nat.le_of_ble_eq_true rfl⟩) hm hS hA (fun r_5 st_5 H locs hw_5 hM hS => ?_)
      obtain ⟨n_5, hw_5⟩ := hw_5
      have hB_st_5 : gBN bM kM [11, 12, 13, 14, 15, 16, 17, 18, 19, 59, 900, 1000, 1100, 1200] st st_5 := hB_st_4.call n_5 (by decide)
      rcases hw_5 with ⟨rfl, hw_5_0, hw_5_1⟩ | rfl
      · skip
        refine lv_if_ne (tgt := 40) hx hb dX10_guest_35 (by decide) (fun _ => ?_) (fun h9 => absurd h9 (by decide))
        refine lv_aload_n hx hb dX10_guest_40 rfl (lv_at hl 0 rfl) ?_
        refine gs_get (C := RX10) (T := TX10) (N := 59) hx hb hts inX10 hown hK hM 0 0 22 (by decide) rfl rfl (by decide) (hts _ gm_919) (fun _ h9 => h9) rfl dX10_guest_41 ?_
        refine lv_iload_n hx hb dX10_guest_44 rfl (lv_at hl 1 rfl) ?_
        refine lv_aload_n hx hb dX10_guest_45 rfl (lv_at hl 0 rfl) ?_
        refine gs_get (C := RX10) (T := TX10) (N := 59) hx hb hts inX10 hown hK hM 0 0 18 (by decide) rfl rfl (by decide) (hts _ gm_915) (fun _ h9 => h9) rfl dX10_guest_46 ?_
        refine gs_iast hx hb hK hI hm hM hS 10 0 (by decide) (fun _ => rfl) (vp_in_iff.mpr ⟨by omega, by omega⟩) dX10_guest_49 (fun st_7 H locs est_7 hM hS => ?_)
        have hB_st_7 : gBN bM kM [11, 12, 13, 14, 15, 16, 17, 18, 19, 59, 900, 1000, 1100, 1200] st st_7 := by rw [est_7]; exact hB_st_5.up (show (1000 : Nat) ∈ _ from by decide) (gi_lo _) (gi_hi _)
        refine lv_aload_n hx hb dX10_guest_50 rfl (lv_at hl 0 rfl) ?_
        refine lv_ldc2 (v := 28518) hx hb hown (hts _ gm_1158) dX10_guest_51 ?_
        refine gs_calli (va_runV (As := [.long (28518 : Int64)]) (rest := []) ⟨hx, hb, hml, hown, hts⟩ (m_mustWord l G cy sK sV ad H.size st_7 hB_st_7.1 (28518 : Int64) ) ⟨(gz_cb (n := 1) hts gm_1154 gm_12 gm_1157 ⟨by decide +kernel, by decide +kernel, by decide +kernel⟩ ⟨Nat.le_of_ble_eq_true rfl, Nat.le_of_ble_eq_true rfl⟩), hts _ gm_1156, hts _ gs_43⟩ (gs_preV hK hov hE hI hM hm hS hA 0 0 (by decide) rfl rfl) rfl rfl hl.1 rfl (lv_room (Nat.le_of_ble_eq_true rfl)) dX10_guest_54 ⟨Nat.le_of_ble_eq_true rfl, Nat.le_of_ble_eq_true rfl⟩) hm hS hA (fun r_8 st_8 H locs hw_8 hM hS => ?_)
        obtain ⟨n_8, hw_8⟩ := hw_8
        have hB_st_8 : gBN bM kM [11, 12, 13, 14, 15, 16, 17, 18, 19, 59, 900, 1000, 1100, 1200] st st_8 := hB_st_7.call n_8 (by decide)
        rcases hw_8 with rfl | rfl
        · skip
          refine lv_if_eq (tgt := 67) hx hb dX10_guest_57 (by decide) (fun h9 => absurd h9 (by decide)) (fun _ => ?_)
          refine lv_aload_n hx hb dX10_guest_60 rfl (lv_at hl 0 rfl) ?_
          refine gs_calli (va_runV (As := []) (rest := []) ⟨hx, hb, hml, hown, hts⟩ (m_readClan l G cy sK sV ad H.size st_8 hB_st_8.1  ) ⟨(gz_cb (n := 0) hts gm_1143 gm_12 gm_1146 ⟨by decide +kernel, by decide +kernel, by decide +kernel⟩ ⟨Nat.le_of_ble_eq_true rfl, Nat.le_of_ble_eq_true rfl⟩), hts _ gm_1145, hts _ gs_41⟩ (gs_preV hK hov hE hI hM hm hS hA 0 0 (by decide) rfl rfl) rfl rfl hl.1 rfl (lv_room (Nat.le_of_ble_eq_true rfl)) dX10_guest_61 ⟨Nat.le_of_ble_eq_true rfl, Nat.le_of_ble_eq_true rfl⟩) hm hS hA (fun r_9 st_9 H locs hw_9 hM hS => ?_)
          obtain ⟨n_9, hw_9⟩ := hw_9
          have hB_st_9 : gBN bM kM [11, 12, 13, 14, 15, 16, 17, 18, 19, 59, 900, 1000, 1100, 1200] st st_9 := hB_st_8.call n_9 (by decide)
          rcases hw_9 with ⟨rfl, hw_9_0, hw_9_1⟩ | rfl
          · skip
            refine lv_if_ne (tgt := 69) hx hb dX10_guest_64 (by decide) (fun _ => ?_) (fun h9 => absurd h9 (by decide))
            refine lv_aload_n hx hb dX10_guest_69 rfl (lv_at hl 0 rfl) ?_
            refine gs_get (C := RX10) (T := TX10) (N := 59) hx hb hts inX10 hown hK hM 0 0 18 (by decide) rfl rfl (by decide) (hts _ gm_915) (fun _ h9 => h9) rfl dX10_guest_70 ?_
            refine lv_aload_n hx hb dX10_guest_73 rfl (lv_at hl 0 rfl) ?_
            refine gs_get (C := RX10) (T := TX10) (N := 59) hx hb hts inX10 hown hK hM 0 0 21 (by decide) rfl rfl (by decide) (hts _ gm_918) (fun _ h9 => h9) rfl dX10_guest_74 ?_
            refine lv_iload_n hx hb dX10_guest_77 rfl (lv_at hl 1 rfl) ?_
            refine gs_iald hx hb hK hM 9 0 (by decide) rfl (vp_in_iff.mpr ⟨by omega, by omega⟩) dX10_guest_78 ?_
            refine lv_topi (fun x_11 ex_11 => ?_)
            have qx_11 : x_11.toInt = (st_9 9 0 (x.toNatClampNeg)).toInt := congrArg Int32.toInt ex_11
            have bx_11 : (0 : Int) ≤ x_11.toInt ∧ x_11.toInt ≤ (5 : Int) := by rw [qx_11]; exact hB_st_9.1 9 0 (x.toNatClampNeg)
            have rx_11 : x_11.toInt = ((st_1 0 0 18) : Int32).toInt := by rw [ex_11]; exact congrArg Int32.toInt (((n_9.2 9 0 (x.toNatClampNeg) (show (900 : Nat) ∉ _ from by decide)).trans ((n_8.2 9 0 (x.toNatClampNeg) (show (900 : Nat) ∉ _ from by decide)).trans (((congrFun (congrFun (congrFun est_7 9) 0) (x.toNatClampNeg)).trans (congrFun (congrFun (gU_k (by decide)) 0) (x.toNatClampNeg))).trans ((n_5.2 9 0 (x.toNatClampNeg) (show (900 : Nat) ∉ _ from by decide)).trans ((n_4.2 9 0 (x.toNatClampNeg) (show (900 : Nat) ∉ _ from by decide)).trans ((congrFun (congrFun (congrFun est_3 9) 0) (x.toNatClampNeg)).trans (gU_same _ _ _ _ _))))))))
            refine lv_icmp_ne (tgt := 92) hx hb dX10_guest_79 (by decide) (fun c_12 => ?_) (fun c_12 => ?_)
            · have ic_12 := gz_ne (rfl : (st_9 0 0 18).toInt = (st_9 0 0 18).toInt) (rfl : x_11.toInt = x_11.toInt) c_12
              refine lv_aload_n hx hb dX10_guest_92 rfl (lv_at hl 0 rfl) ?_
              refine gs_get (C := RX10) (T := TX10) (N := 59) hx hb hts inX10 hown hK hM 0 0 23 (by decide) rfl rfl (by decide) (hts _ gm_920) (fun _ h9 => h9) rfl dX10_guest_93 ?_
              refine lv_iload_n hx hb dX10_guest_96 rfl (lv_at hl 1 rfl) ?_
              refine lv_aload_n hx hb dX10_guest_97 rfl (lv_at hl 0 rfl) ?_
              refine gs_get (C := RX10) (T := TX10) (N := 59) hx hb hts inX10 hown hK hM 0 0 18 (by decide) rfl rfl (by decide) (hts _ gm_915) (fun _ h9 => h9) rfl dX10_guest_98 ?_
              refine gs_iast hx hb hK hI hm hM hS 11 0 (by decide) (fun _ => rfl) (vp_in_iff.mpr ⟨by omega, by omega⟩) dX10_guest_101 (fun st_14 H locs est_14 hM hS => ?_)
              have hB_st_14 : gBN bM kM [11, 12, 13, 14, 15, 16, 17, 18, 19, 59, 900, 1000, 1100, 1200] st st_14 := by rw [est_14]; exact hB_st_9.up (show (1100 : Nat) ∈ _ from by decide) (gi_lo _) (gi_hi _)
              refine lv_aload_n hx hb dX10_guest_102 rfl (lv_at hl 0 rfl) ?_
              refine lv_iconst (v := 0) hx hb dX10_guest_103 (by decide) ?_
              refine lv_sipush (v := 1000) hx hb dX10_guest_104 (by decide) ?_
              refine gs_calli (va_runV (As := [.int 0, .int 1000]) (rest := []) ⟨hx, hb, hml, hown, hts⟩ (m_readNumber l G cy sK sV ad H.size st_14 hB_st_14.1 (0 : Int32) (1000 : Int32) 0 1000 (by decide) (by decide) ) ⟨(gz_cb (n := 2) hts gm_1135 gm_12 gm_1138 ⟨by decide +kernel, by decide +kernel, by decide +kernel⟩ ⟨Nat.le_of_ble_eq_true rfl, Nat.le_of_ble_eq_true rfl⟩), hts _ gm_1137, hts _ gs_39⟩ (gs_preV hK hov hE hI hM hm hS hA 0 0 (by decide) rfl rfl) rfl rfl hl.1 rfl (lv_room (Nat.le_of_ble_eq_true rfl)) dX10_guest_107 ⟨Nat.le_of_ble_eq_true rfl, Nat.le_of_ble_eq_true rfl⟩) hm hS hA (fun r_15 st_15 H locs hw_15 hM hS => ?_)
              obtain ⟨n_15, hw_15⟩ := hw_15
              have hB_st_15 : gBN bM kM [11, 12, 13, 14, 15, 16, 17, 18, 19, 59, 900, 1000, 1100, 1200] st st_15 := hB_st_14.call n_15 (by decide)
              rcases hw_15 with ⟨rfl, hw_15_0, hw_15_1⟩ | rfl
              · skip
                refine lv_if_ne (tgt := 115) hx hb dX10_guest_110 (by decide) (fun _ => ?_) (fun h9 => absurd h9 (by decide))
                refine lv_aload_n hx hb dX10_guest_115 rfl (lv_at hl 0 rfl) ?_
                refine gs_get (C := RX10) (T := TX10) (N := 59) hx hb hts inX10 hown hK hM 0 0 24 (by decide) rfl rfl (by decide) (hts _ gm_921) (fun _ h9 => h9) rfl dX10_guest_116 ?_
                refine lv_iload_n hx hb dX10_guest_119 rfl (lv_at hl 1 rfl) ?_
                refine lv_aload_n hx hb dX10_guest_120 rfl (lv_at hl 0 rfl) ?_
                refine gs_get (C := RX10) (T := TX10) (N := 59) hx hb hts inX10 hown hK hM 0 0 18 (by decide) rfl rfl (by decide) (hts _ gm_915) (fun _ h9 => h9) rfl dX10_guest_121 ?_
                refine gs_iast hx hb hK hI hm hM hS 12 0 (by decide) (fun _ => rfl) (vp_in_iff.mpr ⟨by omega, by omega⟩) dX10_guest_124 (fun st_17 H locs est_17 hM hS => ?_)
                have hB_st_17 : gBN bM kM [11, 12, 13, 14, 15, 16, 17, 18, 19, 59, 900, 1000, 1100, 1200] st st_17 := by rw [est_17]; exact hB_st_15.up (show (1200 : Nat) ∈ _ from by decide) (gi_lo _) (gi_hi _)
                refine lv_iconst (v := 1) hx hb dX10_guest_125 (by decide) ?_
                exact gs_iret hx hb hr hlocks hM hS (by decide) ⟨hB_st_17, (Or.inl rfl)⟩ (by exact Nat.le_refl _) (by exact Nat.le_refl _) dX10_guest_126
              · skip
                refine lv_if_ne (tgt := 115) hx hb dX10_guest_110 (by decide) (fun h9 => absurd (by decide) h9) (fun _ => ?_)
                refine lv_iconst (v := 0) hx hb dX10_guest_113 (by decide) ?_
                exact gs_iret hx hb hr hlocks hM hS (by decide) ⟨hB_st_15, (Or.inr (rfl))⟩ (by exact Nat.le_refl _) (by exact Nat.le_refl _) dX10_guest_114
            · have ic_12 := gz_eqn (rfl : (st_9 0 0 18).toInt = (st_9 0 0 18).toInt) (rfl : x_11.toInt = x_11.toInt) c_12
              refine lv_aload_n hx hb dX10_guest_82 rfl (lv_at hl 0 rfl) ?_
              refine lv_iconst (v := 3) hx hb dX10_guest_83 (by decide) ?_
              refine lv_aload_n hx hb dX10_guest_84 rfl (lv_at hl 0 rfl) ?_
              refine gs_get (C := RX10) (T := TX10) (N := 59) hx hb hts inX10 hown hK hM 0 0 19 (by decide) rfl rfl (by decide) (hts _ gm_916) (fun _ h9 => h9) rfl dX10_guest_85 ?_
              refine gs_calli (va_runV (As := [.int 3, .int (st_9 0 0 19)]) (rest := []) ⟨hx, hb, hml, hown, hts⟩ (m_wrong l G cy sK sV ad H.size st_9 hB_st_9.1 (3 : Int32) (st_9 0 0 19) ) ⟨(gz_cb (n := 2) hts gm_1127 gm_12 gm_1130 ⟨by decide +kernel, by decide +kernel, by decide +kernel⟩ ⟨Nat.le_of_ble_eq_true rfl, Nat.le_of_ble_eq_true rfl⟩), hts _ gm_1129, hts _ gs_37⟩ (gs_preV hK hov hE hI hM hm hS hA 0 0 (by decide) rfl rfl) rfl rfl hl.1 rfl (lv_room (Nat.le_of_ble_eq_true rfl)) dX10_guest_88 ⟨Nat.le_of_ble_eq_true rfl, Nat.le_of_ble_eq_true rfl⟩) hm hS hA (fun r_19 st_19 H locs hw_19 hM hS => ?_)
              obtain ⟨n_19, hw_19⟩ := hw_19
              have hB_st_19 : gBN bM kM [11, 12, 13, 14, 15, 16, 17, 18, 19, 59, 900, 1000, 1100, 1200] st st_19 := hB_st_9.call n_19 (by decide)
              obtain rfl := hw_19
              exact gs_iret hx hb hr hlocks hM hS (by decide) ⟨hB_st_19, (Or.inr (rfl))⟩ (by exact Nat.le_refl _) (by exact Nat.le_refl _) dX10_guest_91
          · skip
            refine lv_if_ne (tgt := 69) hx hb dX10_guest_64 (by decide) (fun h9 => absurd (by decide) h9) (fun _ => ?_)
            refine lv_iconst (v := 0) hx hb dX10_guest_67 (by decide) ?_
            exact gs_iret hx hb hr hlocks hM hS (by decide) ⟨hB_st_9, (Or.inr (rfl))⟩ (by exact Nat.le_refl _) (by exact Nat.le_refl _) dX10_guest_68
        · skip
          refine lv_if_eq (tgt := 67) hx hb dX10_guest_57 (by decide) (fun _ => ?_) (fun h9 => absurd (by decide) h9)
          refine lv_iconst (v := 0) hx hb dX10_guest_67 (by decide) ?_
          exact gs_iret hx hb hr hlocks hM hS (by decide) ⟨hB_st_8, (Or.inr (rfl))⟩ (by exact Nat.le_refl _) (by exact Nat.le_refl _) dX10_guest_68
      · skip
        refine lv_if_ne (tgt := 40) hx hb dX10_guest_35 (by decide) (fun h9 => absurd (by decide) h9) (fun _ => ?_)
        refine lv_iconst (v := 0) hx hb dX10_guest_38 (by decide) ?_
        exact gs_iret hx hb hr hlocks hM hS (by decide) ⟨hB_st_5, (Or.inr (rfl))⟩ (by exact Nat.le_refl _) (by exact Nat.le_refl _) dX10_guest_39
    · skip
      refine lv_if_eq (tgt := 38) hx hb dX10_guest_26 (by decide) (fun _ => ?_) (fun h9 => absurd (by decide) h9)
      refine lv_iconst (v := 0) hx hb dX10_guest_38 (by decide) ?_
      exact gs_iret hx hb hr hlocks hM hS (by decide) ⟨hB_st_4, (Or.inr (rfl))⟩ (by exact Nat.le_refl _) (by exact Nat.le_refl _) dX10_guest_39
  · skip
    refine lv_if_ne (tgt := 9) hx hb dX10_guest_4 (by decide) (fun h9 => absurd (by decide) h9) (fun _ => ?_)
    refine lv_iconst (v := 0) hx hb dX10_guest_7 (by decide) ?_
    exact gs_iret hx hb hr hlocks hM hS (by decide) ⟨hB_st_1, (Or.inr (rfl))⟩ (by exact Nat.le_refl _) (by exact Nat.le_refl _) dX10_guest_8

set_option maxHeartbeats 4000000 in
set_option maxRecDepth 100000 in
/-- WellCourtModel.wed -/
theorem m_wed (l : Launch) (G : va_G) (cy : Nat → ClassId) (sK sV : Nat → Nat) (ad : Nat → Nat → Nat) (sz : Nat) (st : gS) (hB : gBd bM st) (x : Int32) (Xx : Int) (kx : x.toInt = Xx) (hx0 : 0 ≤ Xx) (hx1 : Xx ≤ 43) : gsMi l yX10_wed cX10_wed 2 (some .boolean) ({ frames := 3, cells := 0, slots := 0, locals := 64 } : Room) G cy sK sV (shM cy ad) cnM ad sz [.ref (ad 0 0), .int x] st (fun (r : Int32) (u : gS) => gBN bM kM [11, 12, 13, 14, 15, 16, 17, 18, 19, 59, 900, 1000] st u ∧ ((r = 1) ∨ (r = 0))) := by
  refine gs_start (fun A => gsQi G (shM cy ad) cnM ad _ A) (by decide) (Nat.le_of_ble_eq_true rfl) ?_
  intro p e s m below meth c A ls H hx hb hr hml hlocks hown hts hK hov hE hI hM hm hS hA hl
  have hl : lv_has ls 2 [(0, .ref (ad 0 0)), (1, .int x)] := hl
  have hB_st : gBN bM kM [11, 12, 13, 14, 15, 16, 17, 18, 19, 59, 900, 1000] st st := gBN.rf hB
  refine lv_aload_n hx hb dX10_wed_0 rfl (lv_at hl 0 rfl) ?_
  refine gs_calli (va_runV (As := []) (rest := []) ⟨hx, hb, hml, hown, hts⟩ (m_readClan l G cy sK sV ad H.size st hB_st.1  ) ⟨(gz_cb (n := 0) hts gm_1143 gm_12 gm_1146 ⟨by decide +kernel, by decide +kernel, by decide +kernel⟩ ⟨Nat.le_of_ble_eq_true rfl, Nat.le_of_ble_eq_true rfl⟩), hts _ gm_1145, hts _ gs_41⟩ (gs_preV hK hov hE hI hM hm hS hA 0 0 (by decide) rfl rfl) rfl rfl hl.1 rfl (lv_room (Nat.le_of_ble_eq_true rfl)) dX10_wed_1 ⟨Nat.le_of_ble_eq_true rfl, Nat.le_of_ble_eq_true rfl⟩) hm hS hA (fun r_1 st_1 H locs hw_1 hM hS => ?_)
  obtain ⟨n_1, hw_1⟩ := hw_1
  have hB_st_1 : gBN bM kM [11, 12, 13, 14, 15, 16, 17, 18, 19, 59, 900, 1000] st st_1 := hB_st.call n_1 (by decide)
  rcases hw_1 with ⟨rfl, hw_1_0, hw_1_1⟩ | rfl
  · skip
    refine lv_if_ne (tgt := 9) hx hb dX10_wed_4 (by decide) (fun _ => ?_) (fun h9 => absurd h9 (by decide))
    refine lv_aload_n hx hb dX10_wed_9 rfl (lv_at hl 0 rfl) ?_
    refine gs_get (C := RX10) (T := TX10) (N := 59) hx hb hts inX10 hown hK hM 0 0 21 (by decide) rfl rfl (by decide) (hts _ gm_918) (fun _ h9 => h9) rfl dX10_wed_10 ?_
    refine lv_iload_n hx hb dX10_wed_13 rfl (lv_at hl 1 rfl) ?_
    refine lv_aload_n hx hb dX10_wed_14 rfl (lv_at hl 0 rfl) ?_
    refine gs_get (C := RX10) (T := TX10) (N := 59) hx hb hts inX10 hown hK hM 0 0 18 (by decide) rfl rfl (by decide) (hts _ gm_915) (fun _ h9 => h9) rfl dX10_wed_15 ?_
    refine gs_iast hx hb hK hI hm hM hS 9 0 (by decide) (fun _ => rfl) (vp_in_iff.mpr ⟨by omega, by omega⟩) dX10_wed_18 (fun st_3 H locs est_3 hM hS => ?_)
    have hB_st_3 : gBN bM kM [11, 12, 13, 14, 15, 16, 17, 18, 19, 59, 900, 1000] st st_3 := by rw [est_3]; exact hB_st_1.up (show (900 : Nat) ∈ _ from by decide) (show (0 : Int) ≤ (st_1 0 0 18).toInt from by omega) (show (st_1 0 0 18).toInt ≤ (5 : Int) from by omega)
    refine lv_aload_n hx hb dX10_wed_19 rfl (lv_at hl 0 rfl) ?_
    refine gs_calli (va_runV (As := []) (rest := []) ⟨hx, hb, hml, hown, hts⟩ (m_readClan l G cy sK sV ad H.size st_3 hB_st_3.1  ) ⟨(gz_cb (n := 0) hts gm_1143 gm_12 gm_1146 ⟨by decide +kernel, by decide +kernel, by decide +kernel⟩ ⟨Nat.le_of_ble_eq_true rfl, Nat.le_of_ble_eq_true rfl⟩), hts _ gm_1145, hts _ gs_41⟩ (gs_preV hK hov hE hI hM hm hS hA 0 0 (by decide) rfl rfl) rfl rfl hl.1 rfl (lv_room (Nat.le_of_ble_eq_true rfl)) dX10_wed_20 ⟨Nat.le_of_ble_eq_true rfl, Nat.le_of_ble_eq_true rfl⟩) hm hS hA (fun r_4 st_4 H locs hw_4 hM hS => ?_)
    obtain ⟨n_4, hw_4⟩ := hw_4
    have hB_st_4 : gBN bM kM [11, 12, 13, 14, 15, 16, 17, 18, 19, 59, 900, 1000] st st_4 := hB_st_3.call n_4 (by decide)
    rcases hw_4 with ⟨rfl, hw_4_0, hw_4_1⟩ | rfl
    · skip
      refine lv_if_ne (tgt := 28) hx hb dX10_wed_23 (by decide) (fun _ => ?_) (fun h9 => absurd h9 (by decide))
      refine lv_aload_n hx hb dX10_wed_28 rfl (lv_at hl 0 rfl) ?_
      refine gs_get (C := RX10) (T := TX10) (N := 59) hx hb hts inX10 hown hK hM 0 0 22 (by decide) rfl rfl (by decide) (hts _ gm_919) (fun _ h9 => h9) rfl dX10_wed_29 ?_
      refine lv_iload_n hx hb dX10_wed_32 rfl (lv_at hl 1 rfl) ?_
      refine lv_aload_n hx hb dX10_wed_33 rfl (lv_at hl 0 rfl) ?_
      refine gs_get (C := RX10) (T := TX10) (N := 59) hx hb hts inX10 hown hK hM 0 0 18 (by decide) rfl rfl (by decide) (hts _ gm_915) (fun _ h9 => h9) rfl dX10_wed_34 ?_
      refine gs_iast hx hb hK hI hm hM hS 10 0 (by decide) (fun _ => rfl) (vp_in_iff.mpr ⟨by omega, by omega⟩) dX10_wed_37 (fun st_6 H locs est_6 hM hS => ?_)
      have hB_st_6 : gBN bM kM [11, 12, 13, 14, 15, 16, 17, 18, 19, 59, 900, 1000] st st_6 := by rw [est_6]; exact hB_st_4.up (show (1000 : Nat) ∈ _ from by decide) (gi_lo _) (gi_hi _)
      refine lv_aload_n hx hb dX10_wed_38 rfl (lv_at hl 0 rfl) ?_
      refine gs_get (C := RX10) (T := TX10) (N := 59) hx hb hts inX10 hown hK hM 0 0 18 (by decide) rfl rfl (by decide) (hts _ gm_915) (fun _ h9 => h9) rfl dX10_wed_39 ?_
      refine lv_topi (fun x_7 ex_7 => ?_)
      have ex_7 : (st_4 0 0 18) = x_7 := Eq.symm (ex_7.trans ((congrFun (congrFun (congrFun est_6 0) 0) 18).trans (congrFun (congrFun (gU_k (by decide)) 0) 18)))
      subst ex_7
      refine lv_aload_n hx hb dX10_wed_42 rfl (lv_at hl 0 rfl) ?_
      refine gs_get (C := RX10) (T := TX10) (N := 59) hx hb hts inX10 hown hK hM 0 0 21 (by decide) rfl rfl (by decide) (hts _ gm_918) (fun _ h9 => h9) rfl dX10_wed_43 ?_
      refine lv_iload_n hx hb dX10_wed_46 rfl (lv_at hl 1 rfl) ?_
      refine gs_iald hx hb hK hM 9 0 (by decide) rfl (vp_in_iff.mpr ⟨by omega, by omega⟩) dX10_wed_47 ?_
      refine lv_topi (fun x_9 ex_9 => ?_)
      have qx_9 : x_9.toInt = (st_6 9 0 (x.toNatClampNeg)).toInt := congrArg Int32.toInt ex_9
      have bx_9 : (0 : Int) ≤ x_9.toInt ∧ x_9.toInt ≤ (5 : Int) := by rw [qx_9]; exact hB_st_6.1 9 0 (x.toNatClampNeg)
      have rx_9 : x_9.toInt = ((st_1 0 0 18) : Int32).toInt := by rw [ex_9]; exact congrArg Int32.toInt ((((congrFun (congrFun (congrFun est_6 9) 0) (x.toNatClampNeg)).trans (congrFun (congrFun (gU_k (by decide)) 0) (x.toNatClampNeg))).trans ((n_4.2 9 0 (x.toNatClampNeg) (show (900 : Nat) ∉ _ from by decide)).trans ((congrFun (congrFun (congrFun est_3 9) 0) (x.toNatClampNeg)).trans (gU_same _ _ _ _ _)))))
      refine lv_icmp_ne (tgt := 63) hx hb dX10_wed_48 (by decide) (fun c_10 => ?_) (fun c_10 => ?_)
      · have ic_10 := gz_ne (rfl : (st_4 0 0 18).toInt = (st_4 0 0 18).toInt) (rfl : x_9.toInt = x_9.toInt) c_10
        refine lv_iconst (v := 1) hx hb dX10_wed_63 (by decide) ?_
        refine lv_goto (tgt := 68) hx hb dX10_wed_64 (by decide) ?_
        exact gs_iret hx hb hr hlocks hM hS (by decide) ⟨hB_st_6, (Or.inl rfl)⟩ (by exact Nat.le_refl _) (by exact Nat.le_refl _) dX10_wed_68
      · have ic_10 := gz_eqn (rfl : (st_4 0 0 18).toInt = (st_4 0 0 18).toInt) (rfl : x_9.toInt = x_9.toInt) c_10
        refine lv_aload_n hx hb dX10_wed_51 rfl (lv_at hl 0 rfl) ?_
        refine lv_iconst (v := 3) hx hb dX10_wed_52 (by decide) ?_
        refine lv_aload_n hx hb dX10_wed_53 rfl (lv_at hl 0 rfl) ?_
        refine gs_get (C := RX10) (T := TX10) (N := 59) hx hb hts inX10 hown hK hM 0 0 19 (by decide) rfl rfl (by decide) (hts _ gm_916) (fun _ h9 => h9) rfl dX10_wed_54 ?_
        refine lv_topi (fun x_11 ex_11 => ?_)
        have ex_11 : (st_4 0 0 19) = x_11 := Eq.symm (ex_11.trans ((congrFun (congrFun (congrFun est_6 0) 0) 19).trans (congrFun (congrFun (gU_k (by decide)) 0) 19)))
        subst ex_11
        refine gs_calli (va_runV (As := [.int 3, .int (st_4 0 0 19)]) (rest := []) ⟨hx, hb, hml, hown, hts⟩ (m_wrong l G cy sK sV ad H.size st_6 hB_st_6.1 (3 : Int32) (st_4 0 0 19) ) ⟨(gz_cb (n := 2) hts gm_1127 gm_12 gm_1130 ⟨by decide +kernel, by decide +kernel, by decide +kernel⟩ ⟨Nat.le_of_ble_eq_true rfl, Nat.le_of_ble_eq_true rfl⟩), hts _ gm_1129, hts _ gs_37⟩ (gs_preV hK hov hE hI hM hm hS hA 0 0 (by decide) rfl rfl) rfl rfl hl.1 rfl (lv_room (Nat.le_of_ble_eq_true rfl)) dX10_wed_57 ⟨Nat.le_of_ble_eq_true rfl, Nat.le_of_ble_eq_true rfl⟩) hm hS hA (fun r_13 st_13 H locs hw_13 hM hS => ?_)
        obtain ⟨n_13, hw_13⟩ := hw_13
        have hB_st_13 : gBN bM kM [11, 12, 13, 14, 15, 16, 17, 18, 19, 59, 900, 1000] st st_13 := hB_st_6.call n_13 (by decide)
        obtain rfl := hw_13
        refine lv_if_eq (tgt := 67) hx hb dX10_wed_60 (by decide) (fun _ => ?_) (fun h9 => absurd (by decide) h9)
        refine lv_iconst (v := 0) hx hb dX10_wed_67 (by decide) ?_
        exact gs_iret hx hb hr hlocks hM hS (by decide) ⟨hB_st_13, (Or.inr (rfl))⟩ (by exact Nat.le_refl _) (by exact Nat.le_refl _) dX10_wed_68
    · skip
      refine lv_if_ne (tgt := 28) hx hb dX10_wed_23 (by decide) (fun h9 => absurd (by decide) h9) (fun _ => ?_)
      refine lv_iconst (v := 0) hx hb dX10_wed_26 (by decide) ?_
      exact gs_iret hx hb hr hlocks hM hS (by decide) ⟨hB_st_4, (Or.inr (rfl))⟩ (by exact Nat.le_refl _) (by exact Nat.le_refl _) dX10_wed_27
  · skip
    refine lv_if_ne (tgt := 9) hx hb dX10_wed_4 (by decide) (fun h9 => absurd (by decide) h9) (fun _ => ?_)
    refine lv_iconst (v := 0) hx hb dX10_wed_7 (by decide) ?_
    exact gs_iret hx hb hr hlocks hM hS (by decide) ⟨hB_st_1, (Or.inr (rfl))⟩ (by exact Nat.le_refl _) (by exact Nat.le_refl _) dX10_wed_8

set_option maxHeartbeats 4000000 in
set_option maxRecDepth 100000 in
/-- WellCourtModel.drought -/
theorem m_drought (l : Launch) (G : va_G) (cy : Nat → ClassId) (sK sV : Nat → Nat) (ad : Nat → Nat → Nat) (sz : Nat) (st : gS) (hB : gBd bM st) (x : Int32) (Xx : Int) (kx : x.toInt = Xx) (hx0 : 0 ≤ Xx) (hx1 : Xx ≤ 43) : gsMi l yX10_drought cX10_drought 2 (some .boolean) ({ frames := 3, cells := 0, slots := 0, locals := 66 } : Room) G cy sK sV (shM cy ad) cnM ad sz [.ref (ad 0 0), .int x] st (fun (r : Int32) (u : gS) => gBN bM kM [11, 12, 13, 14, 15, 16, 17, 18, 19, 59, 900, 1000, 1200] st u ∧ ((r = 1) ∨ (r = 0))) := by
  refine gs_start (fun A => gsQi G (shM cy ad) cnM ad _ A) (by decide) (Nat.le_of_ble_eq_true rfl) ?_
  intro p e s m below meth c A ls H hx hb hr hml hlocks hown hts hK hov hE hI hM hm hS hA hl
  have hl : lv_has ls 2 [(0, .ref (ad 0 0)), (1, .int x)] := hl
  have hB_st : gBN bM kM [11, 12, 13, 14, 15, 16, 17, 18, 19, 59, 900, 1000, 1200] st st := gBN.rf hB
  refine lv_aload_n hx hb dX10_drought_0 rfl (lv_at hl 0 rfl) ?_
  refine lv_iconst (v := 0) hx hb dX10_drought_1 (by decide) ?_
  refine lv_iconst (v := 5) hx hb dX10_drought_2 (by decide) ?_
  refine gs_calli (va_runV (As := [.int 0, .int 5]) (rest := []) ⟨hx, hb, hml, hown, hts⟩ (m_readNumber l G cy sK sV ad H.size st hB_st.1 (0 : Int32) (5 : Int32) 0 5 (by decide) (by decide) ) ⟨(gz_cb (n := 2) hts gm_1135 gm_12 gm_1138 ⟨by decide +kernel, by decide +kernel, by decide +kernel⟩ ⟨Nat.le_of_ble_eq_true rfl, Nat.le_of_ble_eq_true rfl⟩), hts _ gm_1137, hts _ gs_39⟩ (gs_preV hK hov hE hI hM hm hS hA 0 0 (by decide) rfl rfl) rfl rfl hl.1 rfl (lv_room (Nat.le_of_ble_eq_true rfl)) dX10_drought_3 ⟨Nat.le_of_ble_eq_true rfl, Nat.le_of_ble_eq_true rfl⟩) hm hS hA (fun r_1 st_1 H locs hw_1 hM hS => ?_)
  obtain ⟨n_1, hw_1⟩ := hw_1
  have hB_st_1 : gBN bM kM [11, 12, 13, 14, 15, 16, 17, 18, 19, 59, 900, 1000, 1200] st st_1 := hB_st.call n_1 (by decide)
  rcases hw_1 with ⟨rfl, hw_1_0, hw_1_1⟩ | rfl
  · skip
    refine lv_if_ne (tgt := 11) hx hb dX10_drought_6 (by decide) (fun _ => ?_) (fun h9 => absurd h9 (by decide))
    refine lv_aload_n hx hb dX10_drought_11 rfl (lv_at hl 0 rfl) ?_
    refine gs_get (C := RX10) (T := TX10) (N := 59) hx hb hts inX10 hown hK hM 0 0 21 (by decide) rfl rfl (by decide) (hts _ gm_918) (fun _ h9 => h9) rfl dX10_drought_12 ?_
    refine lv_iload_n hx hb dX10_drought_15 rfl (lv_at hl 1 rfl) ?_
    refine lv_aload_n hx hb dX10_drought_16 rfl (lv_at hl 0 rfl) ?_
    refine gs_get (C := RX10) (T := TX10) (N := 59) hx hb hts inX10 hown hK hM 0 0 18 (by decide) rfl rfl (by decide) (hts _ gm_915) (fun _ h9 => h9) rfl dX10_drought_17 ?_
    refine gs_iast hx hb hK hI hm hM hS 9 0 (by decide) (fun _ => rfl) (vp_in_iff.mpr ⟨by omega, by omega⟩) dX10_drought_20 (fun st_3 H locs est_3 hM hS => ?_)
    have hB_st_3 : gBN bM kM [11, 12, 13, 14, 15, 16, 17, 18, 19, 59, 900, 1000, 1200] st st_3 := by rw [est_3]; exact hB_st_1.up (show (900 : Nat) ∈ _ from by decide) (show (0 : Int) ≤ (st_1 0 0 18).toInt from by omega) (show (st_1 0 0 18).toInt ≤ (5 : Int) from by omega)
    refine lv_aload_n hx hb dX10_drought_21 rfl (lv_at hl 0 rfl) ?_
    refine lv_ldc2 (v := 422608400247) hx hb hown (hts _ gm_1167) dX10_drought_22 ?_
    refine gs_calli (va_runV (As := [.long (422608400247 : Int64)]) (rest := []) ⟨hx, hb, hml, hown, hts⟩ (m_mustWord l G cy sK sV ad H.size st_3 hB_st_3.1 (422608400247 : Int64) ) ⟨(gz_cb (n := 1) hts gm_1154 gm_12 gm_1157 ⟨by decide +kernel, by decide +kernel, by decide +kernel⟩ ⟨Nat.le_of_ble_eq_true rfl, Nat.le_of_ble_eq_true rfl⟩), hts _ gm_1156, hts _ gs_43⟩ (gs_preV hK hov hE hI hM hm hS hA 0 0 (by decide) rfl rfl) rfl rfl hl.1 rfl (lv_room (Nat.le_of_ble_eq_true rfl)) dX10_drought_25 ⟨Nat.le_of_ble_eq_true rfl, Nat.le_of_ble_eq_true rfl⟩) hm hS hA (fun r_4 st_4 H locs hw_4 hM hS => ?_)
    obtain ⟨n_4, hw_4⟩ := hw_4
    have hB_st_4 : gBN bM kM [11, 12, 13, 14, 15, 16, 17, 18, 19, 59, 900, 1000, 1200] st st_4 := hB_st_3.call n_4 (by decide)
    rcases hw_4 with rfl | rfl
    · skip
      refine lv_if_eq (tgt := 42) hx hb dX10_drought_28 (by decide) (fun h9 => absurd h9 (by decide)) (fun _ => ?_)
      refine lv_aload_n hx hb dX10_drought_31 rfl (lv_at hl 0 rfl) ?_
      refine lv_iconst (v := 0) hx hb dX10_drought_32 (by decide) ?_
      refine lv_sipush (v := 1000) hx hb dX10_drought_33 (by decide) ?_
      refine gs_calli (va_runV (As := [.int 0, .int 1000]) (rest := []) ⟨hx, hb, hml, hown, hts⟩ (m_readNumber l G cy sK sV ad H.size st_4 hB_st_4.1 (0 : Int32) (1000 : Int32) 0 1000 (by decide) (by decide) ) ⟨(gz_cb (n := 2) hts gm_1135 gm_12 gm_1138 ⟨by decide +kernel, by decide +kernel, by decide +kernel⟩ ⟨Nat.le_of_ble_eq_true rfl, Nat.le_of_ble_eq_true rfl⟩), hts _ gm_1137, hts _ gs_39⟩ (gs_preV hK hov hE hI hM hm hS hA 0 0 (by decide) rfl rfl) rfl rfl hl.1 rfl (lv_room (Nat.le_of_ble_eq_true rfl)) dX10_drought_36 ⟨Nat.le_of_ble_eq_true rfl, Nat.le_of_ble_eq_true rfl⟩) hm hS hA (fun r_5 st_5 H locs hw_5 hM hS => ?_)
      obtain ⟨n_5, hw_5⟩ := hw_5
      have hB_st_5 : gBN bM kM [11, 12, 13, 14, 15, 16, 17, 18, 19, 59, 900, 1000, 1200] st st_5 := hB_st_4.call n_5 (by decide)
      rcases hw_5 with ⟨rfl, hw_5_0, hw_5_1⟩ | rfl
      · skip
        refine lv_if_ne (tgt := 44) hx hb dX10_drought_39 (by decide) (fun _ => ?_) (fun h9 => absurd h9 (by decide))
        refine lv_aload_n hx hb dX10_drought_44 rfl (lv_at hl 0 rfl) ?_
        refine gs_get (C := RX10) (T := TX10) (N := 59) hx hb hts inX10 hown hK hM 0 0 24 (by decide) rfl rfl (by decide) (hts _ gm_921) (fun _ h9 => h9) rfl dX10_drought_45 ?_
        refine lv_iload_n hx hb dX10_drought_48 rfl (lv_at hl 1 rfl) ?_
        refine lv_aload_n hx hb dX10_drought_49 rfl (lv_at hl 0 rfl) ?_
        refine gs_get (C := RX10) (T := TX10) (N := 59) hx hb hts inX10 hown hK hM 0 0 18 (by decide) rfl rfl (by decide) (hts _ gm_915) (fun _ h9 => h9) rfl dX10_drought_50 ?_
        refine gs_iast hx hb hK hI hm hM hS 12 0 (by decide) (fun _ => rfl) (vp_in_iff.mpr ⟨by omega, by omega⟩) dX10_drought_53 (fun st_7 H locs est_7 hM hS => ?_)
        have hB_st_7 : gBN bM kM [11, 12, 13, 14, 15, 16, 17, 18, 19, 59, 900, 1000, 1200] st st_7 := by rw [est_7]; exact hB_st_5.up (show (1200 : Nat) ∈ _ from by decide) (gi_lo _) (gi_hi _)
        refine lv_aload_n hx hb dX10_drought_54 rfl (lv_at hl 0 rfl) ?_
        refine gs_calli (va_runV (As := []) (rest := []) ⟨hx, hb, hml, hown, hts⟩ (m_readClan l G cy sK sV ad H.size st_7 hB_st_7.1  ) ⟨(gz_cb (n := 0) hts gm_1143 gm_12 gm_1146 ⟨by decide +kernel, by decide +kernel, by decide +kernel⟩ ⟨Nat.le_of_ble_eq_true rfl, Nat.le_of_ble_eq_true rfl⟩), hts _ gm_1145, hts _ gs_41⟩ (gs_preV hK hov hE hI hM hm hS hA 0 0 (by decide) rfl rfl) rfl rfl hl.1 rfl (lv_room (Nat.le_of_ble_eq_true rfl)) dX10_drought_55 ⟨Nat.le_of_ble_eq_true rfl, Nat.le_of_ble_eq_true rfl⟩) hm hS hA (fun r_8 st_8 H locs hw_8 hM hS => ?_)
        obtain ⟨n_8, hw_8⟩ := hw_8
        have hB_st_8 : gBN bM kM [11, 12, 13, 14, 15, 16, 17, 18, 19, 59, 900, 1000, 1200] st st_8 := hB_st_7.call n_8 (by decide)
        rcases hw_8 with ⟨rfl, hw_8_0, hw_8_1⟩ | rfl
        · skip
          refine lv_if_ne (tgt := 63) hx hb dX10_drought_58 (by decide) (fun _ => ?_) (fun h9 => absurd h9 (by decide))
          refine lv_aload_n hx hb dX10_drought_63 rfl (lv_at hl 0 rfl) ?_
          refine gs_get (C := RX10) (T := TX10) (N := 59) hx hb hts inX10 hown hK hM 0 0 22 (by decide) rfl rfl (by decide) (hts _ gm_919) (fun _ h9 => h9) rfl dX10_drought_64 ?_
          refine lv_iload_n hx hb dX10_drought_67 rfl (lv_at hl 1 rfl) ?_
          refine lv_aload_n hx hb dX10_drought_68 rfl (lv_at hl 0 rfl) ?_
          refine gs_get (C := RX10) (T := TX10) (N := 59) hx hb hts inX10 hown hK hM 0 0 18 (by decide) rfl rfl (by decide) (hts _ gm_915) (fun _ h9 => h9) rfl dX10_drought_69 ?_
          refine gs_iast hx hb hK hI hm hM hS 10 0 (by decide) (fun _ => rfl) (vp_in_iff.mpr ⟨by omega, by omega⟩) dX10_drought_72 (fun st_10 H locs est_10 hM hS => ?_)
          have hB_st_10 : gBN bM kM [11, 12, 13, 14, 15, 16, 17, 18, 19, 59, 900, 1000, 1200] st st_10 := by rw [est_10]; exact hB_st_8.up (show (1000 : Nat) ∈ _ from by decide) (gi_lo _) (gi_hi _)
          refine lv_iconst (v := 1) hx hb dX10_drought_73 (by decide) ?_
          exact gs_iret hx hb hr hlocks hM hS (by decide) ⟨hB_st_10, (Or.inl rfl)⟩ (by exact Nat.le_refl _) (by exact Nat.le_refl _) dX10_drought_74
        · skip
          refine lv_if_ne (tgt := 63) hx hb dX10_drought_58 (by decide) (fun h9 => absurd (by decide) h9) (fun _ => ?_)
          refine lv_iconst (v := 0) hx hb dX10_drought_61 (by decide) ?_
          exact gs_iret hx hb hr hlocks hM hS (by decide) ⟨hB_st_8, (Or.inr (rfl))⟩ (by exact Nat.le_refl _) (by exact Nat.le_refl _) dX10_drought_62
      · skip
        refine lv_if_ne (tgt := 44) hx hb dX10_drought_39 (by decide) (fun h9 => absurd (by decide) h9) (fun _ => ?_)
        refine lv_iconst (v := 0) hx hb dX10_drought_42 (by decide) ?_
        exact gs_iret hx hb hr hlocks hM hS (by decide) ⟨hB_st_5, (Or.inr (rfl))⟩ (by exact Nat.le_refl _) (by exact Nat.le_refl _) dX10_drought_43
    · skip
      refine lv_if_eq (tgt := 42) hx hb dX10_drought_28 (by decide) (fun _ => ?_) (fun h9 => absurd (by decide) h9)
      refine lv_iconst (v := 0) hx hb dX10_drought_42 (by decide) ?_
      exact gs_iret hx hb hr hlocks hM hS (by decide) ⟨hB_st_4, (Or.inr (rfl))⟩ (by exact Nat.le_refl _) (by exact Nat.le_refl _) dX10_drought_43
  · skip
    refine lv_if_ne (tgt := 11) hx hb dX10_drought_6 (by decide) (fun h9 => absurd (by decide) h9) (fun _ => ?_)
    refine lv_iconst (v := 0) hx hb dX10_drought_9 (by decide) ?_
    exact gs_iret hx hb hr hlocks hM hS (by decide) ⟨hB_st_1, (Or.inr (rfl))⟩ (by exact Nat.le_refl _) (by exact Nat.le_refl _) dX10_drought_10

set_option maxHeartbeats 4000000 in
set_option maxRecDepth 100000 in
/-- WellCourtModel.dry -/
theorem m_dry (l : Launch) (G : va_G) (cy : Nat → ClassId) (sK sV : Nat → Nat) (ad : Nat → Nat → Nat) (sz : Nat) (st : gS) (hB : gBd bM st) (x : Int32) (Xx : Int) (kx : x.toInt = Xx) (hx0 : 0 ≤ Xx) (hx1 : Xx ≤ 43) : gsMi l yX10_dry cX10_dry 2 (some .boolean) ({ frames := 3, cells := 0, slots := 0, locals := 66 } : Room) G cy sK sV (shM cy ad) cnM ad sz [.ref (ad 0 0), .int x] st (fun (r : Int32) (u : gS) => gBN bM kM [11, 12, 13, 14, 15, 16, 17, 18, 19, 59, 900, 1000] st u ∧ ((r = 1) ∨ (r = 0))) := by
  refine gs_start (fun A => gsQi G (shM cy ad) cnM ad _ A) (by decide) (Nat.le_of_ble_eq_true rfl) ?_
  intro p e s m below meth c A ls H hx hb hr hml hlocks hown hts hK hov hE hI hM hm hS hA hl
  have hl : lv_has ls 2 [(0, .ref (ad 0 0)), (1, .int x)] := hl
  have hB_st : gBN bM kM [11, 12, 13, 14, 15, 16, 17, 18, 19, 59, 900, 1000] st st := gBN.rf hB
  refine lv_aload_n hx hb dX10_dry_0 rfl (lv_at hl 0 rfl) ?_
  refine lv_iconst (v := 0) hx hb dX10_dry_1 (by decide) ?_
  refine lv_iconst (v := 5) hx hb dX10_dry_2 (by decide) ?_
  refine gs_calli (va_runV (As := [.int 0, .int 5]) (rest := []) ⟨hx, hb, hml, hown, hts⟩ (m_readNumber l G cy sK sV ad H.size st hB_st.1 (0 : Int32) (5 : Int32) 0 5 (by decide) (by decide) ) ⟨(gz_cb (n := 2) hts gm_1135 gm_12 gm_1138 ⟨by decide +kernel, by decide +kernel, by decide +kernel⟩ ⟨Nat.le_of_ble_eq_true rfl, Nat.le_of_ble_eq_true rfl⟩), hts _ gm_1137, hts _ gs_39⟩ (gs_preV hK hov hE hI hM hm hS hA 0 0 (by decide) rfl rfl) rfl rfl hl.1 rfl (lv_room (Nat.le_of_ble_eq_true rfl)) dX10_dry_3 ⟨Nat.le_of_ble_eq_true rfl, Nat.le_of_ble_eq_true rfl⟩) hm hS hA (fun r_1 st_1 H locs hw_1 hM hS => ?_)
  obtain ⟨n_1, hw_1⟩ := hw_1
  have hB_st_1 : gBN bM kM [11, 12, 13, 14, 15, 16, 17, 18, 19, 59, 900, 1000] st st_1 := hB_st.call n_1 (by decide)
  rcases hw_1 with ⟨rfl, hw_1_0, hw_1_1⟩ | rfl
  · skip
    refine lv_if_ne (tgt := 11) hx hb dX10_dry_6 (by decide) (fun _ => ?_) (fun h9 => absurd h9 (by decide))
    refine lv_aload_n hx hb dX10_dry_11 rfl (lv_at hl 0 rfl) ?_
    refine gs_get (C := RX10) (T := TX10) (N := 59) hx hb hts inX10 hown hK hM 0 0 21 (by decide) rfl rfl (by decide) (hts _ gm_918) (fun _ h9 => h9) rfl dX10_dry_12 ?_
    refine lv_iload_n hx hb dX10_dry_15 rfl (lv_at hl 1 rfl) ?_
    refine lv_aload_n hx hb dX10_dry_16 rfl (lv_at hl 0 rfl) ?_
    refine gs_get (C := RX10) (T := TX10) (N := 59) hx hb hts inX10 hown hK hM 0 0 18 (by decide) rfl rfl (by decide) (hts _ gm_915) (fun _ h9 => h9) rfl dX10_dry_17 ?_
    refine gs_iast hx hb hK hI hm hM hS 9 0 (by decide) (fun _ => rfl) (vp_in_iff.mpr ⟨by omega, by omega⟩) dX10_dry_20 (fun st_3 H locs est_3 hM hS => ?_)
    have hB_st_3 : gBN bM kM [11, 12, 13, 14, 15, 16, 17, 18, 19, 59, 900, 1000] st st_3 := by rw [est_3]; exact hB_st_1.up (show (900 : Nat) ∈ _ from by decide) (show (0 : Int) ≤ (st_1 0 0 18).toInt from by omega) (show (st_1 0 0 18).toInt ≤ (5 : Int) from by omega)
    refine lv_aload_n hx hb dX10_dry_21 rfl (lv_at hl 0 rfl) ?_
    refine lv_ldc2 (v := 29807) hx hb hown (hts _ gm_1172) dX10_dry_22 ?_
    refine gs_calli (va_runV (As := [.long (29807 : Int64)]) (rest := []) ⟨hx, hb, hml, hown, hts⟩ (m_mustWord l G cy sK sV ad H.size st_3 hB_st_3.1 (29807 : Int64) ) ⟨(gz_cb (n := 1) hts gm_1154 gm_12 gm_1157 ⟨by decide +kernel, by decide +kernel, by decide +kernel⟩ ⟨Nat.le_of_ble_eq_true rfl, Nat.le_of_ble_eq_true rfl⟩), hts _ gm_1156, hts _ gs_43⟩ (gs_preV hK hov hE hI hM hm hS hA 0 0 (by decide) rfl rfl) rfl rfl hl.1 rfl (lv_room (Nat.le_of_ble_eq_true rfl)) dX10_dry_25 ⟨Nat.le_of_ble_eq_true rfl, Nat.le_of_ble_eq_true rfl⟩) hm hS hA (fun r_4 st_4 H locs hw_4 hM hS => ?_)
    obtain ⟨n_4, hw_4⟩ := hw_4
    have hB_st_4 : gBN bM kM [11, 12, 13, 14, 15, 16, 17, 18, 19, 59, 900, 1000] st st_4 := hB_st_3.call n_4 (by decide)
    rcases hw_4 with rfl | rfl
    · skip
      refine lv_if_eq (tgt := 40) hx hb dX10_dry_28 (by decide) (fun h9 => absurd h9 (by decide)) (fun _ => ?_)
      refine lv_aload_n hx hb dX10_dry_31 rfl (lv_at hl 0 rfl) ?_
      refine lv_iconst (v := 0) hx hb dX10_dry_32 (by decide) ?_
      refine lv_iconst (v := 5) hx hb dX10_dry_33 (by decide) ?_
      refine gs_calli (va_runV (As := [.int 0, .int 5]) (rest := []) ⟨hx, hb, hml, hown, hts⟩ (m_readNumber l G cy sK sV ad H.size st_4 hB_st_4.1 (0 : Int32) (5 : Int32) 0 5 (by decide) (by decide) ) ⟨(gz_cb (n := 2) hts gm_1135 gm_12 gm_1138 ⟨by decide +kernel, by decide +kernel, by decide +kernel⟩ ⟨Nat.le_of_ble_eq_true rfl, Nat.le_of_ble_eq_true rfl⟩), hts _ gm_1137, hts _ gs_39⟩ (gs_preV hK hov hE hI hM hm hS hA 0 0 (by decide) rfl rfl) rfl rfl hl.1 rfl (lv_room (Nat.le_of_ble_eq_true rfl)) dX10_dry_34 ⟨Nat.le_of_ble_eq_true rfl, Nat.le_of_ble_eq_true rfl⟩) hm hS hA (fun r_5 st_5 H locs hw_5 hM hS => ?_)
      obtain ⟨n_5, hw_5⟩ := hw_5
      have hB_st_5 : gBN bM kM [11, 12, 13, 14, 15, 16, 17, 18, 19, 59, 900, 1000] st st_5 := hB_st_4.call n_5 (by decide)
      rcases hw_5 with ⟨rfl, hw_5_0, hw_5_1⟩ | rfl
      · skip
        refine lv_if_ne (tgt := 42) hx hb dX10_dry_37 (by decide) (fun _ => ?_) (fun h9 => absurd h9 (by decide))
        refine lv_aload_n hx hb dX10_dry_42 rfl (lv_at hl 0 rfl) ?_
        refine gs_get (C := RX10) (T := TX10) (N := 59) hx hb hts inX10 hown hK hM 0 0 22 (by decide) rfl rfl (by decide) (hts _ gm_919) (fun _ h9 => h9) rfl dX10_dry_43 ?_
        refine lv_iload_n hx hb dX10_dry_46 rfl (lv_at hl 1 rfl) ?_
        refine lv_aload_n hx hb dX10_dry_47 rfl (lv_at hl 0 rfl) ?_
        refine gs_get (C := RX10) (T := TX10) (N := 59) hx hb hts inX10 hown hK hM 0 0 18 (by decide) rfl rfl (by decide) (hts _ gm_915) (fun _ h9 => h9) rfl dX10_dry_48 ?_
        refine gs_iast hx hb hK hI hm hM hS 10 0 (by decide) (fun _ => rfl) (vp_in_iff.mpr ⟨by omega, by omega⟩) dX10_dry_51 (fun st_7 H locs est_7 hM hS => ?_)
        have hB_st_7 : gBN bM kM [11, 12, 13, 14, 15, 16, 17, 18, 19, 59, 900, 1000] st st_7 := by rw [est_7]; exact hB_st_5.up (show (1000 : Nat) ∈ _ from by decide) (gi_lo _) (gi_hi _)
        refine lv_aload_n hx hb dX10_dry_52 rfl (lv_at hl 0 rfl) ?_
        refine gs_get (C := RX10) (T := TX10) (N := 59) hx hb hts inX10 hown hK hM 0 0 18 (by decide) rfl rfl (by decide) (hts _ gm_915) (fun _ h9 => h9) rfl dX10_dry_53 ?_
        refine lv_topi (fun x_8 ex_8 => ?_)
        have ex_8 : (st_5 0 0 18) = x_8 := Eq.symm (ex_8.trans ((congrFun (congrFun (congrFun est_7 0) 0) 18).trans (congrFun (congrFun (gU_k (by decide)) 0) 18)))
        subst ex_8
        refine lv_aload_n hx hb dX10_dry_56 rfl (lv_at hl 0 rfl) ?_
        refine gs_get (C := RX10) (T := TX10) (N := 59) hx hb hts inX10 hown hK hM 0 0 21 (by decide) rfl rfl (by decide) (hts _ gm_918) (fun _ h9 => h9) rfl dX10_dry_57 ?_
        refine lv_iload_n hx hb dX10_dry_60 rfl (lv_at hl 1 rfl) ?_
        refine gs_iald hx hb hK hM 9 0 (by decide) rfl (vp_in_iff.mpr ⟨by omega, by omega⟩) dX10_dry_61 ?_
        refine lv_topi (fun x_10 ex_10 => ?_)
        have qx_10 : x_10.toInt = (st_7 9 0 (x.toNatClampNeg)).toInt := congrArg Int32.toInt ex_10
        have bx_10 : (0 : Int) ≤ x_10.toInt ∧ x_10.toInt ≤ (5 : Int) := by rw [qx_10]; exact hB_st_7.1 9 0 (x.toNatClampNeg)
        have rx_10 : x_10.toInt = ((st_1 0 0 18) : Int32).toInt := by rw [ex_10]; exact congrArg Int32.toInt ((((congrFun (congrFun (congrFun est_7 9) 0) (x.toNatClampNeg)).trans (congrFun (congrFun (gU_k (by decide)) 0) (x.toNatClampNeg))).trans ((n_5.2 9 0 (x.toNatClampNeg) (show (900 : Nat) ∉ _ from by decide)).trans ((n_4.2 9 0 (x.toNatClampNeg) (show (900 : Nat) ∉ _ from by decide)).trans ((congrFun (congrFun (congrFun est_3 9) 0) (x.toNatClampNeg)).trans (gU_same _ _ _ _ _))))))
        refine lv_icmp_ne (tgt := 77) hx hb dX10_dry_62 (by decide) (fun c_11 => ?_) (fun c_11 => ?_)
        · have ic_11 := gz_ne (rfl : (st_5 0 0 18).toInt = (st_5 0 0 18).toInt) (rfl : x_10.toInt = x_10.toInt) c_11
          refine lv_iconst (v := 1) hx hb dX10_dry_77 (by decide) ?_
          refine lv_goto (tgt := 82) hx hb dX10_dry_78 (by decide) ?_
          exact gs_iret hx hb hr hlocks hM hS (by decide) ⟨hB_st_7, (Or.inl rfl)⟩ (by exact Nat.le_refl _) (by exact Nat.le_refl _) dX10_dry_82
        · have ic_11 := gz_eqn (rfl : (st_5 0 0 18).toInt = (st_5 0 0 18).toInt) (rfl : x_10.toInt = x_10.toInt) c_11
          refine lv_aload_n hx hb dX10_dry_65 rfl (lv_at hl 0 rfl) ?_
          refine lv_iconst (v := 3) hx hb dX10_dry_66 (by decide) ?_
          refine lv_aload_n hx hb dX10_dry_67 rfl (lv_at hl 0 rfl) ?_
          refine gs_get (C := RX10) (T := TX10) (N := 59) hx hb hts inX10 hown hK hM 0 0 19 (by decide) rfl rfl (by decide) (hts _ gm_916) (fun _ h9 => h9) rfl dX10_dry_68 ?_
          refine lv_topi (fun x_12 ex_12 => ?_)
          have ex_12 : (st_5 0 0 19) = x_12 := Eq.symm (ex_12.trans ((congrFun (congrFun (congrFun est_7 0) 0) 19).trans (congrFun (congrFun (gU_k (by decide)) 0) 19)))
          subst ex_12
          refine gs_calli (va_runV (As := [.int 3, .int (st_5 0 0 19)]) (rest := []) ⟨hx, hb, hml, hown, hts⟩ (m_wrong l G cy sK sV ad H.size st_7 hB_st_7.1 (3 : Int32) (st_5 0 0 19) ) ⟨(gz_cb (n := 2) hts gm_1127 gm_12 gm_1130 ⟨by decide +kernel, by decide +kernel, by decide +kernel⟩ ⟨Nat.le_of_ble_eq_true rfl, Nat.le_of_ble_eq_true rfl⟩), hts _ gm_1129, hts _ gs_37⟩ (gs_preV hK hov hE hI hM hm hS hA 0 0 (by decide) rfl rfl) rfl rfl hl.1 rfl (lv_room (Nat.le_of_ble_eq_true rfl)) dX10_dry_71 ⟨Nat.le_of_ble_eq_true rfl, Nat.le_of_ble_eq_true rfl⟩) hm hS hA (fun r_14 st_14 H locs hw_14 hM hS => ?_)
          obtain ⟨n_14, hw_14⟩ := hw_14
          have hB_st_14 : gBN bM kM [11, 12, 13, 14, 15, 16, 17, 18, 19, 59, 900, 1000] st st_14 := hB_st_7.call n_14 (by decide)
          obtain rfl := hw_14
          refine lv_if_eq (tgt := 81) hx hb dX10_dry_74 (by decide) (fun _ => ?_) (fun h9 => absurd (by decide) h9)
          refine lv_iconst (v := 0) hx hb dX10_dry_81 (by decide) ?_
          exact gs_iret hx hb hr hlocks hM hS (by decide) ⟨hB_st_14, (Or.inr (rfl))⟩ (by exact Nat.le_refl _) (by exact Nat.le_refl _) dX10_dry_82
      · skip
        refine lv_if_ne (tgt := 42) hx hb dX10_dry_37 (by decide) (fun h9 => absurd (by decide) h9) (fun _ => ?_)
        refine lv_iconst (v := 0) hx hb dX10_dry_40 (by decide) ?_
        exact gs_iret hx hb hr hlocks hM hS (by decide) ⟨hB_st_5, (Or.inr (rfl))⟩ (by exact Nat.le_refl _) (by exact Nat.le_refl _) dX10_dry_41
    · skip
      refine lv_if_eq (tgt := 40) hx hb dX10_dry_28 (by decide) (fun _ => ?_) (fun h9 => absurd (by decide) h9)
      refine lv_iconst (v := 0) hx hb dX10_dry_40 (by decide) ?_
      exact gs_iret hx hb hr hlocks hM hS (by decide) ⟨hB_st_4, (Or.inr (rfl))⟩ (by exact Nat.le_refl _) (by exact Nat.le_refl _) dX10_dry_41
  · skip
    refine lv_if_ne (tgt := 11) hx hb dX10_dry_6 (by decide) (fun h9 => absurd (by decide) h9) (fun _ => ?_)
    refine lv_iconst (v := 0) hx hb dX10_dry_9 (by decide) ?_
    exact gs_iret hx hb hr hlocks hM hS (by decide) ⟨hB_st_1, (Or.inr (rfl))⟩ (by exact Nat.le_refl _) (by exact Nat.le_refl _) dX10_dry_10

set_option maxHeartbeats 4000000 in
set_option maxRecDepth 100000 in
/-- WellCourtModel.turns -/
theorem m_turns (l : Launch) (G : va_G) (cy : Nat → ClassId) (sK sV : Nat → Nat) (ad : Nat → Nat → Nat) (sz : Nat) (st : gS) (hB : gBd bM st) (x : Int32) (Xx : Int) (kx : x.toInt = Xx) (hx0 : 0 ≤ Xx) (hx1 : Xx ≤ 43) (htd : mTdR (st 13 0) (st 15 0)) : gsMi l yX10_turns cX10_turns 5 (some .boolean) ({ frames := 3, cells := 0, slots := 0, locals := 66 } : Room) G cy sK sV (shM cy ad) cnM ad sz [.ref (ad 0 0), .int x] st (fun (r : Int32) (u : gS) => gBN bM kM [11, 12, 13, 14, 15, 16, 17, 18, 19, 59, 900, 1300, 1400, 1500] st u ∧ ((r = 1 ∧ (1 ≤ (u 13 0 x.toNatClampNeg).toInt) ∧ (mTdR (u 13 0) (u 15 0)) ∧ (mPos (st 13 0) (u 13 0))) ∨ (r = 0 ∧ (mTdR (u 13 0) (u 15 0)) ∧ (mPos (st 13 0) (u 13 0))))) := by
  refine gs_start (fun A => gsQi G (shM cy ad) cnM ad _ A) (by decide) (Nat.le_of_ble_eq_true rfl) ?_
  intro p e s m below meth c A ls H hx hb hr hml hlocks hown hts hK hov hE hI hM hm hS hA hl
  have hl : lv_has ls 5 [(0, .ref (ad 0 0)), (1, .int x)] := hl
  have hB_st : gBN bM kM [11, 12, 13, 14, 15, 16, 17, 18, 19, 59, 900, 1300, 1400, 1500] st st := gBN.rf hB
  generalize hQe : MQ below _ _ s _ _ A = Q
  refine lv_aload_n hx hb dX10_turns_0 rfl (lv_at hl 0 rfl) ?_
  refine lv_iconst (v := 0) hx hb dX10_turns_1 (by decide) ?_
  refine lv_iconst (v := 5) hx hb dX10_turns_2 (by decide) ?_
  refine gs_calli (va_runV (As := [.int 0, .int 5]) (rest := []) ⟨hx, hb, hml, hown, hts⟩ (m_readNumber l G cy sK sV ad H.size st hB_st.1 (0 : Int32) (5 : Int32) 0 5 (by decide) (by decide) ) ⟨(gz_cb (n := 2) hts gm_1135 gm_12 gm_1138 ⟨by decide +kernel, by decide +kernel, by decide +kernel⟩ ⟨Nat.le_of_ble_eq_true rfl, Nat.le_of_ble_eq_true rfl⟩), hts _ gm_1137, hts _ gs_39⟩ (gs_preV hK hov hE hI hM hm hS hA 0 0 (by decide) rfl rfl) rfl rfl hl.1 rfl (lv_room (Nat.le_of_ble_eq_true rfl)) dX10_turns_3 ⟨Nat.le_of_ble_eq_true rfl, Nat.le_of_ble_eq_true rfl⟩) hm hS hA (fun r_1 st_1 H locs hw_1 hM hS => ?_)
  obtain ⟨n_1, hw_1⟩ := hw_1
  have hB_st_1 : gBN bM kM [11, 12, 13, 14, 15, 16, 17, 18, 19, 59, 900, 1300, 1400, 1500] st st_1 := hB_st.call n_1 (by decide)
  rcases hw_1 with ⟨rfl, hw_1_0, hw_1_1⟩ | rfl
  · skip
    refine lv_if_ne (tgt := 11) hx hb dX10_turns_6 (by decide) (fun _ => ?_) (fun h9 => absurd h9 (by decide))
    refine lv_bipush (v := 24) hx hb dX10_turns_11 (by decide) ?_
    refine lv_aload_n hx hb dX10_turns_13 rfl (lv_at hl 0 rfl) ?_
    refine gs_get (C := RX10) (T := TX10) (N := 59) hx hb hts inX10 hown hK hM 0 0 28 (by decide) rfl rfl (by decide) (hts _ gm_925) (fun _ h9 => h9) rfl dX10_turns_14 ?_
    refine lv_topi (fun x_2 ex_2 => ?_)
    have ex_2 : (st 0 0 28) = x_2 := Eq.symm (ex_2.trans (n_1.2 0 0 28 (show (28 : Nat) ∉ _ from by decide)))
    subst ex_2
    have bf_3 : (0 : Int) ≤ (st 0 0 28).toInt ∧ (st 0 0 28).toInt ≤ (1 : Int) := hB_st.1 0 0 28
    refine lv_imul hx hb dX10_turns_17 ?_
    refine lv_topi (fun x_4 ex_4 => ?_)
    try have tx_4 : x_4.toInt = 24 * (st 0 0 28).toInt := by rw [ex_4]; exact gz_mulI (x := 24) (y := (st 0 0 28).toInt) (by decide) rfl (by omega) (by omega)
    refine lv_istore_n (lv' := [(2, .int x_4), (0, .ref (ad 0 0)), (1, .int x)]) hx hb dX10_turns_18 rfl hl (by decide) rfl (fun ls hl => ?_)
    have lp5 : ∀ (n5 : Nat)  (y5_0 : Int32) (H : Heap) (locs : List Loc) (ls : Array Slot), (Xx - y5_0.toInt).toNat < n5 →  (0 ≤ y5_0.toInt) → gM G (shM cy ad) cnM ad st_1 H → va_S A s.heap H locs → lv_has ls 5 [(2, .int y5_0), (0, .ref (ad 0 0)), (1, .int x)] → W p l e ({ frames := 3, cells := 0, slots := 0, locals := 66 } : Room) s m [.ref (ad 0 0), .int x].toArray below meth c H locs 0 0 Q (F0 m 19 ls []) := by
      intro n5
      induction n5 with
      | zero => intro  y5_0 H locs ls h9; exact absurd h9 (Nat.not_lt_zero _)
      | succ n5 ih_5 =>
        intro  y5_0 H locs ls hme5  hv5_0 hM hS hl
        refine lv_iload_n hx hb dX10_turns_19 rfl (lv_at hl 0 rfl) ?_
        refine lv_iload_n hx hb dX10_turns_20 rfl (lv_at hl 2 rfl) ?_
        refine lv_icmp_ge (tgt := 62) hx hb dX10_turns_21 (by decide) (fun c_6 => ?_) (fun c_6 => ?_)
        · have ic_6 := gz_le (rfl : x.toInt = x.toInt) (rfl : y5_0.toInt = y5_0.toInt) c_6
          refine lv_aload_n hx hb dX10_turns_62 rfl (lv_at hl 1 rfl) ?_
          refine gs_get (C := RX10) (T := TX10) (N := 59) hx hb hts inX10 hown hK hM 0 0 21 (by decide) rfl rfl (by decide) (hts _ gm_918) (fun _ h9 => h9) rfl dX10_turns_63 ?_
          refine lv_iload_n hx hb dX10_turns_66 rfl (lv_at hl 2 rfl) ?_
          refine lv_aload_n hx hb dX10_turns_67 rfl (lv_at hl 1 rfl) ?_
          refine gs_get (C := RX10) (T := TX10) (N := 59) hx hb hts inX10 hown hK hM 0 0 18 (by decide) rfl rfl (by decide) (hts _ gm_915) (fun _ h9 => h9) rfl dX10_turns_68 ?_
          refine gs_iast hx hb hK hI hm hM hS 9 0 (by decide) (fun _ => rfl) (vp_in_iff.mpr ⟨by omega, by omega⟩) dX10_turns_71 (fun st_8 H locs est_8 hM hS => ?_)
          have hB_st_8 : gBN bM kM [11, 12, 13, 14, 15, 16, 17, 18, 19, 59, 900, 1300, 1400, 1500] st st_8 := by rw [est_8]; exact hB_st_1.up (show (900 : Nat) ∈ _ from by decide) (show (0 : Int) ≤ (st_1 0 0 18).toInt from by omega) (show (st_1 0 0 18).toInt ≤ (5 : Int) from by omega)
          refine lv_aload_n hx hb dX10_turns_72 rfl (lv_at hl 1 rfl) ?_
          refine lv_bipush (v := 58) hx hb dX10_turns_73 (by decide) ?_
          refine gs_calli (va_runV (As := [.int 58]) (rest := []) ⟨hx, hb, hml, hown, hts⟩ (m_must l G cy sK sV ad H.size st_8 hB_st_8.1 (58 : Int32) 58 (by decide) ) ⟨(gz_cb (n := 1) hts gm_1139 gm_12 gm_1142 ⟨by decide +kernel, by decide +kernel, by decide +kernel⟩ ⟨Nat.le_of_ble_eq_true rfl, Nat.le_of_ble_eq_true rfl⟩), hts _ gm_1141, hts _ gs_40⟩ (gs_preV hK hov hE hI hM hm hS hA 0 0 (by decide) rfl rfl) rfl rfl hl.1 rfl (lv_room (Nat.le_of_ble_eq_true rfl)) dX10_turns_75 ⟨Nat.le_of_ble_eq_true rfl, Nat.le_of_ble_eq_true rfl⟩) hm hS hA (fun r_9 st_9 H locs hw_9 hM hS => ?_)
          obtain ⟨n_9, hw_9⟩ := hw_9
          have hB_st_9 : gBN bM kM [11, 12, 13, 14, 15, 16, 17, 18, 19, 59, 900, 1300, 1400, 1500] st st_9 := hB_st_8.call n_9 (by decide)
          rcases hw_9 with rfl | rfl
          · skip
            refine lv_if_ne (tgt := 83) hx hb dX10_turns_78 (by decide) (fun _ => ?_) (fun h9 => absurd h9 (by decide))
            refine lv_iconst (v := 0) hx hb dX10_turns_83 (by decide) ?_
            refine lv_istore_n (lv' := [(2, .int 0), (0, .ref (ad 0 0)), (1, .int x)]) hx hb dX10_turns_84 rfl hl (by decide) rfl (fun ls hl => ?_)
            refine lv_iconst (v := 1) hx hb dX10_turns_85 (by decide) ?_
            refine lv_istore_n (lv' := [(3, .int 1), (2, .int 0), (0, .ref (ad 0 0)), (1, .int x)]) hx hb dX10_turns_86 rfl hl (by decide) rfl (fun ls hl => ?_)
            have lp10 : ∀ (n10 : Nat) (sv10 : gS) (y10_0 : Int32) (y10_1 : Int32) (H : Heap) (locs : List Loc) (ls : Array Slot), (9 - y10_0.toInt).toNat < n10 → gBN bM kM [11, 12, 13, 14, 15, 16, 17, 18, 19, 59, 900, 1300, 1400, 1500] st sv10 → (0 ≤ y10_0.toInt) → (y10_0.toInt ≤ 8) → (y10_1.toInt = 1 ∨ 1 ≤ (sv10 13 0 x.toNatClampNeg).toInt) → (1 ≤ y10_0.toInt → 1 ≤ (sv10 13 0 x.toNatClampNeg).toInt) → (mTdR (sv10 13 0) (sv10 15 0)) → (mPos (st 13 0) (sv10 13 0)) → gM G (shM cy ad) cnM ad sv10 H → va_S A s.heap H locs → lv_has ls 5 [(3, .int y10_1), (2, .int y10_0), (0, .ref (ad 0 0)), (1, .int x)] → W p l e ({ frames := 3, cells := 0, slots := 0, locals := 66 } : Room) s m [.ref (ad 0 0), .int x].toArray below meth c H locs 0 0 Q (F0 m 87 ls []) := by
              intro n10
              induction n10 with
              | zero => intro sv10 y10_0 y10_1 H locs ls h9; exact absurd h9 (Nat.not_lt_zero _)
              | succ n10 ih_10 =>
                intro sv10 y10_0 y10_1 H locs ls hme10 hB_sv10 hv10_0 hv10_1 hv10_2 hv10_3 hv10_4 hv10_5 hM hS hl
                refine lv_iload_n hx hb dX10_turns_87 rfl (lv_at hl 0 rfl) ?_
                refine lv_if_eq (tgt := 206) hx hb dX10_turns_88 (by decide) (fun c_11 => ?_) (fun c_11 => ?_)
                · have ic_11 := gz_eq (rfl : y10_1.toInt = y10_1.toInt) (by decide : (0 : Int32).toInt = 0) c_11
                  refine lv_iconst (v := 1) hx hb dX10_turns_206 (by decide) ?_
                  rw [← hQe]
                  exact gs_iret hx hb hr hlocks hM hS (by decide) ⟨hB_sv10, (Or.inl ⟨rfl, (by have h9 := hv10_2; omega), (by exact hv10_4), (by exact hv10_5)⟩)⟩ (by exact Nat.le_refl _) (by exact Nat.le_refl _) dX10_turns_207
                · have ic_11 := gz_ne (rfl : y10_1.toInt = y10_1.toInt) (by decide : (0 : Int32).toInt = 0) c_11
                  refine lv_aload_n hx hb dX10_turns_91 rfl (lv_at hl 2 rfl) ?_
                  refine gs_get (C := RX10) (T := TX10) (N := 59) hx hb hts inX10 hown hK hM 0 0 13 (by decide) rfl rfl (by decide) (hts _ gm_910) (fun _ h9 => h9) rfl dX10_turns_92 ?_
                  refine lv_istore (lv' := [(4, .int (sv10 0 0 13)), (3, .int y10_1), (2, .int y10_0), (0, .ref (ad 0 0)), (1, .int x)]) hx hb dX10_turns_95 hl (by decide) rfl (fun ls hl => ?_)
                  refine lv_aload_n hx hb dX10_turns_97 rfl (lv_at hl 3 rfl) ?_
                  refine gs_calli (va_runV (As := []) (rest := []) ⟨hx, hb, hml, hown, hts⟩ (m_readClan l G cy sK sV ad H.size sv10 hB_sv10.1  ) ⟨(gz_cb (n := 0) hts gm_1143 gm_12 gm_1146 ⟨by decide +kernel, by decide +kernel, by decide +kernel⟩ ⟨Nat.le_of_ble_eq_true rfl, Nat.le_of_ble_eq_true rfl⟩), hts _ gm_1145, hts _ gs_41⟩ (gs_preV hK hov hE hI hM hm hS hA 0 0 (by decide) rfl rfl) rfl rfl hl.1 rfl (lv_room (Nat.le_of_ble_eq_true rfl)) dX10_turns_98 ⟨Nat.le_of_ble_eq_true rfl, Nat.le_of_ble_eq_true rfl⟩) hm hS hA (fun r_13 st_13 H locs hw_13 hM hS => ?_)
                  obtain ⟨n_13, hw_13⟩ := hw_13
                  have hB_st_13 : gBN bM kM [11, 12, 13, 14, 15, 16, 17, 18, 19, 59, 900, 1300, 1400, 1500] st st_13 := hB_sv10.call n_13 (by decide)
                  rcases hw_13 with ⟨rfl, hw_13_0, hw_13_1⟩ | rfl
                  · skip
                    refine lv_if_ne (tgt := 106) hx hb dX10_turns_101 (by decide) (fun _ => ?_) (fun h9 => absurd h9 (by decide))
                    refine lv_iload_n hx hb dX10_turns_106 rfl (lv_at hl 2 rfl) ?_
                    refine lv_bipush (v := 8) hx hb dX10_turns_107 (by decide) ?_
                    refine lv_icmp_ne (tgt := 120) hx hb dX10_turns_109 (by decide) (fun c_14 => ?_) (fun c_14 => ?_)
                    · have ic_14 := gz_ne (rfl : y10_0.toInt = y10_0.toInt) (by decide : (8 : Int32).toInt = 8) c_14
                      refine lv_aload_n hx hb dX10_turns_120 rfl (lv_at hl 3 rfl) ?_
                      refine gs_get (C := RX10) (T := TX10) (N := 59) hx hb hts inX10 hown hK hM 0 0 26 (by decide) rfl rfl (by decide) (hts _ gm_923) (fun _ h9 => h9) rfl dX10_turns_121 ?_
                      refine lv_bipush (v := 8) hx hb dX10_turns_124 (by decide) ?_
                      refine lv_iload_n hx hb dX10_turns_126 rfl (lv_at hl 4 rfl) ?_
                      refine lv_imul hx hb dX10_turns_127 ?_
                      refine lv_topi (fun x_15 ex_15 => ?_)
                      try have tx_15 : x_15.toInt = 8 * x.toInt := by rw [ex_15]; exact gz_mulI (x := 8) (y := x.toInt) (by decide) rfl (by omega) (by omega)
                      refine lv_iload_n hx hb dX10_turns_128 rfl (lv_at hl 2 rfl) ?_
                      refine lv_iadd hx hb dX10_turns_129 ?_
                      refine lv_topi (fun x_16 ex_16 => ?_)
                      try have tx_16 : x_16.toInt = x_15.toInt + y10_0.toInt := by rw [ex_16]; exact gz_addI (x := x_15.toInt) (y := y10_0.toInt) rfl rfl (by omega) (by omega)
                      refine lv_aload_n hx hb dX10_turns_130 rfl (lv_at hl 3 rfl) ?_
                      refine gs_get (C := RX10) (T := TX10) (N := 59) hx hb hts inX10 hown hK hM 0 0 18 (by decide) rfl rfl (by decide) (hts _ gm_915) (fun _ h9 => h9) rfl dX10_turns_131 ?_
                      refine gs_iast hx hb hK hI hm hM hS 14 0 (by decide) (fun _ => rfl) (vp_in_iff.mpr ⟨by omega, by omega⟩) dX10_turns_134 (fun st_18 H locs est_18 hM hS => ?_)
                      have hB_st_18 : gBN bM kM [11, 12, 13, 14, 15, 16, 17, 18, 19, 59, 900, 1300, 1400, 1500] st st_18 := by rw [est_18]; exact hB_st_13.up (show (1400 : Nat) ∈ _ from by decide) (gi_lo _) (gi_hi _)
                      refine lv_aload_n hx hb dX10_turns_135 rfl (lv_at hl 3 rfl) ?_
                      refine lv_iconst (v := 1) hx hb dX10_turns_136 (by decide) ?_
                      refine lv_bipush (v := 9) hx hb dX10_turns_137 (by decide) ?_
                      refine gs_calli (va_runV (As := [.int 1, .int 9]) (rest := []) ⟨hx, hb, hml, hown, hts⟩ (m_readNumber l G cy sK sV ad H.size st_18 hB_st_18.1 (1 : Int32) (9 : Int32) 1 9 (by decide) (by decide) ) ⟨(gz_cb (n := 2) hts gm_1135 gm_12 gm_1138 ⟨by decide +kernel, by decide +kernel, by decide +kernel⟩ ⟨Nat.le_of_ble_eq_true rfl, Nat.le_of_ble_eq_true rfl⟩), hts _ gm_1137, hts _ gs_39⟩ (gs_preV hK hov hE hI hM hm hS hA 0 0 (by decide) rfl rfl) rfl rfl hl.1 rfl (lv_room (Nat.le_of_ble_eq_true rfl)) dX10_turns_139 ⟨Nat.le_of_ble_eq_true rfl, Nat.le_of_ble_eq_true rfl⟩) hm hS hA (fun r_19 st_19 H locs hw_19 hM hS => ?_)
                      obtain ⟨n_19, hw_19⟩ := hw_19
                      have hB_st_19 : gBN bM kM [11, 12, 13, 14, 15, 16, 17, 18, 19, 59, 900, 1300, 1400, 1500] st st_19 := hB_st_18.call n_19 (by decide)
                      rcases hw_19 with ⟨rfl, hw_19_0, hw_19_1⟩ | rfl
                      · skip
                        refine lv_if_ne (tgt := 147) hx hb dX10_turns_142 (by decide) (fun _ => ?_) (fun h9 => absurd h9 (by decide))
                        refine lv_aload_n hx hb dX10_turns_147 rfl (lv_at hl 3 rfl) ?_
                        refine gs_get (C := RX10) (T := TX10) (N := 59) hx hb hts inX10 hown hK hM 0 0 27 (by decide) rfl rfl (by decide) (hts _ gm_924) (fun _ h9 => h9) rfl dX10_turns_148 ?_
                        refine lv_bipush (v := 8) hx hb dX10_turns_151 (by decide) ?_
                        refine lv_iload_n hx hb dX10_turns_153 rfl (lv_at hl 4 rfl) ?_
                        refine lv_imul hx hb dX10_turns_154 ?_
                        refine lv_topi (fun x_20 ex_20 => ?_)
                        try have tx_20 : x_20.toInt = 8 * x.toInt := by rw [ex_20]; exact gz_mulI (x := 8) (y := x.toInt) (by decide) rfl (by omega) (by omega)
                        refine lv_iload_n hx hb dX10_turns_155 rfl (lv_at hl 2 rfl) ?_
                        refine lv_iadd hx hb dX10_turns_156 ?_
                        refine lv_topi (fun x_21 ex_21 => ?_)
                        try have tx_21 : x_21.toInt = x_20.toInt + y10_0.toInt := by rw [ex_21]; exact gz_addI (x := x_20.toInt) (y := y10_0.toInt) rfl rfl (by omega) (by omega)
                        refine lv_aload_n hx hb dX10_turns_157 rfl (lv_at hl 3 rfl) ?_
                        refine gs_get (C := RX10) (T := TX10) (N := 59) hx hb hts inX10 hown hK hM 0 0 18 (by decide) rfl rfl (by decide) (hts _ gm_915) (fun _ h9 => h9) rfl dX10_turns_158 ?_
                        refine gs_iast hx hb hK hI hm hM hS 15 0 (by decide) (fun _ => rfl) (vp_in_iff.mpr ⟨by omega, by omega⟩) dX10_turns_161 (fun st_23 H locs est_23 hM hS => ?_)
                        have hB_st_23 : gBN bM kM [11, 12, 13, 14, 15, 16, 17, 18, 19, 59, 900, 1300, 1400, 1500] st st_23 := by rw [est_23]; exact hB_st_19.up (show (1500 : Nat) ∈ _ from by decide) (show (0 : Int) ≤ (st_19 0 0 18).toInt from by omega) (show (st_19 0 0 18).toInt ≤ (9 : Int) from by omega)
                        obtain ⟨x_24, ex_24⟩ : ∃ y : Int32, y = y10_0 + 1 := ⟨_, rfl⟩
                        try have tx_24 : x_24.toInt = y10_0.toInt + 1 := by rw [ex_24]; exact gz_addP (x := y10_0.toInt) (y := 1) rfl (by decide) (by omega) (by omega)
                        refine lv_iinc (v := (x_24)) (lv' := [(2, .int x_24), (4, .int (sv10 0 0 13)), (3, .int y10_1), (0, .ref (ad 0 0)), (1, .int x)]) hx hb dX10_turns_162 hl (k := 2) rfl (by rw [ex_24]; rfl) (by decide) rfl (fun ls hl => ?_)
                        refine lv_aload_n hx hb dX10_turns_165 rfl (lv_at hl 3 rfl) ?_
                        refine gs_get (C := RX10) (T := TX10) (N := 59) hx hb hts inX10 hown hK hM 0 0 25 (by decide) rfl rfl (by decide) (hts _ gm_922) (fun _ h9 => h9) rfl dX10_turns_166 ?_
                        refine lv_iload_n hx hb dX10_turns_169 rfl (lv_at hl 4 rfl) ?_
                        refine lv_iload_n hx hb dX10_turns_170 rfl (lv_at hl 0 rfl) ?_
                        refine gs_iast hx hb hK hI hm hM hS 13 0 (by decide) (fun _ => rfl) (vp_in_iff.mpr ⟨by omega, by omega⟩) dX10_turns_171 (fun st_25 H locs est_25 hM hS => ?_)
                        have hB_st_25 : gBN bM kM [11, 12, 13, 14, 15, 16, 17, 18, 19, 59, 900, 1300, 1400, 1500] st st_25 := by rw [est_25]; exact hB_st_23.up (show (1300 : Nat) ∈ _ from by decide) (show (0 : Int) ≤ x_24.toInt from by omega) (show x_24.toInt ≤ (8 : Int) from by omega)
                        refine lv_aload_n hx hb dX10_turns_172 rfl (lv_at hl 3 rfl) ?_
                        refine gs_get (C := RX10) (T := TX10) (N := 59) hx hb hts inX10 hown hK hM 0 0 12 (by decide) rfl rfl (by decide) (hts _ gm_909) (fun _ h9 => h9) rfl dX10_turns_173 ?_
                        refine lv_topi (fun x_26 ex_26 => ?_)
                        have ex_26 : (st_19 0 0 12) = x_26 := Eq.symm (ex_26.trans (((congrFun (congrFun (congrFun est_25 0) 0) 12).trans (congrFun (congrFun (gU_k (by decide)) 0) 12)).trans ((congrFun (congrFun (congrFun est_23 0) 0) 12).trans (congrFun (congrFun (gU_k (by decide)) 0) 12))))
                        subst ex_26
                        refine lv_iconst (v := 3) hx hb dX10_turns_176 (by decide) ?_
                        refine lv_icmp_ne (tgt := 193) hx hb dX10_turns_177 (by decide) (fun c_28 => ?_) (fun c_28 => ?_)
                        · have ic_28 := gz_ne (rfl : (st_19 0 0 12).toInt = (st_19 0 0 12).toInt) (by decide : (3 : Int32).toInt = 3) c_28
                          refine lv_iconst (v := 0) hx hb dX10_turns_193 (by decide) ?_
                          refine lv_istore_n (lv' := [(3, .int 0), (2, .int x_24), (4, .int (sv10 0 0 13)), (0, .ref (ad 0 0)), (1, .int x)]) hx hb dX10_turns_194 rfl hl (by decide) rfl (fun ls hl => ?_)
                          refine lv_iload_n hx hb dX10_turns_195 rfl (lv_at hl 0 rfl) ?_
                          refine lv_if_eq (tgt := 203) hx hb dX10_turns_196 (by decide) (fun _ => ?_) (fun h9 => absurd (by decide) h9)
                          refine lv_goto (tgt := 87) hx hb dX10_turns_203 (by decide) ?_
                          have hz9 : (0 : Int32).toInt = 0 := (by decide)
                          exact ih_10 st_25 (x_24 : Int32) ((0 : Int32) : Int32) H _ ls (by have hl0 : (0 : Int32).toInt = 0 := (by decide); omega) hB_st_25 (by have hl0 : (0 : Int32).toInt = 0 := (by decide); omega) (by have hl0 : (0 : Int32).toInt = 0 := (by decide); omega) (Or.inr (by rw [show st_25 13 0 = (upd (sv10 13 0) (x.toNatClampNeg) (x_24 : Int32)) from ((congrFun (congrFun est_25 13) 0).trans ((gU_at _ _ _ _ _).trans (congrArg (fun f9 => upd f9 (x.toNatClampNeg) (x_24 : Int32)) ((congrFun (congrFun est_23 13) 0).trans ((congrFun (gU_k (by decide)) 0).trans ((funext (fun j9 => n_19.2 13 0 j9 (show (1300 : Nat) ∉ _ from by decide))).trans ((congrFun (congrFun est_18 13) 0).trans ((congrFun (gU_k (by decide)) 0).trans ((funext (fun j9 => n_13.2 13 0 j9 (show (1300 : Nat) ∉ _ from by decide))).trans rfl)))))))))]; rw [pk_us]; omega)) (fun _ => (by rw [show st_25 13 0 = (upd (sv10 13 0) (x.toNatClampNeg) (x_24 : Int32)) from ((congrFun (congrFun est_25 13) 0).trans ((gU_at _ _ _ _ _).trans (congrArg (fun f9 => upd f9 (x.toNatClampNeg) (x_24 : Int32)) ((congrFun (congrFun est_23 13) 0).trans ((congrFun (gU_k (by decide)) 0).trans ((funext (fun j9 => n_19.2 13 0 j9 (show (1300 : Nat) ∉ _ from by decide))).trans ((congrFun (congrFun est_18 13) 0).trans ((congrFun (gU_k (by decide)) 0).trans ((funext (fun j9 => n_13.2 13 0 j9 (show (1300 : Nat) ∉ _ from by decide))).trans rfl)))))))))]; rw [pk_us]; omega)) (by rw [show st_25 13 0 = (upd (sv10 13 0) (x.toNatClampNeg) (x_24 : Int32)) from ((congrFun (congrFun est_25 13) 0).trans ((gU_at _ _ _ _ _).trans (congrArg (fun f9 => upd f9 (x.toNatClampNeg) (x_24 : Int32)) ((congrFun (congrFun est_23 13) 0).trans ((congrFun (gU_k (by decide)) 0).trans ((funext (fun j9 => n_19.2 13 0 j9 (show (1300 : Nat) ∉ _ from by decide))).trans ((congrFun (congrFun est_18 13) 0).trans ((congrFun (gU_k (by decide)) 0).trans ((funext (fun j9 => n_13.2 13 0 j9 (show (1300 : Nat) ∉ _ from by decide))).trans rfl))))))))), show st_25 15 0 = (upd (sv10 15 0) (x_21.toNatClampNeg) ((st_19 0 0 18) : Int32)) from ((congrFun (congrFun est_25 15) 0).trans ((congrFun (gU_k (by decide)) 0).trans ((congrFun (congrFun est_23 15) 0).trans ((gU_at _ _ _ _ _).trans (congrArg (fun f9 => upd f9 (x_21.toNatClampNeg) ((st_19 0 0 18) : Int32)) ((funext (fun j9 => n_19.2 15 0 j9 (show (1500 : Nat) ∉ _ from by decide))).trans ((congrFun (congrFun est_18 15) 0).trans ((congrFun (gU_k (by decide)) 0).trans ((funext (fun j9 => n_13.2 15 0 j9 (show (1500 : Nat) ∉ _ from by decide))).trans rfl)))))))))]; exact mTd_up (n := y10_0) hv10_4 (by omega) (by omega) (by omega) (by omega) (by omega) hv10_3) (by rw [show st_25 13 0 = (upd (sv10 13 0) (x.toNatClampNeg) (x_24 : Int32)) from ((congrFun (congrFun est_25 13) 0).trans ((gU_at _ _ _ _ _).trans (congrArg (fun f9 => upd f9 (x.toNatClampNeg) (x_24 : Int32)) ((congrFun (congrFun est_23 13) 0).trans ((congrFun (gU_k (by decide)) 0).trans ((funext (fun j9 => n_19.2 13 0 j9 (show (1300 : Nat) ∉ _ from by decide))).trans ((congrFun (congrFun est_18 13) 0).trans ((congrFun (gU_k (by decide)) 0).trans ((funext (fun j9 => n_13.2 13 0 j9 (show (1300 : Nat) ∉ _ from by decide))).trans rfl)))))))))]; exact hv10_5.up (by omega)) hM hS (lv_sub hl [0, 1, 3, 4] rfl)
                        · have ic_28 := gz_eqn (rfl : (st_19 0 0 12).toInt = (st_19 0 0 12).toInt) (by decide : (3 : Int32).toInt = 3) c_28
                          refine lv_aload_n hx hb dX10_turns_180 rfl (lv_at hl 3 rfl) ?_
                          refine gs_get (C := RX10) (T := TX10) (N := 59) hx hb hts inX10 hown hK hM 0 0 14 (by decide) rfl rfl (by decide) (hts _ gm_911) (fun _ h9 => h9) rfl dX10_turns_181 ?_
                          refine lv_topi (fun x_29 ex_29 => ?_)
                          have ex_29 : (st_19 0 0 14) = x_29 := Eq.symm (ex_29.trans (((congrFun (congrFun (congrFun est_25 0) 0) 14).trans (congrFun (congrFun (gU_k (by decide)) 0) 14)).trans ((congrFun (congrFun (congrFun est_23 0) 0) 14).trans (congrFun (congrFun (gU_k (by decide)) 0) 14))))
                          subst ex_29
                          refine lv_bipush (v := 44) hx hb dX10_turns_184 (by decide) ?_
                          refine lv_icmp_ne (tgt := 193) hx hb dX10_turns_186 (by decide) (fun c_31 => ?_) (fun c_31 => ?_)
                          · have ic_31 := gz_ne (rfl : (st_19 0 0 14).toInt = (st_19 0 0 14).toInt) (by decide : (44 : Int32).toInt = 44) c_31
                            refine lv_iconst (v := 0) hx hb dX10_turns_193 (by decide) ?_
                            refine lv_istore_n (lv' := [(3, .int 0), (2, .int x_24), (4, .int (sv10 0 0 13)), (0, .ref (ad 0 0)), (1, .int x)]) hx hb dX10_turns_194 rfl hl (by decide) rfl (fun ls hl => ?_)
                            refine lv_iload_n hx hb dX10_turns_195 rfl (lv_at hl 0 rfl) ?_
                            refine lv_if_eq (tgt := 203) hx hb dX10_turns_196 (by decide) (fun _ => ?_) (fun h9 => absurd (by decide) h9)
                            refine lv_goto (tgt := 87) hx hb dX10_turns_203 (by decide) ?_
                            have hz9 : (0 : Int32).toInt = 0 := (by decide)
                            exact ih_10 st_25 (x_24 : Int32) ((0 : Int32) : Int32) H _ ls (by have hl0 : (0 : Int32).toInt = 0 := (by decide); omega) hB_st_25 (by have hl0 : (0 : Int32).toInt = 0 := (by decide); omega) (by have hl0 : (0 : Int32).toInt = 0 := (by decide); omega) (Or.inr (by rw [show st_25 13 0 = (upd (sv10 13 0) (x.toNatClampNeg) (x_24 : Int32)) from ((congrFun (congrFun est_25 13) 0).trans ((gU_at _ _ _ _ _).trans (congrArg (fun f9 => upd f9 (x.toNatClampNeg) (x_24 : Int32)) ((congrFun (congrFun est_23 13) 0).trans ((congrFun (gU_k (by decide)) 0).trans ((funext (fun j9 => n_19.2 13 0 j9 (show (1300 : Nat) ∉ _ from by decide))).trans ((congrFun (congrFun est_18 13) 0).trans ((congrFun (gU_k (by decide)) 0).trans ((funext (fun j9 => n_13.2 13 0 j9 (show (1300 : Nat) ∉ _ from by decide))).trans rfl)))))))))]; rw [pk_us]; omega)) (fun _ => (by rw [show st_25 13 0 = (upd (sv10 13 0) (x.toNatClampNeg) (x_24 : Int32)) from ((congrFun (congrFun est_25 13) 0).trans ((gU_at _ _ _ _ _).trans (congrArg (fun f9 => upd f9 (x.toNatClampNeg) (x_24 : Int32)) ((congrFun (congrFun est_23 13) 0).trans ((congrFun (gU_k (by decide)) 0).trans ((funext (fun j9 => n_19.2 13 0 j9 (show (1300 : Nat) ∉ _ from by decide))).trans ((congrFun (congrFun est_18 13) 0).trans ((congrFun (gU_k (by decide)) 0).trans ((funext (fun j9 => n_13.2 13 0 j9 (show (1300 : Nat) ∉ _ from by decide))).trans rfl)))))))))]; rw [pk_us]; omega)) (by rw [show st_25 13 0 = (upd (sv10 13 0) (x.toNatClampNeg) (x_24 : Int32)) from ((congrFun (congrFun est_25 13) 0).trans ((gU_at _ _ _ _ _).trans (congrArg (fun f9 => upd f9 (x.toNatClampNeg) (x_24 : Int32)) ((congrFun (congrFun est_23 13) 0).trans ((congrFun (gU_k (by decide)) 0).trans ((funext (fun j9 => n_19.2 13 0 j9 (show (1300 : Nat) ∉ _ from by decide))).trans ((congrFun (congrFun est_18 13) 0).trans ((congrFun (gU_k (by decide)) 0).trans ((funext (fun j9 => n_13.2 13 0 j9 (show (1300 : Nat) ∉ _ from by decide))).trans rfl))))))))), show st_25 15 0 = (upd (sv10 15 0) (x_21.toNatClampNeg) ((st_19 0 0 18) : Int32)) from ((congrFun (congrFun est_25 15) 0).trans ((congrFun (gU_k (by decide)) 0).trans ((congrFun (congrFun est_23 15) 0).trans ((gU_at _ _ _ _ _).trans (congrArg (fun f9 => upd f9 (x_21.toNatClampNeg) ((st_19 0 0 18) : Int32)) ((funext (fun j9 => n_19.2 15 0 j9 (show (1500 : Nat) ∉ _ from by decide))).trans ((congrFun (congrFun est_18 15) 0).trans ((congrFun (gU_k (by decide)) 0).trans ((funext (fun j9 => n_13.2 15 0 j9 (show (1500 : Nat) ∉ _ from by decide))).trans rfl)))))))))]; exact mTd_up (n := y10_0) hv10_4 (by omega) (by omega) (by omega) (by omega) (by omega) hv10_3) (by rw [show st_25 13 0 = (upd (sv10 13 0) (x.toNatClampNeg) (x_24 : Int32)) from ((congrFun (congrFun est_25 13) 0).trans ((gU_at _ _ _ _ _).trans (congrArg (fun f9 => upd f9 (x.toNatClampNeg) (x_24 : Int32)) ((congrFun (congrFun est_23 13) 0).trans ((congrFun (gU_k (by decide)) 0).trans ((funext (fun j9 => n_19.2 13 0 j9 (show (1300 : Nat) ∉ _ from by decide))).trans ((congrFun (congrFun est_18 13) 0).trans ((congrFun (gU_k (by decide)) 0).trans ((funext (fun j9 => n_13.2 13 0 j9 (show (1300 : Nat) ∉ _ from by decide))).trans rfl)))))))))]; exact hv10_5.up (by omega)) hM hS (lv_sub hl [0, 1, 3, 4] rfl)
                          · have ic_31 := gz_eqn (rfl : (st_19 0 0 14).toInt = (st_19 0 0 14).toInt) (by decide : (44 : Int32).toInt = 44) c_31
                            refine lv_iconst (v := 1) hx hb dX10_turns_189 (by decide) ?_
                            refine lv_goto (tgt := 194) hx hb dX10_turns_190 (by decide) ?_
                            refine lv_istore_n (lv' := [(3, .int 1), (2, .int x_24), (4, .int (sv10 0 0 13)), (0, .ref (ad 0 0)), (1, .int x)]) hx hb dX10_turns_194 rfl hl (by decide) rfl (fun ls hl => ?_)
                            refine lv_iload_n hx hb dX10_turns_195 rfl (lv_at hl 0 rfl) ?_
                            refine lv_if_eq (tgt := 203) hx hb dX10_turns_196 (by decide) (fun h9 => absurd h9 (by decide)) (fun _ => ?_)
                            refine lv_aload_n hx hb dX10_turns_199 rfl (lv_at hl 3 rfl) ?_
                            refine gs_callv (va_runV (As := []) (rest := []) ⟨hx, hb, hml, hown, hts⟩ (m_next0 l G cy sK sV ad H.size st_25 hB_st_25.1  ) ⟨(gz_cb (n := 0) hts gm_1096 gm_12 gm_1099 ⟨by decide +kernel, by decide +kernel, by decide +kernel⟩ ⟨Nat.le_of_ble_eq_true rfl, Nat.le_of_ble_eq_true rfl⟩), hts _ gm_1098, hts _ gs_32⟩ (gs_preV hK hov hE hI hM hm hS hA 0 0 (by decide) rfl rfl) rfl rfl hl.1 rfl (lv_room (Nat.le_of_ble_eq_true rfl)) dX10_turns_200 ⟨Nat.le_of_ble_eq_true rfl, Nat.le_of_ble_eq_true rfl⟩) hm hS hA (fun st_32 H locs hw_32 hM hS => ?_)
                            obtain ⟨n_32, hw_32⟩ := hw_32
                            have hB_st_32 : gBN bM kM [11, 12, 13, 14, 15, 16, 17, 18, 19, 59, 900, 1300, 1400, 1500] st st_32 := hB_st_25.call n_32 (by decide)
                            refine lv_goto (tgt := 87) hx hb dX10_turns_203 (by decide) ?_
                            have hz9 : (1 : Int32).toInt = 1 := (by decide)
                            exact ih_10 st_32 (x_24 : Int32) ((1 : Int32) : Int32) H _ ls (by have hl0 : (1 : Int32).toInt = 1 := (by decide); omega) hB_st_32 (by have hl0 : (1 : Int32).toInt = 1 := (by decide); omega) (by have hl0 : (1 : Int32).toInt = 1 := (by decide); omega) (Or.inr (by rw [show st_32 13 0 = (upd (sv10 13 0) (x.toNatClampNeg) (x_24 : Int32)) from ((funext (fun j9 => n_32.2 13 0 j9 (show (1300 : Nat) ∉ _ from by decide))).trans ((congrFun (congrFun est_25 13) 0).trans ((gU_at _ _ _ _ _).trans (congrArg (fun f9 => upd f9 (x.toNatClampNeg) (x_24 : Int32)) ((congrFun (congrFun est_23 13) 0).trans ((congrFun (gU_k (by decide)) 0).trans ((funext (fun j9 => n_19.2 13 0 j9 (show (1300 : Nat) ∉ _ from by decide))).trans ((congrFun (congrFun est_18 13) 0).trans ((congrFun (gU_k (by decide)) 0).trans ((funext (fun j9 => n_13.2 13 0 j9 (show (1300 : Nat) ∉ _ from by decide))).trans rfl))))))))))]; rw [pk_us]; omega)) (fun _ => (by rw [show st_32 13 0 = (upd (sv10 13 0) (x.toNatClampNeg) (x_24 : Int32)) from ((funext (fun j9 => n_32.2 13 0 j9 (show (1300 : Nat) ∉ _ from by decide))).trans ((congrFun (congrFun est_25 13) 0).trans ((gU_at _ _ _ _ _).trans (congrArg (fun f9 => upd f9 (x.toNatClampNeg) (x_24 : Int32)) ((congrFun (congrFun est_23 13) 0).trans ((congrFun (gU_k (by decide)) 0).trans ((funext (fun j9 => n_19.2 13 0 j9 (show (1300 : Nat) ∉ _ from by decide))).trans ((congrFun (congrFun est_18 13) 0).trans ((congrFun (gU_k (by decide)) 0).trans ((funext (fun j9 => n_13.2 13 0 j9 (show (1300 : Nat) ∉ _ from by decide))).trans rfl))))))))))]; rw [pk_us]; omega)) (by rw [show st_32 13 0 = (upd (sv10 13 0) (x.toNatClampNeg) (x_24 : Int32)) from ((funext (fun j9 => n_32.2 13 0 j9 (show (1300 : Nat) ∉ _ from by decide))).trans ((congrFun (congrFun est_25 13) 0).trans ((gU_at _ _ _ _ _).trans (congrArg (fun f9 => upd f9 (x.toNatClampNeg) (x_24 : Int32)) ((congrFun (congrFun est_23 13) 0).trans ((congrFun (gU_k (by decide)) 0).trans ((funext (fun j9 => n_19.2 13 0 j9 (show (1300 : Nat) ∉ _ from by decide))).trans ((congrFun (congrFun est_18 13) 0).trans ((congrFun (gU_k (by decide)) 0).trans ((funext (fun j9 => n_13.2 13 0 j9 (show (1300 : Nat) ∉ _ from by decide))).trans rfl)))))))))), show st_32 15 0 = (upd (sv10 15 0) (x_21.toNatClampNeg) ((st_19 0 0 18) : Int32)) from ((funext (fun j9 => n_32.2 15 0 j9 (show (1500 : Nat) ∉ _ from by decide))).trans ((congrFun (congrFun est_25 15) 0).trans ((congrFun (gU_k (by decide)) 0).trans ((congrFun (congrFun est_23 15) 0).trans ((gU_at _ _ _ _ _).trans (congrArg (fun f9 => upd f9 (x_21.toNatClampNeg) ((st_19 0 0 18) : Int32)) ((funext (fun j9 => n_19.2 15 0 j9 (show (1500 : Nat) ∉ _ from by decide))).trans ((congrFun (congrFun est_18 15) 0).trans ((congrFun (gU_k (by decide)) 0).trans ((funext (fun j9 => n_13.2 15 0 j9 (show (1500 : Nat) ∉ _ from by decide))).trans rfl))))))))))]; exact mTd_up (n := y10_0) hv10_4 (by omega) (by omega) (by omega) (by omega) (by omega) hv10_3) (by rw [show st_32 13 0 = (upd (sv10 13 0) (x.toNatClampNeg) (x_24 : Int32)) from ((funext (fun j9 => n_32.2 13 0 j9 (show (1300 : Nat) ∉ _ from by decide))).trans ((congrFun (congrFun est_25 13) 0).trans ((gU_at _ _ _ _ _).trans (congrArg (fun f9 => upd f9 (x.toNatClampNeg) (x_24 : Int32)) ((congrFun (congrFun est_23 13) 0).trans ((congrFun (gU_k (by decide)) 0).trans ((funext (fun j9 => n_19.2 13 0 j9 (show (1300 : Nat) ∉ _ from by decide))).trans ((congrFun (congrFun est_18 13) 0).trans ((congrFun (gU_k (by decide)) 0).trans ((funext (fun j9 => n_13.2 13 0 j9 (show (1300 : Nat) ∉ _ from by decide))).trans rfl))))))))))]; exact hv10_5.up (by omega)) hM hS (lv_sub hl [0, 1, 3, 4] rfl)
                      · skip
                        refine lv_if_ne (tgt := 147) hx hb dX10_turns_142 (by decide) (fun h9 => absurd (by decide) h9) (fun _ => ?_)
                        refine lv_iconst (v := 0) hx hb dX10_turns_145 (by decide) ?_
                        rw [← hQe]
                        exact gs_iret hx hb hr hlocks hM hS (by decide) ⟨hB_st_19, (Or.inr ⟨rfl, (by rw [show st_19 13 0 = (sv10 13 0) from ((funext (fun j9 => n_19.2 13 0 j9 (show (1300 : Nat) ∉ _ from by decide))).trans ((congrFun (congrFun est_18 13) 0).trans ((congrFun (gU_k (by decide)) 0).trans ((funext (fun j9 => n_13.2 13 0 j9 (show (1300 : Nat) ∉ _ from by decide))).trans rfl)))), show st_19 15 0 = (sv10 15 0) from ((funext (fun j9 => n_19.2 15 0 j9 (show (1500 : Nat) ∉ _ from by decide))).trans ((congrFun (congrFun est_18 15) 0).trans ((congrFun (gU_k (by decide)) 0).trans ((funext (fun j9 => n_13.2 15 0 j9 (show (1500 : Nat) ∉ _ from by decide))).trans rfl))))]; exact hv10_4), (by rw [show st_19 13 0 = (sv10 13 0) from ((funext (fun j9 => n_19.2 13 0 j9 (show (1300 : Nat) ∉ _ from by decide))).trans ((congrFun (congrFun est_18 13) 0).trans ((congrFun (gU_k (by decide)) 0).trans ((funext (fun j9 => n_13.2 13 0 j9 (show (1300 : Nat) ∉ _ from by decide))).trans rfl))))]; exact hv10_5)⟩)⟩ (by exact Nat.le_refl _) (by exact Nat.le_refl _) dX10_turns_146
                    · have ic_14 := gz_eqn (rfl : y10_0.toInt = y10_0.toInt) (by decide : (8 : Int32).toInt = 8) c_14
                      refine lv_aload_n hx hb dX10_turns_112 rfl (lv_at hl 3 rfl) ?_
                      refine lv_iconst (v := 4) hx hb dX10_turns_113 (by decide) ?_
                      refine lv_iload hx hb dX10_turns_114 (lv_at hl 0 rfl) ?_
                      refine gs_calli (va_runV (As := [.int 4, .int (sv10 0 0 13)]) (rest := []) ⟨hx, hb, hml, hown, hts⟩ (m_wrong l G cy sK sV ad H.size st_13 hB_st_13.1 (4 : Int32) (sv10 0 0 13) ) ⟨(gz_cb (n := 2) hts gm_1127 gm_12 gm_1130 ⟨by decide +kernel, by decide +kernel, by decide +kernel⟩ ⟨Nat.le_of_ble_eq_true rfl, Nat.le_of_ble_eq_true rfl⟩), hts _ gm_1129, hts _ gs_37⟩ (gs_preV hK hov hE hI hM hm hS hA 0 0 (by decide) rfl rfl) rfl rfl hl.1 rfl (lv_room (Nat.le_of_ble_eq_true rfl)) dX10_turns_116 ⟨Nat.le_of_ble_eq_true rfl, Nat.le_of_ble_eq_true rfl⟩) hm hS hA (fun r_33 st_33 H locs hw_33 hM hS => ?_)
                      obtain ⟨n_33, hw_33⟩ := hw_33
                      have hB_st_33 : gBN bM kM [11, 12, 13, 14, 15, 16, 17, 18, 19, 59, 900, 1300, 1400, 1500] st st_33 := hB_st_13.call n_33 (by decide)
                      obtain rfl := hw_33
                      rw [← hQe]
                      exact gs_iret hx hb hr hlocks hM hS (by decide) ⟨hB_st_33, (Or.inr ⟨rfl, (by rw [show st_33 13 0 = (sv10 13 0) from ((funext (fun j9 => n_33.2 13 0 j9 (show (1300 : Nat) ∉ _ from by decide))).trans ((funext (fun j9 => n_13.2 13 0 j9 (show (1300 : Nat) ∉ _ from by decide))).trans rfl)), show st_33 15 0 = (sv10 15 0) from ((funext (fun j9 => n_33.2 15 0 j9 (show (1500 : Nat) ∉ _ from by decide))).trans ((funext (fun j9 => n_13.2 15 0 j9 (show (1500 : Nat) ∉ _ from by decide))).trans rfl))]; exact hv10_4), (by rw [show st_33 13 0 = (sv10 13 0) from ((funext (fun j9 => n_33.2 13 0 j9 (show (1300 : Nat) ∉ _ from by decide))).trans ((funext (fun j9 => n_13.2 13 0 j9 (show (1300 : Nat) ∉ _ from by decide))).trans rfl))]; exact hv10_5)⟩)⟩ (by exact Nat.le_refl _) (by exact Nat.le_refl _) dX10_turns_119
                  · skip
                    refine lv_if_ne (tgt := 106) hx hb dX10_turns_101 (by decide) (fun h9 => absurd (by decide) h9) (fun _ => ?_)
                    refine lv_iconst (v := 0) hx hb dX10_turns_104 (by decide) ?_
                    rw [← hQe]
                    exact gs_iret hx hb hr hlocks hM hS (by decide) ⟨hB_st_13, (Or.inr ⟨rfl, (by rw [show st_13 13 0 = (sv10 13 0) from ((funext (fun j9 => n_13.2 13 0 j9 (show (1300 : Nat) ∉ _ from by decide))).trans rfl), show st_13 15 0 = (sv10 15 0) from ((funext (fun j9 => n_13.2 15 0 j9 (show (1500 : Nat) ∉ _ from by decide))).trans rfl)]; exact hv10_4), (by rw [show st_13 13 0 = (sv10 13 0) from ((funext (fun j9 => n_13.2 13 0 j9 (show (1300 : Nat) ∉ _ from by decide))).trans rfl)]; exact hv10_5)⟩)⟩ (by exact Nat.le_refl _) (by exact Nat.le_refl _) dX10_turns_105
            exact lp10 ((9 - ((0 : Int32) : Int32).toInt).toNat + 1) st_9 ((0 : Int32) : Int32) ((1 : Int32) : Int32) H _ ls (Nat.lt_succ_self _) hB_st_9 (by have hl0 : (0 : Int32).toInt = 0 := (by decide); have hl1 : (1 : Int32).toInt = 1 := (by decide); omega) (by have hl0 : (0 : Int32).toInt = 0 := (by decide); have hl1 : (1 : Int32).toInt = 1 := (by decide); omega) (Or.inl (by decide)) (fun h9 => absurd h9 (by decide)) (by rw [show st_9 13 0 = (st 13 0) from ((funext (fun j9 => n_9.2 13 0 j9 (show (1300 : Nat) ∉ _ from by decide))).trans ((congrFun (congrFun est_8 13) 0).trans ((congrFun (gU_k (by decide)) 0).trans ((funext (fun j9 => n_1.2 13 0 j9 (show (1300 : Nat) ∉ _ from by decide))).trans rfl)))), show st_9 15 0 = (st 15 0) from ((funext (fun j9 => n_9.2 15 0 j9 (show (1500 : Nat) ∉ _ from by decide))).trans ((congrFun (congrFun est_8 15) 0).trans ((congrFun (gU_k (by decide)) 0).trans ((funext (fun j9 => n_1.2 15 0 j9 (show (1500 : Nat) ∉ _ from by decide))).trans rfl))))]; exact htd) (by rw [show st_9 13 0 = (st 13 0) from ((funext (fun j9 => n_9.2 13 0 j9 (show (1300 : Nat) ∉ _ from by decide))).trans ((congrFun (congrFun est_8 13) 0).trans ((congrFun (gU_k (by decide)) 0).trans ((funext (fun j9 => n_1.2 13 0 j9 (show (1300 : Nat) ∉ _ from by decide))).trans rfl))))]; exact mPos.rf) hM hS (lv_sub hl [0, 1, 2, 3] rfl)
          · skip
            refine lv_if_ne (tgt := 83) hx hb dX10_turns_78 (by decide) (fun h9 => absurd (by decide) h9) (fun _ => ?_)
            refine lv_iconst (v := 0) hx hb dX10_turns_81 (by decide) ?_
            rw [← hQe]
            exact gs_iret hx hb hr hlocks hM hS (by decide) ⟨hB_st_9, (Or.inr ⟨rfl, (by rw [show st_9 13 0 = (st 13 0) from ((funext (fun j9 => n_9.2 13 0 j9 (show (1300 : Nat) ∉ _ from by decide))).trans ((congrFun (congrFun est_8 13) 0).trans ((congrFun (gU_k (by decide)) 0).trans ((funext (fun j9 => n_1.2 13 0 j9 (show (1300 : Nat) ∉ _ from by decide))).trans rfl)))), show st_9 15 0 = (st 15 0) from ((funext (fun j9 => n_9.2 15 0 j9 (show (1500 : Nat) ∉ _ from by decide))).trans ((congrFun (congrFun est_8 15) 0).trans ((congrFun (gU_k (by decide)) 0).trans ((funext (fun j9 => n_1.2 15 0 j9 (show (1500 : Nat) ∉ _ from by decide))).trans rfl))))]; exact htd), (by rw [show st_9 13 0 = (st 13 0) from ((funext (fun j9 => n_9.2 13 0 j9 (show (1300 : Nat) ∉ _ from by decide))).trans ((congrFun (congrFun est_8 13) 0).trans ((congrFun (gU_k (by decide)) 0).trans ((funext (fun j9 => n_1.2 13 0 j9 (show (1300 : Nat) ∉ _ from by decide))).trans rfl))))]; exact mPos.rf)⟩)⟩ (by exact Nat.le_refl _) (by exact Nat.le_refl _) dX10_turns_82
        · have ic_6 := gz_nle (rfl : x.toInt = x.toInt) (rfl : y5_0.toInt = y5_0.toInt) c_6
          have lc_6 := gi_hi x
          refine lv_aload_n hx hb dX10_turns_24 rfl (lv_at hl 1 rfl) ?_
          refine gs_get (C := RX10) (T := TX10) (N := 59) hx hb hts inX10 hown hK hM 0 0 20 (by decide) rfl rfl (by decide) (hts _ gm_917) (fun _ h9 => h9) rfl dX10_turns_25 ?_
          refine lv_iload_n hx hb dX10_turns_28 rfl (lv_at hl 0 rfl) ?_
          refine gs_iald hx hb hK hM 8 0 (by decide) rfl (vp_in_iff.mpr ⟨by omega, by omega⟩) dX10_turns_29 ?_
          refine lv_topi (fun x_34 ex_34 => ?_)
          have qx_34 : x_34.toInt = (st_1 8 0 (y5_0.toNatClampNeg)).toInt := congrArg Int32.toInt ex_34
          have rx_34 : x_34.toInt = ((st 8 0 (y5_0.toNatClampNeg)) : Int32).toInt := by rw [ex_34]; exact congrArg Int32.toInt ((n_1.2 8 0 (y5_0.toNatClampNeg) (show (800 : Nat) ∉ _ from by decide)))
          refine lv_if_ne (tgt := 56) hx hb dX10_turns_30 (by decide) (fun c_35 => ?_) (fun c_35 => ?_)
          · have ic_35 := gz_ne (rfl : x_34.toInt = x_34.toInt) (by decide : (0 : Int32).toInt = 0) c_35
            obtain ⟨x_36, ex_36⟩ : ∃ y : Int32, y = y5_0 + 1 := ⟨_, rfl⟩
            try have tx_36 : x_36.toInt = y5_0.toInt + 1 := by rw [ex_36]; exact gz_addP (x := y5_0.toInt) (y := 1) rfl (by decide) (by omega) (by omega)
            refine lv_iinc (v := (x_36)) (lv' := [(2, .int x_36), (0, .ref (ad 0 0)), (1, .int x)]) hx hb dX10_turns_56 hl (k := 0) rfl (by rw [ex_36]; rfl) (by decide) rfl (fun ls hl => ?_)
            refine lv_goto (tgt := 19) hx hb dX10_turns_59 (by decide) ?_
            exact ih_5  (x_36 : Int32) H _ ls (by omega)  (by omega) hM hS (lv_sub hl [0, 1, 2] rfl)
          · have ic_35 := gz_eqn (rfl : x_34.toInt = x_34.toInt) (by decide : (0 : Int32).toInt = 0) c_35
            refine lv_aload_n hx hb dX10_turns_33 rfl (lv_at hl 1 rfl) ?_
            refine gs_get (C := RX10) (T := TX10) (N := 59) hx hb hts inX10 hown hK hM 0 0 21 (by decide) rfl rfl (by decide) (hts _ gm_918) (fun _ h9 => h9) rfl dX10_turns_34 ?_
            refine lv_iload_n hx hb dX10_turns_37 rfl (lv_at hl 0 rfl) ?_
            refine gs_iald hx hb hK hM 9 0 (by decide) rfl (vp_in_iff.mpr ⟨by omega, by omega⟩) dX10_turns_38 ?_
            refine lv_topi (fun x_37 ex_37 => ?_)
            have qx_37 : x_37.toInt = (st_1 9 0 (y5_0.toNatClampNeg)).toInt := congrArg Int32.toInt ex_37
            have bx_37 : (0 : Int) ≤ x_37.toInt ∧ x_37.toInt ≤ (5 : Int) := by rw [qx_37]; exact hB_st_1.1 9 0 (y5_0.toNatClampNeg)
            have rx_37 : x_37.toInt = ((st 9 0 (y5_0.toNatClampNeg)) : Int32).toInt := by rw [ex_37]; exact congrArg Int32.toInt ((n_1.2 9 0 (y5_0.toNatClampNeg) (show (900 : Nat) ∉ _ from by decide)))
            refine lv_aload_n hx hb dX10_turns_39 rfl (lv_at hl 1 rfl) ?_
            refine gs_get (C := RX10) (T := TX10) (N := 59) hx hb hts inX10 hown hK hM 0 0 18 (by decide) rfl rfl (by decide) (hts _ gm_915) (fun _ h9 => h9) rfl dX10_turns_40 ?_
            refine lv_icmp_ne (tgt := 56) hx hb dX10_turns_43 (by decide) (fun c_39 => ?_) (fun c_39 => ?_)
            · have ic_39 := gz_ne (rfl : x_37.toInt = x_37.toInt) (rfl : (st_1 0 0 18).toInt = (st_1 0 0 18).toInt) c_39
              obtain ⟨x_40, ex_40⟩ : ∃ y : Int32, y = y5_0 + 1 := ⟨_, rfl⟩
              try have tx_40 : x_40.toInt = y5_0.toInt + 1 := by rw [ex_40]; exact gz_addP (x := y5_0.toInt) (y := 1) rfl (by decide) (by omega) (by omega)
              refine lv_iinc (v := (x_40)) (lv' := [(2, .int x_40), (0, .ref (ad 0 0)), (1, .int x)]) hx hb dX10_turns_56 hl (k := 0) rfl (by rw [ex_40]; rfl) (by decide) rfl (fun ls hl => ?_)
              refine lv_goto (tgt := 19) hx hb dX10_turns_59 (by decide) ?_
              exact ih_5  (x_40 : Int32) H _ ls (by omega)  (by omega) hM hS (lv_sub hl [0, 1, 2] rfl)
            · have ic_39 := gz_eqn (rfl : x_37.toInt = x_37.toInt) (rfl : (st_1 0 0 18).toInt = (st_1 0 0 18).toInt) c_39
              refine lv_aload_n hx hb dX10_turns_46 rfl (lv_at hl 1 rfl) ?_
              refine lv_iconst (v := 3) hx hb dX10_turns_47 (by decide) ?_
              refine lv_aload_n hx hb dX10_turns_48 rfl (lv_at hl 1 rfl) ?_
              refine gs_get (C := RX10) (T := TX10) (N := 59) hx hb hts inX10 hown hK hM 0 0 19 (by decide) rfl rfl (by decide) (hts _ gm_916) (fun _ h9 => h9) rfl dX10_turns_49 ?_
              refine gs_calli (va_runV (As := [.int 3, .int (st_1 0 0 19)]) (rest := []) ⟨hx, hb, hml, hown, hts⟩ (m_wrong l G cy sK sV ad H.size st_1 hB_st_1.1 (3 : Int32) (st_1 0 0 19) ) ⟨(gz_cb (n := 2) hts gm_1127 gm_12 gm_1130 ⟨by decide +kernel, by decide +kernel, by decide +kernel⟩ ⟨Nat.le_of_ble_eq_true rfl, Nat.le_of_ble_eq_true rfl⟩), hts _ gm_1129, hts _ gs_37⟩ (gs_preV hK hov hE hI hM hm hS hA 0 0 (by decide) rfl rfl) rfl rfl hl.1 rfl (lv_room (Nat.le_of_ble_eq_true rfl)) dX10_turns_52 ⟨Nat.le_of_ble_eq_true rfl, Nat.le_of_ble_eq_true rfl⟩) hm hS hA (fun r_42 st_42 H locs hw_42 hM hS => ?_)
              obtain ⟨n_42, hw_42⟩ := hw_42
              have hB_st_42 : gBN bM kM [11, 12, 13, 14, 15, 16, 17, 18, 19, 59, 900, 1300, 1400, 1500] st st_42 := hB_st_1.call n_42 (by decide)
              obtain rfl := hw_42
              rw [← hQe]
              exact gs_iret hx hb hr hlocks hM hS (by decide) ⟨hB_st_42, (Or.inr ⟨rfl, (by rw [show st_42 13 0 = (st 13 0) from ((funext (fun j9 => n_42.2 13 0 j9 (show (1300 : Nat) ∉ _ from by decide))).trans ((funext (fun j9 => n_1.2 13 0 j9 (show (1300 : Nat) ∉ _ from by decide))).trans rfl)), show st_42 15 0 = (st 15 0) from ((funext (fun j9 => n_42.2 15 0 j9 (show (1500 : Nat) ∉ _ from by decide))).trans ((funext (fun j9 => n_1.2 15 0 j9 (show (1500 : Nat) ∉ _ from by decide))).trans rfl))]; exact htd), (by rw [show st_42 13 0 = (st 13 0) from ((funext (fun j9 => n_42.2 13 0 j9 (show (1300 : Nat) ∉ _ from by decide))).trans ((funext (fun j9 => n_1.2 13 0 j9 (show (1300 : Nat) ∉ _ from by decide))).trans rfl))]; exact mPos.rf)⟩)⟩ (by exact Nat.le_refl _) (by exact Nat.le_refl _) dX10_turns_55
    exact lp5 ((Xx - (x_4 : Int32).toInt).toNat + 1)  (x_4 : Int32) H _ ls (Nat.lt_succ_self _)  (by omega) hM hS (lv_sub hl [0, 1, 2] rfl)
  · skip
    refine lv_if_ne (tgt := 11) hx hb dX10_turns_6 (by decide) (fun h9 => absurd (by decide) h9) (fun _ => ?_)
    refine lv_iconst (v := 0) hx hb dX10_turns_9 (by decide) ?_
    rw [← hQe]
    exact gs_iret hx hb hr hlocks hM hS (by decide) ⟨hB_st_1, (Or.inr ⟨rfl, (by rw [show st_1 13 0 = (st 13 0) from ((funext (fun j9 => n_1.2 13 0 j9 (show (1300 : Nat) ∉ _ from by decide))).trans rfl), show st_1 15 0 = (st 15 0) from ((funext (fun j9 => n_1.2 15 0 j9 (show (1500 : Nat) ∉ _ from by decide))).trans rfl)]; exact htd), (by rw [show st_1 13 0 = (st 13 0) from ((funext (fun j9 => n_1.2 13 0 j9 (show (1300 : Nat) ∉ _ from by decide))).trans rfl)]; exact mPos.rf)⟩)⟩ (by exact Nat.le_refl _) (by exact Nat.le_refl _) dX10_turns_10

set_option maxHeartbeats 4000000 in
set_option maxRecDepth 100000 in
/-- WellCourtModel.rule -/
theorem m_rule (l : Launch) (G : va_G) (cy : Nat → ClassId) (sK sV : Nat → Nat) (ad : Nat → Nat → Nat) (sz : Nat) (st : gS) (hB : gBd bM st) (htd : mTdR (st 13 0) (st 15 0)) (hac : mActR (st 8 0) (st 13 0) (st 0 0 28).toInt (st 0 0 30).toInt) (hao : mActR (st 8 0) (st 13 0) (1 - (st 0 0 28).toInt) (st 0 0 29).toInt) : gsMi l yX10_rule cX10_rule 4 (some .boolean) ({ frames := 4, cells := 0, slots := 0, locals := 90 } : Room) G cy sK sV (shM cy ad) cnM ad sz [.ref (ad 0 0)] st (fun (r : Int32) (u : gS) => gBN bM kM [11, 12, 13, 14, 15, 16, 17, 18, 19, 30, 59, 800, 900, 1000, 1100, 1200, 1300, 1400, 1500] st u ∧ ((r = 1 ∧ ((u 0 0 30).toInt = (st 0 0 30).toInt + 1) ∧ (mTdR (u 13 0) (u 15 0)) ∧ (mActR (u 8 0) (u 13 0) (st 0 0 28).toInt ((st 0 0 30).toInt + 1)) ∧ (mActR (u 8 0) (u 13 0) (1 - (st 0 0 28).toInt) (st 0 0 29).toInt)) ∨ (r = 0 ∧ ((u 0 0 30).toInt = (st 0 0 30).toInt) ∧ (mTdR (u 13 0) (u 15 0)) ∧ (mActR (u 8 0) (u 13 0) (st 0 0 28).toInt (st 0 0 30).toInt) ∧ (mActR (u 8 0) (u 13 0) (1 - (st 0 0 28).toInt) (st 0 0 29).toInt)))) := by
  refine gs_start (fun A => gsQi G (shM cy ad) cnM ad _ A) (by decide) (Nat.le_of_ble_eq_true rfl) ?_
  intro p e s m below meth c A ls H hx hb hr hml hlocks hown hts hK hov hE hI hM hm hS hA hl
  have hl : lv_has ls 4 [(0, .ref (ad 0 0))] := hl
  have hB_st : gBN bM kM [11, 12, 13, 14, 15, 16, 17, 18, 19, 30, 59, 800, 900, 1000, 1100, 1200, 1300, 1400, 1500] st st := gBN.rf hB
  have bb1 : (0 : Int) ≤ (st 0 0 28).toInt ∧ (st 0 0 28).toInt ≤ (1 : Int) := hB 0 0 28
  have bb2 : (0 : Int) ≤ (st 0 0 29).toInt ∧ (st 0 0 29).toInt ≤ (20 : Int) := hB 0 0 29
  have bb3 : (0 : Int) ≤ (st 0 0 30).toInt ∧ (st 0 0 30).toInt ≤ (20 : Int) := hB 0 0 30
  refine lv_aload_n hx hb dX10_rule_0 rfl (lv_at hl 0 rfl) ?_
  refine lv_ldc2 (v := 500186639987) hx hb hown (hts _ gm_1114) dX10_rule_1 ?_
  refine gs_calli (va_runV (As := [.long (500186639987 : Int64)]) (rest := []) ⟨hx, hb, hml, hown, hts⟩ (m_isWord l G cy sK sV ad H.size st hB_st.1 (500186639987 : Int64) ) ⟨(gz_cb (n := 1) hts gm_1115 gm_12 gm_1118 ⟨by decide +kernel, by decide +kernel, by decide +kernel⟩ ⟨Nat.le_of_ble_eq_true rfl, Nat.le_of_ble_eq_true rfl⟩), hts _ gm_1117, hts _ gs_35⟩ (gs_preV hK hov hE hI hM hm hS hA 0 0 (by decide) rfl rfl) rfl rfl hl.1 rfl (lv_room (Nat.le_of_ble_eq_true rfl)) dX10_rule_4 ⟨Nat.le_of_ble_eq_true rfl, Nat.le_of_ble_eq_true rfl⟩) hm hS hA (fun r_1 st_1 H locs hw_1 hM hS => ?_)
  obtain ⟨n_1, hw_1⟩ := hw_1
  have n_1 := gBN.nil n_1
  subst n_1
  rcases hw_1 with rfl | rfl
  · skip
    refine lv_if_eq (tgt := 14) hx hb dX10_rule_7 (by decide) (fun h9 => absurd h9 (by decide)) (fun _ => ?_)
    refine lv_iconst (v := 0) hx hb dX10_rule_10 (by decide) ?_
    refine lv_goto (tgt := 71) hx hb dX10_rule_11 (by decide) ?_
    refine lv_istore_n (lv' := [(1, .int 0), (0, .ref (ad 0 0))]) hx hb dX10_rule_71 rfl hl (by decide) rfl (fun ls hl => ?_)
    refine lv_iload_n hx hb dX10_rule_72 rfl (lv_at hl 0 rfl) ?_
    refine lv_if_ge (tgt := 81) hx hb dX10_rule_73 (by decide) (fun _ => ?_) (fun h9 => absurd (by decide) h9)
    refine lv_aload_n hx hb dX10_rule_81 rfl (lv_at hl 1 rfl) ?_
    refine gs_get (C := RX10) (T := TX10) (N := 59) hx hb hts inX10 hown hK hM 0 0 30 (by decide) rfl rfl (by decide) (hts _ gm_927) (fun _ h9 => h9) rfl dX10_rule_82 ?_
    have bf_2 : (0 : Int) ≤ (st 0 0 30).toInt ∧ (st 0 0 30).toInt ≤ (20 : Int) := hB_st.1 0 0 30
    refine lv_bipush (v := 20) hx hb dX10_rule_85 (by decide) ?_
    refine lv_icmp_ne (tgt := 100) hx hb dX10_rule_87 (by decide) (fun c_3 => ?_) (fun c_3 => ?_)
    · have ic_3 := gz_ne (rfl : (st 0 0 30).toInt = (st 0 0 30).toInt) (by decide : (20 : Int32).toInt = 20) c_3
      refine lv_bipush (v := 24) hx hb dX10_rule_100 (by decide) ?_
      refine lv_aload_n hx hb dX10_rule_102 rfl (lv_at hl 1 rfl) ?_
      refine gs_get (C := RX10) (T := TX10) (N := 59) hx hb hts inX10 hown hK hM 0 0 28 (by decide) rfl rfl (by decide) (hts _ gm_925) (fun _ h9 => h9) rfl dX10_rule_103 ?_
      have bf_4 : (0 : Int) ≤ (st 0 0 28).toInt ∧ (st 0 0 28).toInt ≤ (1 : Int) := hB_st.1 0 0 28
      refine lv_imul hx hb dX10_rule_106 ?_
      refine lv_topi (fun x_5 ex_5 => ?_)
      try have tx_5 : x_5.toInt = 24 * (st 0 0 28).toInt := by rw [ex_5]; exact gz_mulI (x := 24) (y := (st 0 0 28).toInt) (by decide) rfl (by omega) (by omega)
      refine lv_aload_n hx hb dX10_rule_107 rfl (lv_at hl 1 rfl) ?_
      refine gs_get (C := RX10) (T := TX10) (N := 59) hx hb hts inX10 hown hK hM 0 0 30 (by decide) rfl rfl (by decide) (hts _ gm_927) (fun _ h9 => h9) rfl dX10_rule_108 ?_
      have bf_6 : (0 : Int) ≤ (st 0 0 30).toInt ∧ (st 0 0 30).toInt ≤ (20 : Int) := hB_st.1 0 0 30
      refine lv_iadd hx hb dX10_rule_111 ?_
      refine lv_topi (fun x_7 ex_7 => ?_)
      try have tx_7 : x_7.toInt = x_5.toInt + (st 0 0 30).toInt := by rw [ex_7]; exact gz_addI (x := x_5.toInt) (y := (st 0 0 30).toInt) rfl rfl (by omega) (by omega)
      refine lv_istore_n (lv' := [(2, .int x_7), (1, .int 0), (0, .ref (ad 0 0))]) hx hb dX10_rule_112 rfl hl (by decide) rfl (fun ls hl => ?_)
      refine lv_aload_n hx hb dX10_rule_113 rfl (lv_at hl 2 rfl) ?_
      refine gs_get (C := RX10) (T := TX10) (N := 59) hx hb hts inX10 hown hK hM 0 0 20 (by decide) rfl rfl (by decide) (hts _ gm_917) (fun _ h9 => h9) rfl dX10_rule_114 ?_
      refine lv_iload_n hx hb dX10_rule_117 rfl (lv_at hl 0 rfl) ?_
      refine lv_iload_n hx hb dX10_rule_118 rfl (lv_at hl 1 rfl) ?_
      refine gs_iast hx hb hK hI hm hM hS 8 0 (by decide) (fun _ => rfl) (vp_in_iff.mpr ⟨by omega, by omega⟩) dX10_rule_119 (fun st_8 H locs est_8 hM hS => ?_)
      have hB_st_8 : gBN bM kM [11, 12, 13, 14, 15, 16, 17, 18, 19, 30, 59, 800, 900, 1000, 1100, 1200, 1300, 1400, 1500] st st_8 := by rw [est_8]; exact hB_st.up (show (800 : Nat) ∈ _ from by decide) (gi_lo _) (gi_hi _)
      refine lv_aload_n hx hb dX10_rule_120 rfl (lv_at hl 2 rfl) ?_
      refine gs_callv (va_runV (As := []) (rest := []) ⟨hx, hb, hml, hown, hts⟩ (m_next0 l G cy sK sV ad H.size st_8 hB_st_8.1  ) ⟨(gz_cb (n := 0) hts gm_1096 gm_12 gm_1099 ⟨by decide +kernel, by decide +kernel, by decide +kernel⟩ ⟨Nat.le_of_ble_eq_true rfl, Nat.le_of_ble_eq_true rfl⟩), hts _ gm_1098, hts _ gs_32⟩ (gs_preV hK hov hE hI hM hm hS hA 0 0 (by decide) rfl rfl) rfl rfl hl.1 rfl (lv_room (Nat.le_of_ble_eq_true rfl)) dX10_rule_121 ⟨Nat.le_of_ble_eq_true rfl, Nat.le_of_ble_eq_true rfl⟩) hm hS hA (fun st_9 H locs hw_9 hM hS => ?_)
      obtain ⟨n_9, hw_9⟩ := hw_9
      have hB_st_9 : gBN bM kM [11, 12, 13, 14, 15, 16, 17, 18, 19, 30, 59, 800, 900, 1000, 1100, 1200, 1300, 1400, 1500] st st_9 := hB_st_8.call n_9 (by decide)
      refine lv_iload_n hx hb dX10_rule_124 rfl (lv_at hl 1 rfl) ?_
      refine lv_if_ne (tgt := 136) hx hb dX10_rule_125 (by decide) (fun h9 => absurd (by decide) h9) (fun _ => ?_)
      refine lv_aload_n hx hb dX10_rule_128 rfl (lv_at hl 2 rfl) ?_
      refine lv_iload_n hx hb dX10_rule_129 rfl (lv_at hl 0 rfl) ?_
      refine gs_calli (va_runV (As := [.int x_7]) (rest := []) ⟨hx, hb, hml, hown, hts⟩ (m_turns l G cy sK sV ad H.size st_9 hB_st_9.1 x_7 x_7.toInt rfl (by first | decide | omega) (by first | decide | omega) (by rw [show st_9 13 0 = (st 13 0) from ((funext (fun j9 => n_9.2 13 0 j9 (show (1300 : Nat) ∉ _ from by decide))).trans ((congrFun (congrFun est_8 13) 0).trans ((congrFun (gU_k (by decide)) 0).trans rfl))), show st_9 15 0 = (st 15 0) from ((funext (fun j9 => n_9.2 15 0 j9 (show (1500 : Nat) ∉ _ from by decide))).trans ((congrFun (congrFun est_8 15) 0).trans ((congrFun (gU_k (by decide)) 0).trans rfl)))]; exact htd)) ⟨(gz_cb (n := 1) hts gm_1131 gm_12 gm_1134 ⟨by decide +kernel, by decide +kernel, by decide +kernel⟩ ⟨Nat.le_of_ble_eq_true rfl, Nat.le_of_ble_eq_true rfl⟩), hts _ gm_1133, hts _ gs_38⟩ (gs_preV hK hov hE hI hM hm hS hA 0 0 (by decide) rfl rfl) rfl rfl hl.1 rfl (lv_room (Nat.le_of_ble_eq_true rfl)) dX10_rule_130 ⟨Nat.le_of_ble_eq_true rfl, Nat.le_of_ble_eq_true rfl⟩) hm hS hA (fun r_10 st_10 H locs hw_10 hM hS => ?_)
      obtain ⟨n_10, hw_10⟩ := hw_10
      have hB_st_10 : gBN bM kM [11, 12, 13, 14, 15, 16, 17, 18, 19, 30, 59, 800, 900, 1000, 1100, 1200, 1300, 1400, 1500] st st_10 := hB_st_9.call n_10 (by decide)
      rcases hw_10 with ⟨rfl, hw_10_0, hw_10_1, hw_10_2⟩ | ⟨rfl, hw_10_0, hw_10_1⟩
      · skip
        refine lv_goto (tgt := 180) hx hb dX10_rule_133 (by decide) ?_
        refine lv_istore_n (lv' := [(3, .int 1), (2, .int x_7), (1, .int 0), (0, .ref (ad 0 0))]) hx hb dX10_rule_180 rfl hl (by decide) rfl (fun ls hl => ?_)
        refine lv_iload_n hx hb dX10_rule_181 rfl (lv_at hl 0 rfl) ?_
        refine lv_if_eq (tgt := 194) hx hb dX10_rule_182 (by decide) (fun h9 => absurd h9 (by decide)) (fun _ => ?_)
        refine lv_aload_n hx hb dX10_rule_185 rfl (lv_at hl 3 rfl) ?_
        refine lv_bipush (v := 59) hx hb dX10_rule_186 (by decide) ?_
        refine gs_calli (va_runV (As := [.int 59]) (rest := []) ⟨hx, hb, hml, hown, hts⟩ (m_must l G cy sK sV ad H.size st_10 hB_st_10.1 (59 : Int32) 59 (by decide) ) ⟨(gz_cb (n := 1) hts gm_1139 gm_12 gm_1142 ⟨by decide +kernel, by decide +kernel, by decide +kernel⟩ ⟨Nat.le_of_ble_eq_true rfl, Nat.le_of_ble_eq_true rfl⟩), hts _ gm_1141, hts _ gs_40⟩ (gs_preV hK hov hE hI hM hm hS hA 0 0 (by decide) rfl rfl) rfl rfl hl.1 rfl (lv_room (Nat.le_of_ble_eq_true rfl)) dX10_rule_188 ⟨Nat.le_of_ble_eq_true rfl, Nat.le_of_ble_eq_true rfl⟩) hm hS hA (fun r_11 st_11 H locs hw_11 hM hS => ?_)
        obtain ⟨n_11, hw_11⟩ := hw_11
        have hB_st_11 : gBN bM kM [11, 12, 13, 14, 15, 16, 17, 18, 19, 30, 59, 800, 900, 1000, 1100, 1200, 1300, 1400, 1500] st st_11 := hB_st_10.call n_11 (by decide)
        rcases hw_11 with rfl | rfl
        · skip
          refine lv_if_ne (tgt := 196) hx hb dX10_rule_191 (by decide) (fun _ => ?_) (fun h9 => absurd h9 (by decide))
          refine lv_aload_n hx hb dX10_rule_196 rfl (lv_at hl 3 rfl) ?_
          refine lv_dup hx hb dX10_rule_197 rfl ?_
          refine gs_get (C := RX10) (T := TX10) (N := 59) hx hb hts inX10 hown hK hM 0 0 30 (by decide) rfl rfl (by decide) (hts _ gm_927) (fun _ h9 => h9) rfl dX10_rule_198 ?_
          refine lv_topi (fun x_12 ex_12 => ?_)
          have ex_12 : (st 0 0 30) = x_12 := Eq.symm (ex_12.trans ((n_11.2 0 0 30 (show (30 : Nat) ∉ _ from by decide)).trans ((n_10.2 0 0 30 (show (30 : Nat) ∉ _ from by decide)).trans ((n_9.2 0 0 30 (show (30 : Nat) ∉ _ from by decide)).trans ((congrFun (congrFun (congrFun est_8 0) 0) 30).trans (congrFun (congrFun (gU_k (by decide)) 0) 30))))))
          subst ex_12
          have bf_13 : (0 : Int) ≤ (st 0 0 30).toInt ∧ (st 0 0 30).toInt ≤ (20 : Int) := hB_st.1 0 0 30
          refine lv_iconst (v := 1) hx hb dX10_rule_201 (by decide) ?_
          refine lv_iadd hx hb dX10_rule_202 ?_
          refine lv_topi (fun x_14 ex_14 => ?_)
          try have tx_14 : x_14.toInt = (st 0 0 30).toInt + 1 := by rw [ex_14]; exact gz_addP (x := (st 0 0 30).toInt) (y := 1) rfl (by decide) (by omega) (by omega)
          refine gs_put (C := RX10) (T := TX10) (N := 59) (ty := .int) (val := .int x_14) hx hb hts inX10 tyX10 tyX10_ok nmX10 hown hK hI hm hM hS 0 0 30 (by decide) rfl rfl (by decide) (hts _ gm_927) (fun _ h9 => h9) rfl (x_14 : Int32) rfl (by decide +kernel) rfl rfl (Nat.le_of_ble_eq_true rfl) dX10_rule_203 (fun st_15 H locs est_15 hM hS => ?_)
          have hB_st_15 : gBN bM kM [11, 12, 13, 14, 15, 16, 17, 18, 19, 30, 59, 800, 900, 1000, 1100, 1200, 1300, 1400, 1500] st st_15 := by rw [est_15]; exact hB_st_11.up (show (30 : Nat) ∈ _ from by decide) (show (0 : Int) ≤ x_14.toInt from by omega) (show x_14.toInt ≤ (20 : Int) from by omega)
          refine lv_iconst (v := 1) hx hb dX10_rule_206 (by decide) ?_
          exact gs_iret hx hb hr hlocks hM hS (by decide) ⟨hB_st_15, (Or.inl ⟨rfl, (by have hl0 : (1 : Int32).toInt = 1 := (by decide); have hq1 : (st_15 0 0 30).toInt = (x_14 : Int32).toInt := congrArg Int32.toInt (((congrFun (congrFun (congrFun est_15 0) 0) 30).trans (gU_same _ _ _ _ _))); have hb2 : (0 : Int) ≤ (st_15 0 0 30).toInt ∧ (st_15 0 0 30).toInt ≤ (20 : Int) := hB_st_15.1 0 0 30; have hb3 : (0 : Int) ≤ (st 0 0 30).toInt ∧ (st 0 0 30).toInt ≤ (20 : Int) := hB_st.1 0 0 30; omega), (by rw [show st_15 13 0 = (st_10 13 0) from ((congrFun (congrFun est_15 13) 0).trans ((congrFun (gU_k (by decide)) 0).trans ((funext (fun j9 => n_11.2 13 0 j9 (show (1300 : Nat) ∉ _ from by decide))).trans rfl))), show st_15 15 0 = (st_10 15 0) from ((congrFun (congrFun est_15 15) 0).trans ((congrFun (gU_k (by decide)) 0).trans ((funext (fun j9 => n_11.2 15 0 j9 (show (1500 : Nat) ∉ _ from by decide))).trans rfl)))]; exact hw_10_1), (by rw [show st_15 8 0 = (upd (st 8 0) (x_7.toNatClampNeg) (0 : Int32)) from ((congrFun (congrFun est_15 8) 0).trans ((congrFun (gU_k (by decide)) 0).trans ((funext (fun j9 => n_11.2 8 0 j9 (show (800 : Nat) ∉ _ from by decide))).trans ((funext (fun j9 => n_10.2 8 0 j9 (show (800 : Nat) ∉ _ from by decide))).trans ((funext (fun j9 => n_9.2 8 0 j9 (show (800 : Nat) ∉ _ from by decide))).trans ((congrFun (congrFun est_8 8) 0).trans ((gU_at _ _ _ _ _).trans (congrArg (fun f9 => upd f9 (x_7.toNatClampNeg) (0 : Int32)) rfl)))))))), show st_15 13 0 = (st_10 13 0) from ((congrFun (congrFun est_15 13) 0).trans ((congrFun (gU_k (by decide)) 0).trans ((funext (fun j9 => n_11.2 13 0 j9 (show (1300 : Nat) ∉ _ from by decide))).trans rfl)))]; exact mAct_new hac (by have h9 := hw_10_2; rw [show st_9 13 0 = (st 13 0) from ((funext (fun j9 => n_9.2 13 0 j9 (show (1300 : Nat) ∉ _ from by decide))).trans ((congrFun (congrFun est_8 13) 0).trans ((congrFun (gU_k (by decide)) 0).trans rfl)))] at h9; exact h9) (by omega) (by omega) (fun h9 => hw_10_0)), (by rw [show st_15 8 0 = (upd (st 8 0) (x_7.toNatClampNeg) (0 : Int32)) from ((congrFun (congrFun est_15 8) 0).trans ((congrFun (gU_k (by decide)) 0).trans ((funext (fun j9 => n_11.2 8 0 j9 (show (800 : Nat) ∉ _ from by decide))).trans ((funext (fun j9 => n_10.2 8 0 j9 (show (800 : Nat) ∉ _ from by decide))).trans ((funext (fun j9 => n_9.2 8 0 j9 (show (800 : Nat) ∉ _ from by decide))).trans ((congrFun (congrFun est_8 8) 0).trans ((gU_at _ _ _ _ _).trans (congrArg (fun f9 => upd f9 (x_7.toNatClampNeg) (0 : Int32)) rfl)))))))), show st_15 13 0 = (st_10 13 0) from ((congrFun (congrFun est_15 13) 0).trans ((congrFun (gU_k (by decide)) 0).trans ((funext (fun j9 => n_11.2 13 0 j9 (show (1300 : Nat) ∉ _ from by decide))).trans rfl)))]; exact mAct_keep hao (by have h9 := hw_10_2; rw [show st_9 13 0 = (st 13 0) from ((funext (fun j9 => n_9.2 13 0 j9 (show (1300 : Nat) ∉ _ from by decide))).trans ((congrFun (congrFun est_8 13) 0).trans ((congrFun (gU_k (by decide)) 0).trans rfl)))] at h9; exact h9) (by omega) (by omega))⟩)⟩ (by exact Nat.le_refl _) (by exact Nat.le_refl _) dX10_rule_207
        · skip
          refine lv_if_ne (tgt := 196) hx hb dX10_rule_191 (by decide) (fun h9 => absurd (by decide) h9) (fun _ => ?_)
          refine lv_iconst (v := 0) hx hb dX10_rule_194 (by decide) ?_
          exact gs_iret hx hb hr hlocks hM hS (by decide) ⟨hB_st_11, (Or.inr ⟨rfl, (by have hl0 : (0 : Int32).toInt = 0 := (by decide); have hq1 : (st_11 0 0 30).toInt = ((st 0 0 30) : Int32).toInt := congrArg Int32.toInt (((n_11.2 0 0 30 (show (30 : Nat) ∉ _ from by decide)).trans ((n_10.2 0 0 30 (show (30 : Nat) ∉ _ from by decide)).trans ((n_9.2 0 0 30 (show (30 : Nat) ∉ _ from by decide)).trans ((congrFun (congrFun (congrFun est_8 0) 0) 30).trans (congrFun (congrFun (gU_k (by decide)) 0) 30)))))); have hb2 : (0 : Int) ≤ (st_11 0 0 30).toInt ∧ (st_11 0 0 30).toInt ≤ (20 : Int) := hB_st_11.1 0 0 30; have hb3 : (0 : Int) ≤ (st 0 0 30).toInt ∧ (st 0 0 30).toInt ≤ (20 : Int) := hB_st.1 0 0 30; omega), (by rw [show st_11 13 0 = (st_10 13 0) from ((funext (fun j9 => n_11.2 13 0 j9 (show (1300 : Nat) ∉ _ from by decide))).trans rfl), show st_11 15 0 = (st_10 15 0) from ((funext (fun j9 => n_11.2 15 0 j9 (show (1500 : Nat) ∉ _ from by decide))).trans rfl)]; exact hw_10_1), (by rw [show st_11 8 0 = (upd (st 8 0) (x_7.toNatClampNeg) (0 : Int32)) from ((funext (fun j9 => n_11.2 8 0 j9 (show (800 : Nat) ∉ _ from by decide))).trans ((funext (fun j9 => n_10.2 8 0 j9 (show (800 : Nat) ∉ _ from by decide))).trans ((funext (fun j9 => n_9.2 8 0 j9 (show (800 : Nat) ∉ _ from by decide))).trans ((congrFun (congrFun est_8 8) 0).trans ((gU_at _ _ _ _ _).trans (congrArg (fun f9 => upd f9 (x_7.toNatClampNeg) (0 : Int32)) rfl)))))), show st_11 13 0 = (st_10 13 0) from ((funext (fun j9 => n_11.2 13 0 j9 (show (1300 : Nat) ∉ _ from by decide))).trans rfl)]; exact mAct_keep hac (by have h9 := hw_10_2; rw [show st_9 13 0 = (st 13 0) from ((funext (fun j9 => n_9.2 13 0 j9 (show (1300 : Nat) ∉ _ from by decide))).trans ((congrFun (congrFun est_8 13) 0).trans ((congrFun (gU_k (by decide)) 0).trans rfl)))] at h9; exact h9) (by omega) (by omega)), (by rw [show st_11 8 0 = (upd (st 8 0) (x_7.toNatClampNeg) (0 : Int32)) from ((funext (fun j9 => n_11.2 8 0 j9 (show (800 : Nat) ∉ _ from by decide))).trans ((funext (fun j9 => n_10.2 8 0 j9 (show (800 : Nat) ∉ _ from by decide))).trans ((funext (fun j9 => n_9.2 8 0 j9 (show (800 : Nat) ∉ _ from by decide))).trans ((congrFun (congrFun est_8 8) 0).trans ((gU_at _ _ _ _ _).trans (congrArg (fun f9 => upd f9 (x_7.toNatClampNeg) (0 : Int32)) rfl)))))), show st_11 13 0 = (st_10 13 0) from ((funext (fun j9 => n_11.2 13 0 j9 (show (1300 : Nat) ∉ _ from by decide))).trans rfl)]; exact mAct_keep hao (by have h9 := hw_10_2; rw [show st_9 13 0 = (st 13 0) from ((funext (fun j9 => n_9.2 13 0 j9 (show (1300 : Nat) ∉ _ from by decide))).trans ((congrFun (congrFun est_8 13) 0).trans ((congrFun (gU_k (by decide)) 0).trans rfl)))] at h9; exact h9) (by omega) (by omega))⟩)⟩ (by exact Nat.le_refl _) (by exact Nat.le_refl _) dX10_rule_195
      · skip
        refine lv_goto (tgt := 180) hx hb dX10_rule_133 (by decide) ?_
        refine lv_istore_n (lv' := [(3, .int 0), (2, .int x_7), (1, .int 0), (0, .ref (ad 0 0))]) hx hb dX10_rule_180 rfl hl (by decide) rfl (fun ls hl => ?_)
        refine lv_iload_n hx hb dX10_rule_181 rfl (lv_at hl 0 rfl) ?_
        refine lv_if_eq (tgt := 194) hx hb dX10_rule_182 (by decide) (fun _ => ?_) (fun h9 => absurd (by decide) h9)
        refine lv_iconst (v := 0) hx hb dX10_rule_194 (by decide) ?_
        exact gs_iret hx hb hr hlocks hM hS (by decide) ⟨hB_st_10, (Or.inr ⟨rfl, (by have hl0 : (0 : Int32).toInt = 0 := (by decide); have hq1 : (st_10 0 0 30).toInt = ((st 0 0 30) : Int32).toInt := congrArg Int32.toInt (((n_10.2 0 0 30 (show (30 : Nat) ∉ _ from by decide)).trans ((n_9.2 0 0 30 (show (30 : Nat) ∉ _ from by decide)).trans ((congrFun (congrFun (congrFun est_8 0) 0) 30).trans (congrFun (congrFun (gU_k (by decide)) 0) 30))))); have hb2 : (0 : Int) ≤ (st_10 0 0 30).toInt ∧ (st_10 0 0 30).toInt ≤ (20 : Int) := hB_st_10.1 0 0 30; have hb3 : (0 : Int) ≤ (st 0 0 30).toInt ∧ (st 0 0 30).toInt ≤ (20 : Int) := hB_st.1 0 0 30; omega), (by exact hw_10_0), (by rw [show st_10 8 0 = (upd (st 8 0) (x_7.toNatClampNeg) (0 : Int32)) from ((funext (fun j9 => n_10.2 8 0 j9 (show (800 : Nat) ∉ _ from by decide))).trans ((funext (fun j9 => n_9.2 8 0 j9 (show (800 : Nat) ∉ _ from by decide))).trans ((congrFun (congrFun est_8 8) 0).trans ((gU_at _ _ _ _ _).trans (congrArg (fun f9 => upd f9 (x_7.toNatClampNeg) (0 : Int32)) rfl)))))]; exact mAct_keep hac (by have h9 := hw_10_1; rw [show st_9 13 0 = (st 13 0) from ((funext (fun j9 => n_9.2 13 0 j9 (show (1300 : Nat) ∉ _ from by decide))).trans ((congrFun (congrFun est_8 13) 0).trans ((congrFun (gU_k (by decide)) 0).trans rfl)))] at h9; exact h9) (by omega) (by omega)), (by rw [show st_10 8 0 = (upd (st 8 0) (x_7.toNatClampNeg) (0 : Int32)) from ((funext (fun j9 => n_10.2 8 0 j9 (show (800 : Nat) ∉ _ from by decide))).trans ((funext (fun j9 => n_9.2 8 0 j9 (show (800 : Nat) ∉ _ from by decide))).trans ((congrFun (congrFun est_8 8) 0).trans ((gU_at _ _ _ _ _).trans (congrArg (fun f9 => upd f9 (x_7.toNatClampNeg) (0 : Int32)) rfl)))))]; exact mAct_keep hao (by have h9 := hw_10_1; rw [show st_9 13 0 = (st 13 0) from ((funext (fun j9 => n_9.2 13 0 j9 (show (1300 : Nat) ∉ _ from by decide))).trans ((congrFun (congrFun est_8 13) 0).trans ((congrFun (gU_k (by decide)) 0).trans rfl)))] at h9; exact h9) (by omega) (by omega))⟩)⟩ (by exact Nat.le_refl _) (by exact Nat.le_refl _) dX10_rule_195
    · have ic_3 := gz_eqn (rfl : (st 0 0 30).toInt = (st 0 0 30).toInt) (by decide : (20 : Int32).toInt = 20) c_3
      refine lv_aload_n hx hb dX10_rule_90 rfl (lv_at hl 1 rfl) ?_
      refine lv_iconst (v := 4) hx hb dX10_rule_91 (by decide) ?_
      refine lv_aload_n hx hb dX10_rule_92 rfl (lv_at hl 1 rfl) ?_
      refine gs_get (C := RX10) (T := TX10) (N := 59) hx hb hts inX10 hown hK hM 0 0 13 (by decide) rfl rfl (by decide) (hts _ gm_910) (fun _ h9 => h9) rfl dX10_rule_93 ?_
      refine gs_calli (va_runV (As := [.int 4, .int (st 0 0 13)]) (rest := []) ⟨hx, hb, hml, hown, hts⟩ (m_wrong l G cy sK sV ad H.size st hB_st.1 (4 : Int32) (st 0 0 13) ) ⟨(gz_cb (n := 2) hts gm_1127 gm_12 gm_1130 ⟨by decide +kernel, by decide +kernel, by decide +kernel⟩ ⟨Nat.le_of_ble_eq_true rfl, Nat.le_of_ble_eq_true rfl⟩), hts _ gm_1129, hts _ gs_37⟩ (gs_preV hK hov hE hI hM hm hS hA 0 0 (by decide) rfl rfl) rfl rfl hl.1 rfl (lv_room (Nat.le_of_ble_eq_true rfl)) dX10_rule_96 ⟨Nat.le_of_ble_eq_true rfl, Nat.le_of_ble_eq_true rfl⟩) hm hS hA (fun r_17 st_17 H locs hw_17 hM hS => ?_)
      obtain ⟨n_17, hw_17⟩ := hw_17
      have hB_st_17 : gBN bM kM [11, 12, 13, 14, 15, 16, 17, 18, 19, 30, 59, 800, 900, 1000, 1100, 1200, 1300, 1400, 1500] st st_17 := hB_st.call n_17 (by decide)
      obtain rfl := hw_17
      exact gs_iret hx hb hr hlocks hM hS (by decide) ⟨hB_st_17, (Or.inr ⟨rfl, (by have hl0 : (0 : Int32).toInt = 0 := (by decide); have hq1 : (st_17 0 0 30).toInt = ((st 0 0 30) : Int32).toInt := congrArg Int32.toInt ((n_17.2 0 0 30 (show (30 : Nat) ∉ _ from by decide))); have hb2 : (0 : Int) ≤ (st_17 0 0 30).toInt ∧ (st_17 0 0 30).toInt ≤ (20 : Int) := hB_st_17.1 0 0 30; have hb3 : (0 : Int) ≤ (st 0 0 30).toInt ∧ (st 0 0 30).toInt ≤ (20 : Int) := hB_st.1 0 0 30; omega), (by rw [show st_17 13 0 = (st 13 0) from ((funext (fun j9 => n_17.2 13 0 j9 (show (1300 : Nat) ∉ _ from by decide))).trans rfl), show st_17 15 0 = (st 15 0) from ((funext (fun j9 => n_17.2 15 0 j9 (show (1500 : Nat) ∉ _ from by decide))).trans rfl)]; exact htd), (by rw [show st_17 8 0 = (st 8 0) from ((funext (fun j9 => n_17.2 8 0 j9 (show (800 : Nat) ∉ _ from by decide))).trans rfl), show st_17 13 0 = (st 13 0) from ((funext (fun j9 => n_17.2 13 0 j9 (show (1300 : Nat) ∉ _ from by decide))).trans rfl)]; exact mAct_pos hac mPos.rf), (by rw [show st_17 8 0 = (st 8 0) from ((funext (fun j9 => n_17.2 8 0 j9 (show (800 : Nat) ∉ _ from by decide))).trans rfl), show st_17 13 0 = (st 13 0) from ((funext (fun j9 => n_17.2 13 0 j9 (show (1300 : Nat) ∉ _ from by decide))).trans rfl)]; exact mAct_pos hao mPos.rf)⟩)⟩ (by exact Nat.le_refl _) (by exact Nat.le_refl _) dX10_rule_99
  · skip
    refine lv_if_eq (tgt := 14) hx hb dX10_rule_7 (by decide) (fun _ => ?_) (fun h9 => absurd (by decide) h9)
    refine lv_aload_n hx hb dX10_rule_14 rfl (lv_at hl 0 rfl) ?_
    refine lv_ldc2 (v := 444351214452) hx hb hown (hts _ gm_1119) dX10_rule_15 ?_
    refine gs_calli (va_runV (As := [.long (444351214452 : Int64)]) (rest := []) ⟨hx, hb, hml, hown, hts⟩ (m_isWord l G cy sK sV ad H.size st hB_st.1 (444351214452 : Int64) ) ⟨(gz_cb (n := 1) hts gm_1115 gm_12 gm_1118 ⟨by decide +kernel, by decide +kernel, by decide +kernel⟩ ⟨Nat.le_of_ble_eq_true rfl, Nat.le_of_ble_eq_true rfl⟩), hts _ gm_1117, hts _ gs_35⟩ (gs_preV hK hov hE hI hM hm hS hA 0 0 (by decide) rfl rfl) rfl rfl hl.1 rfl (lv_room (Nat.le_of_ble_eq_true rfl)) dX10_rule_18 ⟨Nat.le_of_ble_eq_true rfl, Nat.le_of_ble_eq_true rfl⟩) hm hS hA (fun r_18 st_18 H locs hw_18 hM hS => ?_)
    obtain ⟨n_18, hw_18⟩ := hw_18
    have n_18 := gBN.nil n_18
    subst n_18
    rcases hw_18 with rfl | rfl
    · skip
      refine lv_if_eq (tgt := 28) hx hb dX10_rule_21 (by decide) (fun h9 => absurd h9 (by decide)) (fun _ => ?_)
      refine lv_iconst (v := 1) hx hb dX10_rule_24 (by decide) ?_
      refine lv_goto (tgt := 71) hx hb dX10_rule_25 (by decide) ?_
      refine lv_istore_n (lv' := [(1, .int 1), (0, .ref (ad 0 0))]) hx hb dX10_rule_71 rfl hl (by decide) rfl (fun ls hl => ?_)
      refine lv_iload_n hx hb dX10_rule_72 rfl (lv_at hl 0 rfl) ?_
      refine lv_if_ge (tgt := 81) hx hb dX10_rule_73 (by decide) (fun _ => ?_) (fun h9 => absurd (by decide) h9)
      refine lv_aload_n hx hb dX10_rule_81 rfl (lv_at hl 1 rfl) ?_
      refine gs_get (C := RX10) (T := TX10) (N := 59) hx hb hts inX10 hown hK hM 0 0 30 (by decide) rfl rfl (by decide) (hts _ gm_927) (fun _ h9 => h9) rfl dX10_rule_82 ?_
      have bf_19 : (0 : Int) ≤ (st 0 0 30).toInt ∧ (st 0 0 30).toInt ≤ (20 : Int) := hB_st.1 0 0 30
      refine lv_bipush (v := 20) hx hb dX10_rule_85 (by decide) ?_
      refine lv_icmp_ne (tgt := 100) hx hb dX10_rule_87 (by decide) (fun c_20 => ?_) (fun c_20 => ?_)
      · have ic_20 := gz_ne (rfl : (st 0 0 30).toInt = (st 0 0 30).toInt) (by decide : (20 : Int32).toInt = 20) c_20
        refine lv_bipush (v := 24) hx hb dX10_rule_100 (by decide) ?_
        refine lv_aload_n hx hb dX10_rule_102 rfl (lv_at hl 1 rfl) ?_
        refine gs_get (C := RX10) (T := TX10) (N := 59) hx hb hts inX10 hown hK hM 0 0 28 (by decide) rfl rfl (by decide) (hts _ gm_925) (fun _ h9 => h9) rfl dX10_rule_103 ?_
        have bf_21 : (0 : Int) ≤ (st 0 0 28).toInt ∧ (st 0 0 28).toInt ≤ (1 : Int) := hB_st.1 0 0 28
        refine lv_imul hx hb dX10_rule_106 ?_
        refine lv_topi (fun x_22 ex_22 => ?_)
        try have tx_22 : x_22.toInt = 24 * (st 0 0 28).toInt := by rw [ex_22]; exact gz_mulI (x := 24) (y := (st 0 0 28).toInt) (by decide) rfl (by omega) (by omega)
        refine lv_aload_n hx hb dX10_rule_107 rfl (lv_at hl 1 rfl) ?_
        refine gs_get (C := RX10) (T := TX10) (N := 59) hx hb hts inX10 hown hK hM 0 0 30 (by decide) rfl rfl (by decide) (hts _ gm_927) (fun _ h9 => h9) rfl dX10_rule_108 ?_
        have bf_23 : (0 : Int) ≤ (st 0 0 30).toInt ∧ (st 0 0 30).toInt ≤ (20 : Int) := hB_st.1 0 0 30
        refine lv_iadd hx hb dX10_rule_111 ?_
        refine lv_topi (fun x_24 ex_24 => ?_)
        try have tx_24 : x_24.toInt = x_22.toInt + (st 0 0 30).toInt := by rw [ex_24]; exact gz_addI (x := x_22.toInt) (y := (st 0 0 30).toInt) rfl rfl (by omega) (by omega)
        refine lv_istore_n (lv' := [(2, .int x_24), (1, .int 1), (0, .ref (ad 0 0))]) hx hb dX10_rule_112 rfl hl (by decide) rfl (fun ls hl => ?_)
        refine lv_aload_n hx hb dX10_rule_113 rfl (lv_at hl 2 rfl) ?_
        refine gs_get (C := RX10) (T := TX10) (N := 59) hx hb hts inX10 hown hK hM 0 0 20 (by decide) rfl rfl (by decide) (hts _ gm_917) (fun _ h9 => h9) rfl dX10_rule_114 ?_
        refine lv_iload_n hx hb dX10_rule_117 rfl (lv_at hl 0 rfl) ?_
        refine lv_iload_n hx hb dX10_rule_118 rfl (lv_at hl 1 rfl) ?_
        refine gs_iast hx hb hK hI hm hM hS 8 0 (by decide) (fun _ => rfl) (vp_in_iff.mpr ⟨by omega, by omega⟩) dX10_rule_119 (fun st_25 H locs est_25 hM hS => ?_)
        have hB_st_25 : gBN bM kM [11, 12, 13, 14, 15, 16, 17, 18, 19, 30, 59, 800, 900, 1000, 1100, 1200, 1300, 1400, 1500] st st_25 := by rw [est_25]; exact hB_st.up (show (800 : Nat) ∈ _ from by decide) (gi_lo _) (gi_hi _)
        refine lv_aload_n hx hb dX10_rule_120 rfl (lv_at hl 2 rfl) ?_
        refine gs_callv (va_runV (As := []) (rest := []) ⟨hx, hb, hml, hown, hts⟩ (m_next0 l G cy sK sV ad H.size st_25 hB_st_25.1  ) ⟨(gz_cb (n := 0) hts gm_1096 gm_12 gm_1099 ⟨by decide +kernel, by decide +kernel, by decide +kernel⟩ ⟨Nat.le_of_ble_eq_true rfl, Nat.le_of_ble_eq_true rfl⟩), hts _ gm_1098, hts _ gs_32⟩ (gs_preV hK hov hE hI hM hm hS hA 0 0 (by decide) rfl rfl) rfl rfl hl.1 rfl (lv_room (Nat.le_of_ble_eq_true rfl)) dX10_rule_121 ⟨Nat.le_of_ble_eq_true rfl, Nat.le_of_ble_eq_true rfl⟩) hm hS hA (fun st_26 H locs hw_26 hM hS => ?_)
        obtain ⟨n_26, hw_26⟩ := hw_26
        have hB_st_26 : gBN bM kM [11, 12, 13, 14, 15, 16, 17, 18, 19, 30, 59, 800, 900, 1000, 1100, 1200, 1300, 1400, 1500] st st_26 := hB_st_25.call n_26 (by decide)
        refine lv_iload_n hx hb dX10_rule_124 rfl (lv_at hl 1 rfl) ?_
        refine lv_if_ne (tgt := 136) hx hb dX10_rule_125 (by decide) (fun _ => ?_) (fun h9 => absurd h9 (by decide))
        refine lv_iload_n hx hb dX10_rule_136 rfl (lv_at hl 1 rfl) ?_
        refine lv_iconst (v := 1) hx hb dX10_rule_137 (by decide) ?_
        refine lv_icmp_ne (tgt := 149) hx hb dX10_rule_138 (by decide) (fun h9 => absurd (by decide) h9) (fun _ => ?_)
        refine lv_aload_n hx hb dX10_rule_141 rfl (lv_at hl 2 rfl) ?_
        refine lv_iload_n hx hb dX10_rule_142 rfl (lv_at hl 0 rfl) ?_
        refine gs_calli (va_runV (As := [.int x_24]) (rest := []) ⟨hx, hb, hml, hown, hts⟩ (m_guest l G cy sK sV ad H.size st_26 hB_st_26.1 x_24 x_24.toInt rfl (by first | decide | omega) (by first | decide | omega)) ⟨(gz_cb (n := 1) hts gm_1149 gm_12 gm_1152 ⟨by decide +kernel, by decide +kernel, by decide +kernel⟩ ⟨Nat.le_of_ble_eq_true rfl, Nat.le_of_ble_eq_true rfl⟩), hts _ gm_1151, hts _ gs_42⟩ (gs_preV hK hov hE hI hM hm hS hA 0 0 (by decide) rfl rfl) rfl rfl hl.1 rfl (lv_room (Nat.le_of_ble_eq_true rfl)) dX10_rule_143 ⟨Nat.le_of_ble_eq_true rfl, Nat.le_of_ble_eq_true rfl⟩) hm hS hA (fun r_27 st_27 H locs hw_27 hM hS => ?_)
        obtain ⟨n_27, hw_27⟩ := hw_27
        have hB_st_27 : gBN bM kM [11, 12, 13, 14, 15, 16, 17, 18, 19, 30, 59, 800, 900, 1000, 1100, 1200, 1300, 1400, 1500] st st_27 := hB_st_26.call n_27 (by decide)
        rcases hw_27 with rfl | rfl
        · skip
          refine lv_goto (tgt := 180) hx hb dX10_rule_146 (by decide) ?_
          refine lv_istore_n (lv' := [(3, .int 1), (2, .int x_24), (1, .int 1), (0, .ref (ad 0 0))]) hx hb dX10_rule_180 rfl hl (by decide) rfl (fun ls hl => ?_)
          refine lv_iload_n hx hb dX10_rule_181 rfl (lv_at hl 0 rfl) ?_
          refine lv_if_eq (tgt := 194) hx hb dX10_rule_182 (by decide) (fun h9 => absurd h9 (by decide)) (fun _ => ?_)
          refine lv_aload_n hx hb dX10_rule_185 rfl (lv_at hl 3 rfl) ?_
          refine lv_bipush (v := 59) hx hb dX10_rule_186 (by decide) ?_
          refine gs_calli (va_runV (As := [.int 59]) (rest := []) ⟨hx, hb, hml, hown, hts⟩ (m_must l G cy sK sV ad H.size st_27 hB_st_27.1 (59 : Int32) 59 (by decide) ) ⟨(gz_cb (n := 1) hts gm_1139 gm_12 gm_1142 ⟨by decide +kernel, by decide +kernel, by decide +kernel⟩ ⟨Nat.le_of_ble_eq_true rfl, Nat.le_of_ble_eq_true rfl⟩), hts _ gm_1141, hts _ gs_40⟩ (gs_preV hK hov hE hI hM hm hS hA 0 0 (by decide) rfl rfl) rfl rfl hl.1 rfl (lv_room (Nat.le_of_ble_eq_true rfl)) dX10_rule_188 ⟨Nat.le_of_ble_eq_true rfl, Nat.le_of_ble_eq_true rfl⟩) hm hS hA (fun r_28 st_28 H locs hw_28 hM hS => ?_)
          obtain ⟨n_28, hw_28⟩ := hw_28
          have hB_st_28 : gBN bM kM [11, 12, 13, 14, 15, 16, 17, 18, 19, 30, 59, 800, 900, 1000, 1100, 1200, 1300, 1400, 1500] st st_28 := hB_st_27.call n_28 (by decide)
          rcases hw_28 with rfl | rfl
          · skip
            refine lv_if_ne (tgt := 196) hx hb dX10_rule_191 (by decide) (fun _ => ?_) (fun h9 => absurd h9 (by decide))
            refine lv_aload_n hx hb dX10_rule_196 rfl (lv_at hl 3 rfl) ?_
            refine lv_dup hx hb dX10_rule_197 rfl ?_
            refine gs_get (C := RX10) (T := TX10) (N := 59) hx hb hts inX10 hown hK hM 0 0 30 (by decide) rfl rfl (by decide) (hts _ gm_927) (fun _ h9 => h9) rfl dX10_rule_198 ?_
            refine lv_topi (fun x_29 ex_29 => ?_)
            have ex_29 : (st 0 0 30) = x_29 := Eq.symm (ex_29.trans ((n_28.2 0 0 30 (show (30 : Nat) ∉ _ from by decide)).trans ((n_27.2 0 0 30 (show (30 : Nat) ∉ _ from by decide)).trans ((n_26.2 0 0 30 (show (30 : Nat) ∉ _ from by decide)).trans ((congrFun (congrFun (congrFun est_25 0) 0) 30).trans (congrFun (congrFun (gU_k (by decide)) 0) 30))))))
            subst ex_29
            have bf_30 : (0 : Int) ≤ (st 0 0 30).toInt ∧ (st 0 0 30).toInt ≤ (20 : Int) := hB_st.1 0 0 30
            refine lv_iconst (v := 1) hx hb dX10_rule_201 (by decide) ?_
            refine lv_iadd hx hb dX10_rule_202 ?_
            refine lv_topi (fun x_31 ex_31 => ?_)
            try have tx_31 : x_31.toInt = (st 0 0 30).toInt + 1 := by rw [ex_31]; exact gz_addP (x := (st 0 0 30).toInt) (y := 1) rfl (by decide) (by omega) (by omega)
            refine gs_put (C := RX10) (T := TX10) (N := 59) (ty := .int) (val := .int x_31) hx hb hts inX10 tyX10 tyX10_ok nmX10 hown hK hI hm hM hS 0 0 30 (by decide) rfl rfl (by decide) (hts _ gm_927) (fun _ h9 => h9) rfl (x_31 : Int32) rfl (by decide +kernel) rfl rfl (Nat.le_of_ble_eq_true rfl) dX10_rule_203 (fun st_32 H locs est_32 hM hS => ?_)
            have hB_st_32 : gBN bM kM [11, 12, 13, 14, 15, 16, 17, 18, 19, 30, 59, 800, 900, 1000, 1100, 1200, 1300, 1400, 1500] st st_32 := by rw [est_32]; exact hB_st_28.up (show (30 : Nat) ∈ _ from by decide) (show (0 : Int) ≤ x_31.toInt from by omega) (show x_31.toInt ≤ (20 : Int) from by omega)
            refine lv_iconst (v := 1) hx hb dX10_rule_206 (by decide) ?_
            exact gs_iret hx hb hr hlocks hM hS (by decide) ⟨hB_st_32, (Or.inl ⟨rfl, (by have hl0 : (1 : Int32).toInt = 1 := (by decide); have hq1 : (st_32 0 0 30).toInt = (x_31 : Int32).toInt := congrArg Int32.toInt (((congrFun (congrFun (congrFun est_32 0) 0) 30).trans (gU_same _ _ _ _ _))); have hb2 : (0 : Int) ≤ (st_32 0 0 30).toInt ∧ (st_32 0 0 30).toInt ≤ (20 : Int) := hB_st_32.1 0 0 30; have hb3 : (0 : Int) ≤ (st 0 0 30).toInt ∧ (st 0 0 30).toInt ≤ (20 : Int) := hB_st.1 0 0 30; omega), (by rw [show st_32 13 0 = (st 13 0) from ((congrFun (congrFun est_32 13) 0).trans ((congrFun (gU_k (by decide)) 0).trans ((funext (fun j9 => n_28.2 13 0 j9 (show (1300 : Nat) ∉ _ from by decide))).trans ((funext (fun j9 => n_27.2 13 0 j9 (show (1300 : Nat) ∉ _ from by decide))).trans ((funext (fun j9 => n_26.2 13 0 j9 (show (1300 : Nat) ∉ _ from by decide))).trans ((congrFun (congrFun est_25 13) 0).trans ((congrFun (gU_k (by decide)) 0).trans rfl))))))), show st_32 15 0 = (st 15 0) from ((congrFun (congrFun est_32 15) 0).trans ((congrFun (gU_k (by decide)) 0).trans ((funext (fun j9 => n_28.2 15 0 j9 (show (1500 : Nat) ∉ _ from by decide))).trans ((funext (fun j9 => n_27.2 15 0 j9 (show (1500 : Nat) ∉ _ from by decide))).trans ((funext (fun j9 => n_26.2 15 0 j9 (show (1500 : Nat) ∉ _ from by decide))).trans ((congrFun (congrFun est_25 15) 0).trans ((congrFun (gU_k (by decide)) 0).trans rfl)))))))]; exact htd), (by rw [show st_32 8 0 = (upd (st 8 0) (x_24.toNatClampNeg) (1 : Int32)) from ((congrFun (congrFun est_32 8) 0).trans ((congrFun (gU_k (by decide)) 0).trans ((funext (fun j9 => n_28.2 8 0 j9 (show (800 : Nat) ∉ _ from by decide))).trans ((funext (fun j9 => n_27.2 8 0 j9 (show (800 : Nat) ∉ _ from by decide))).trans ((funext (fun j9 => n_26.2 8 0 j9 (show (800 : Nat) ∉ _ from by decide))).trans ((congrFun (congrFun est_25 8) 0).trans ((gU_at _ _ _ _ _).trans (congrArg (fun f9 => upd f9 (x_24.toNatClampNeg) (1 : Int32)) rfl)))))))), show st_32 13 0 = (st 13 0) from ((congrFun (congrFun est_32 13) 0).trans ((congrFun (gU_k (by decide)) 0).trans ((funext (fun j9 => n_28.2 13 0 j9 (show (1300 : Nat) ∉ _ from by decide))).trans ((funext (fun j9 => n_27.2 13 0 j9 (show (1300 : Nat) ∉ _ from by decide))).trans ((funext (fun j9 => n_26.2 13 0 j9 (show (1300 : Nat) ∉ _ from by decide))).trans ((congrFun (congrFun est_25 13) 0).trans ((congrFun (gU_k (by decide)) 0).trans rfl)))))))]; exact mAct_new hac mPos.rf (by omega) (by omega) (fun h9 => absurd h9 (by decide))), (by rw [show st_32 8 0 = (upd (st 8 0) (x_24.toNatClampNeg) (1 : Int32)) from ((congrFun (congrFun est_32 8) 0).trans ((congrFun (gU_k (by decide)) 0).trans ((funext (fun j9 => n_28.2 8 0 j9 (show (800 : Nat) ∉ _ from by decide))).trans ((funext (fun j9 => n_27.2 8 0 j9 (show (800 : Nat) ∉ _ from by decide))).trans ((funext (fun j9 => n_26.2 8 0 j9 (show (800 : Nat) ∉ _ from by decide))).trans ((congrFun (congrFun est_25 8) 0).trans ((gU_at _ _ _ _ _).trans (congrArg (fun f9 => upd f9 (x_24.toNatClampNeg) (1 : Int32)) rfl)))))))), show st_32 13 0 = (st 13 0) from ((congrFun (congrFun est_32 13) 0).trans ((congrFun (gU_k (by decide)) 0).trans ((funext (fun j9 => n_28.2 13 0 j9 (show (1300 : Nat) ∉ _ from by decide))).trans ((funext (fun j9 => n_27.2 13 0 j9 (show (1300 : Nat) ∉ _ from by decide))).trans ((funext (fun j9 => n_26.2 13 0 j9 (show (1300 : Nat) ∉ _ from by decide))).trans ((congrFun (congrFun est_25 13) 0).trans ((congrFun (gU_k (by decide)) 0).trans rfl)))))))]; exact mAct_keep hao mPos.rf (by omega) (by omega))⟩)⟩ (by exact Nat.le_refl _) (by exact Nat.le_refl _) dX10_rule_207
          · skip
            refine lv_if_ne (tgt := 196) hx hb dX10_rule_191 (by decide) (fun h9 => absurd (by decide) h9) (fun _ => ?_)
            refine lv_iconst (v := 0) hx hb dX10_rule_194 (by decide) ?_
            exact gs_iret hx hb hr hlocks hM hS (by decide) ⟨hB_st_28, (Or.inr ⟨rfl, (by have hl0 : (0 : Int32).toInt = 0 := (by decide); have hq1 : (st_28 0 0 30).toInt = ((st 0 0 30) : Int32).toInt := congrArg Int32.toInt (((n_28.2 0 0 30 (show (30 : Nat) ∉ _ from by decide)).trans ((n_27.2 0 0 30 (show (30 : Nat) ∉ _ from by decide)).trans ((n_26.2 0 0 30 (show (30 : Nat) ∉ _ from by decide)).trans ((congrFun (congrFun (congrFun est_25 0) 0) 30).trans (congrFun (congrFun (gU_k (by decide)) 0) 30)))))); have hb2 : (0 : Int) ≤ (st_28 0 0 30).toInt ∧ (st_28 0 0 30).toInt ≤ (20 : Int) := hB_st_28.1 0 0 30; have hb3 : (0 : Int) ≤ (st 0 0 30).toInt ∧ (st 0 0 30).toInt ≤ (20 : Int) := hB_st.1 0 0 30; omega), (by rw [show st_28 13 0 = (st 13 0) from ((funext (fun j9 => n_28.2 13 0 j9 (show (1300 : Nat) ∉ _ from by decide))).trans ((funext (fun j9 => n_27.2 13 0 j9 (show (1300 : Nat) ∉ _ from by decide))).trans ((funext (fun j9 => n_26.2 13 0 j9 (show (1300 : Nat) ∉ _ from by decide))).trans ((congrFun (congrFun est_25 13) 0).trans ((congrFun (gU_k (by decide)) 0).trans rfl))))), show st_28 15 0 = (st 15 0) from ((funext (fun j9 => n_28.2 15 0 j9 (show (1500 : Nat) ∉ _ from by decide))).trans ((funext (fun j9 => n_27.2 15 0 j9 (show (1500 : Nat) ∉ _ from by decide))).trans ((funext (fun j9 => n_26.2 15 0 j9 (show (1500 : Nat) ∉ _ from by decide))).trans ((congrFun (congrFun est_25 15) 0).trans ((congrFun (gU_k (by decide)) 0).trans rfl)))))]; exact htd), (by rw [show st_28 8 0 = (upd (st 8 0) (x_24.toNatClampNeg) (1 : Int32)) from ((funext (fun j9 => n_28.2 8 0 j9 (show (800 : Nat) ∉ _ from by decide))).trans ((funext (fun j9 => n_27.2 8 0 j9 (show (800 : Nat) ∉ _ from by decide))).trans ((funext (fun j9 => n_26.2 8 0 j9 (show (800 : Nat) ∉ _ from by decide))).trans ((congrFun (congrFun est_25 8) 0).trans ((gU_at _ _ _ _ _).trans (congrArg (fun f9 => upd f9 (x_24.toNatClampNeg) (1 : Int32)) rfl)))))), show st_28 13 0 = (st 13 0) from ((funext (fun j9 => n_28.2 13 0 j9 (show (1300 : Nat) ∉ _ from by decide))).trans ((funext (fun j9 => n_27.2 13 0 j9 (show (1300 : Nat) ∉ _ from by decide))).trans ((funext (fun j9 => n_26.2 13 0 j9 (show (1300 : Nat) ∉ _ from by decide))).trans ((congrFun (congrFun est_25 13) 0).trans ((congrFun (gU_k (by decide)) 0).trans rfl)))))]; exact mAct_keep hac mPos.rf (by omega) (by omega)), (by rw [show st_28 8 0 = (upd (st 8 0) (x_24.toNatClampNeg) (1 : Int32)) from ((funext (fun j9 => n_28.2 8 0 j9 (show (800 : Nat) ∉ _ from by decide))).trans ((funext (fun j9 => n_27.2 8 0 j9 (show (800 : Nat) ∉ _ from by decide))).trans ((funext (fun j9 => n_26.2 8 0 j9 (show (800 : Nat) ∉ _ from by decide))).trans ((congrFun (congrFun est_25 8) 0).trans ((gU_at _ _ _ _ _).trans (congrArg (fun f9 => upd f9 (x_24.toNatClampNeg) (1 : Int32)) rfl)))))), show st_28 13 0 = (st 13 0) from ((funext (fun j9 => n_28.2 13 0 j9 (show (1300 : Nat) ∉ _ from by decide))).trans ((funext (fun j9 => n_27.2 13 0 j9 (show (1300 : Nat) ∉ _ from by decide))).trans ((funext (fun j9 => n_26.2 13 0 j9 (show (1300 : Nat) ∉ _ from by decide))).trans ((congrFun (congrFun est_25 13) 0).trans ((congrFun (gU_k (by decide)) 0).trans rfl)))))]; exact mAct_keep hao mPos.rf (by omega) (by omega))⟩)⟩ (by exact Nat.le_refl _) (by exact Nat.le_refl _) dX10_rule_195
        · skip
          refine lv_goto (tgt := 180) hx hb dX10_rule_146 (by decide) ?_
          refine lv_istore_n (lv' := [(3, .int 0), (2, .int x_24), (1, .int 1), (0, .ref (ad 0 0))]) hx hb dX10_rule_180 rfl hl (by decide) rfl (fun ls hl => ?_)
          refine lv_iload_n hx hb dX10_rule_181 rfl (lv_at hl 0 rfl) ?_
          refine lv_if_eq (tgt := 194) hx hb dX10_rule_182 (by decide) (fun _ => ?_) (fun h9 => absurd (by decide) h9)
          refine lv_iconst (v := 0) hx hb dX10_rule_194 (by decide) ?_
          exact gs_iret hx hb hr hlocks hM hS (by decide) ⟨hB_st_27, (Or.inr ⟨rfl, (by have hl0 : (0 : Int32).toInt = 0 := (by decide); have hq1 : (st_27 0 0 30).toInt = ((st 0 0 30) : Int32).toInt := congrArg Int32.toInt (((n_27.2 0 0 30 (show (30 : Nat) ∉ _ from by decide)).trans ((n_26.2 0 0 30 (show (30 : Nat) ∉ _ from by decide)).trans ((congrFun (congrFun (congrFun est_25 0) 0) 30).trans (congrFun (congrFun (gU_k (by decide)) 0) 30))))); have hb2 : (0 : Int) ≤ (st_27 0 0 30).toInt ∧ (st_27 0 0 30).toInt ≤ (20 : Int) := hB_st_27.1 0 0 30; have hb3 : (0 : Int) ≤ (st 0 0 30).toInt ∧ (st 0 0 30).toInt ≤ (20 : Int) := hB_st.1 0 0 30; omega), (by rw [show st_27 13 0 = (st 13 0) from ((funext (fun j9 => n_27.2 13 0 j9 (show (1300 : Nat) ∉ _ from by decide))).trans ((funext (fun j9 => n_26.2 13 0 j9 (show (1300 : Nat) ∉ _ from by decide))).trans ((congrFun (congrFun est_25 13) 0).trans ((congrFun (gU_k (by decide)) 0).trans rfl)))), show st_27 15 0 = (st 15 0) from ((funext (fun j9 => n_27.2 15 0 j9 (show (1500 : Nat) ∉ _ from by decide))).trans ((funext (fun j9 => n_26.2 15 0 j9 (show (1500 : Nat) ∉ _ from by decide))).trans ((congrFun (congrFun est_25 15) 0).trans ((congrFun (gU_k (by decide)) 0).trans rfl))))]; exact htd), (by rw [show st_27 8 0 = (upd (st 8 0) (x_24.toNatClampNeg) (1 : Int32)) from ((funext (fun j9 => n_27.2 8 0 j9 (show (800 : Nat) ∉ _ from by decide))).trans ((funext (fun j9 => n_26.2 8 0 j9 (show (800 : Nat) ∉ _ from by decide))).trans ((congrFun (congrFun est_25 8) 0).trans ((gU_at _ _ _ _ _).trans (congrArg (fun f9 => upd f9 (x_24.toNatClampNeg) (1 : Int32)) rfl))))), show st_27 13 0 = (st 13 0) from ((funext (fun j9 => n_27.2 13 0 j9 (show (1300 : Nat) ∉ _ from by decide))).trans ((funext (fun j9 => n_26.2 13 0 j9 (show (1300 : Nat) ∉ _ from by decide))).trans ((congrFun (congrFun est_25 13) 0).trans ((congrFun (gU_k (by decide)) 0).trans rfl))))]; exact mAct_keep hac mPos.rf (by omega) (by omega)), (by rw [show st_27 8 0 = (upd (st 8 0) (x_24.toNatClampNeg) (1 : Int32)) from ((funext (fun j9 => n_27.2 8 0 j9 (show (800 : Nat) ∉ _ from by decide))).trans ((funext (fun j9 => n_26.2 8 0 j9 (show (800 : Nat) ∉ _ from by decide))).trans ((congrFun (congrFun est_25 8) 0).trans ((gU_at _ _ _ _ _).trans (congrArg (fun f9 => upd f9 (x_24.toNatClampNeg) (1 : Int32)) rfl))))), show st_27 13 0 = (st 13 0) from ((funext (fun j9 => n_27.2 13 0 j9 (show (1300 : Nat) ∉ _ from by decide))).trans ((funext (fun j9 => n_26.2 13 0 j9 (show (1300 : Nat) ∉ _ from by decide))).trans ((congrFun (congrFun est_25 13) 0).trans ((congrFun (gU_k (by decide)) 0).trans rfl))))]; exact mAct_keep hao mPos.rf (by omega) (by omega))⟩)⟩ (by exact Nat.le_refl _) (by exact Nat.le_refl _) dX10_rule_195
      · have ic_20 := gz_eqn (rfl : (st 0 0 30).toInt = (st 0 0 30).toInt) (by decide : (20 : Int32).toInt = 20) c_20
        refine lv_aload_n hx hb dX10_rule_90 rfl (lv_at hl 1 rfl) ?_
        refine lv_iconst (v := 4) hx hb dX10_rule_91 (by decide) ?_
        refine lv_aload_n hx hb dX10_rule_92 rfl (lv_at hl 1 rfl) ?_
        refine gs_get (C := RX10) (T := TX10) (N := 59) hx hb hts inX10 hown hK hM 0 0 13 (by decide) rfl rfl (by decide) (hts _ gm_910) (fun _ h9 => h9) rfl dX10_rule_93 ?_
        refine gs_calli (va_runV (As := [.int 4, .int (st 0 0 13)]) (rest := []) ⟨hx, hb, hml, hown, hts⟩ (m_wrong l G cy sK sV ad H.size st hB_st.1 (4 : Int32) (st 0 0 13) ) ⟨(gz_cb (n := 2) hts gm_1127 gm_12 gm_1130 ⟨by decide +kernel, by decide +kernel, by decide +kernel⟩ ⟨Nat.le_of_ble_eq_true rfl, Nat.le_of_ble_eq_true rfl⟩), hts _ gm_1129, hts _ gs_37⟩ (gs_preV hK hov hE hI hM hm hS hA 0 0 (by decide) rfl rfl) rfl rfl hl.1 rfl (lv_room (Nat.le_of_ble_eq_true rfl)) dX10_rule_96 ⟨Nat.le_of_ble_eq_true rfl, Nat.le_of_ble_eq_true rfl⟩) hm hS hA (fun r_34 st_34 H locs hw_34 hM hS => ?_)
        obtain ⟨n_34, hw_34⟩ := hw_34
        have hB_st_34 : gBN bM kM [11, 12, 13, 14, 15, 16, 17, 18, 19, 30, 59, 800, 900, 1000, 1100, 1200, 1300, 1400, 1500] st st_34 := hB_st.call n_34 (by decide)
        obtain rfl := hw_34
        exact gs_iret hx hb hr hlocks hM hS (by decide) ⟨hB_st_34, (Or.inr ⟨rfl, (by have hl0 : (0 : Int32).toInt = 0 := (by decide); have hq1 : (st_34 0 0 30).toInt = ((st 0 0 30) : Int32).toInt := congrArg Int32.toInt ((n_34.2 0 0 30 (show (30 : Nat) ∉ _ from by decide))); have hb2 : (0 : Int) ≤ (st_34 0 0 30).toInt ∧ (st_34 0 0 30).toInt ≤ (20 : Int) := hB_st_34.1 0 0 30; have hb3 : (0 : Int) ≤ (st 0 0 30).toInt ∧ (st 0 0 30).toInt ≤ (20 : Int) := hB_st.1 0 0 30; omega), (by rw [show st_34 13 0 = (st 13 0) from ((funext (fun j9 => n_34.2 13 0 j9 (show (1300 : Nat) ∉ _ from by decide))).trans rfl), show st_34 15 0 = (st 15 0) from ((funext (fun j9 => n_34.2 15 0 j9 (show (1500 : Nat) ∉ _ from by decide))).trans rfl)]; exact htd), (by rw [show st_34 8 0 = (st 8 0) from ((funext (fun j9 => n_34.2 8 0 j9 (show (800 : Nat) ∉ _ from by decide))).trans rfl), show st_34 13 0 = (st 13 0) from ((funext (fun j9 => n_34.2 13 0 j9 (show (1300 : Nat) ∉ _ from by decide))).trans rfl)]; exact mAct_pos hac mPos.rf), (by rw [show st_34 8 0 = (st 8 0) from ((funext (fun j9 => n_34.2 8 0 j9 (show (800 : Nat) ∉ _ from by decide))).trans rfl), show st_34 13 0 = (st 13 0) from ((funext (fun j9 => n_34.2 13 0 j9 (show (1300 : Nat) ∉ _ from by decide))).trans rfl)]; exact mAct_pos hao mPos.rf)⟩)⟩ (by exact Nat.le_refl _) (by exact Nat.le_refl _) dX10_rule_99
    · skip
      refine lv_if_eq (tgt := 28) hx hb dX10_rule_21 (by decide) (fun _ => ?_) (fun h9 => absurd (by decide) h9)
      refine lv_aload_n hx hb dX10_rule_28 rfl (lv_at hl 0 rfl) ?_
      refine lv_ldc2 (v := 7824740) hx hb hown (hts _ gm_1120) dX10_rule_29 ?_
      refine gs_calli (va_runV (As := [.long (7824740 : Int64)]) (rest := []) ⟨hx, hb, hml, hown, hts⟩ (m_isWord l G cy sK sV ad H.size st hB_st.1 (7824740 : Int64) ) ⟨(gz_cb (n := 1) hts gm_1115 gm_12 gm_1118 ⟨by decide +kernel, by decide +kernel, by decide +kernel⟩ ⟨Nat.le_of_ble_eq_true rfl, Nat.le_of_ble_eq_true rfl⟩), hts _ gm_1117, hts _ gs_35⟩ (gs_preV hK hov hE hI hM hm hS hA 0 0 (by decide) rfl rfl) rfl rfl hl.1 rfl (lv_room (Nat.le_of_ble_eq_true rfl)) dX10_rule_32 ⟨Nat.le_of_ble_eq_true rfl, Nat.le_of_ble_eq_true rfl⟩) hm hS hA (fun r_35 st_35 H locs hw_35 hM hS => ?_)
      obtain ⟨n_35, hw_35⟩ := hw_35
      have n_35 := gBN.nil n_35
      subst n_35
      rcases hw_35 with rfl | rfl
      · skip
        refine lv_if_eq (tgt := 42) hx hb dX10_rule_35 (by decide) (fun h9 => absurd h9 (by decide)) (fun _ => ?_)
        refine lv_iconst (v := 2) hx hb dX10_rule_38 (by decide) ?_
        refine lv_goto (tgt := 71) hx hb dX10_rule_39 (by decide) ?_
        refine lv_istore_n (lv' := [(1, .int 2), (0, .ref (ad 0 0))]) hx hb dX10_rule_71 rfl hl (by decide) rfl (fun ls hl => ?_)
        refine lv_iload_n hx hb dX10_rule_72 rfl (lv_at hl 0 rfl) ?_
        refine lv_if_ge (tgt := 81) hx hb dX10_rule_73 (by decide) (fun _ => ?_) (fun h9 => absurd (by decide) h9)
        refine lv_aload_n hx hb dX10_rule_81 rfl (lv_at hl 1 rfl) ?_
        refine gs_get (C := RX10) (T := TX10) (N := 59) hx hb hts inX10 hown hK hM 0 0 30 (by decide) rfl rfl (by decide) (hts _ gm_927) (fun _ h9 => h9) rfl dX10_rule_82 ?_
        have bf_36 : (0 : Int) ≤ (st 0 0 30).toInt ∧ (st 0 0 30).toInt ≤ (20 : Int) := hB_st.1 0 0 30
        refine lv_bipush (v := 20) hx hb dX10_rule_85 (by decide) ?_
        refine lv_icmp_ne (tgt := 100) hx hb dX10_rule_87 (by decide) (fun c_37 => ?_) (fun c_37 => ?_)
        · have ic_37 := gz_ne (rfl : (st 0 0 30).toInt = (st 0 0 30).toInt) (by decide : (20 : Int32).toInt = 20) c_37
          refine lv_bipush (v := 24) hx hb dX10_rule_100 (by decide) ?_
          refine lv_aload_n hx hb dX10_rule_102 rfl (lv_at hl 1 rfl) ?_
          refine gs_get (C := RX10) (T := TX10) (N := 59) hx hb hts inX10 hown hK hM 0 0 28 (by decide) rfl rfl (by decide) (hts _ gm_925) (fun _ h9 => h9) rfl dX10_rule_103 ?_
          have bf_38 : (0 : Int) ≤ (st 0 0 28).toInt ∧ (st 0 0 28).toInt ≤ (1 : Int) := hB_st.1 0 0 28
          refine lv_imul hx hb dX10_rule_106 ?_
          refine lv_topi (fun x_39 ex_39 => ?_)
          try have tx_39 : x_39.toInt = 24 * (st 0 0 28).toInt := by rw [ex_39]; exact gz_mulI (x := 24) (y := (st 0 0 28).toInt) (by decide) rfl (by omega) (by omega)
          refine lv_aload_n hx hb dX10_rule_107 rfl (lv_at hl 1 rfl) ?_
          refine gs_get (C := RX10) (T := TX10) (N := 59) hx hb hts inX10 hown hK hM 0 0 30 (by decide) rfl rfl (by decide) (hts _ gm_927) (fun _ h9 => h9) rfl dX10_rule_108 ?_
          have bf_40 : (0 : Int) ≤ (st 0 0 30).toInt ∧ (st 0 0 30).toInt ≤ (20 : Int) := hB_st.1 0 0 30
          refine lv_iadd hx hb dX10_rule_111 ?_
          refine lv_topi (fun x_41 ex_41 => ?_)
          try have tx_41 : x_41.toInt = x_39.toInt + (st 0 0 30).toInt := by rw [ex_41]; exact gz_addI (x := x_39.toInt) (y := (st 0 0 30).toInt) rfl rfl (by omega) (by omega)
          refine lv_istore_n (lv' := [(2, .int x_41), (1, .int 2), (0, .ref (ad 0 0))]) hx hb dX10_rule_112 rfl hl (by decide) rfl (fun ls hl => ?_)
          refine lv_aload_n hx hb dX10_rule_113 rfl (lv_at hl 2 rfl) ?_
          refine gs_get (C := RX10) (T := TX10) (N := 59) hx hb hts inX10 hown hK hM 0 0 20 (by decide) rfl rfl (by decide) (hts _ gm_917) (fun _ h9 => h9) rfl dX10_rule_114 ?_
          refine lv_iload_n hx hb dX10_rule_117 rfl (lv_at hl 0 rfl) ?_
          refine lv_iload_n hx hb dX10_rule_118 rfl (lv_at hl 1 rfl) ?_
          refine gs_iast hx hb hK hI hm hM hS 8 0 (by decide) (fun _ => rfl) (vp_in_iff.mpr ⟨by omega, by omega⟩) dX10_rule_119 (fun st_42 H locs est_42 hM hS => ?_)
          have hB_st_42 : gBN bM kM [11, 12, 13, 14, 15, 16, 17, 18, 19, 30, 59, 800, 900, 1000, 1100, 1200, 1300, 1400, 1500] st st_42 := by rw [est_42]; exact hB_st.up (show (800 : Nat) ∈ _ from by decide) (gi_lo _) (gi_hi _)
          refine lv_aload_n hx hb dX10_rule_120 rfl (lv_at hl 2 rfl) ?_
          refine gs_callv (va_runV (As := []) (rest := []) ⟨hx, hb, hml, hown, hts⟩ (m_next0 l G cy sK sV ad H.size st_42 hB_st_42.1  ) ⟨(gz_cb (n := 0) hts gm_1096 gm_12 gm_1099 ⟨by decide +kernel, by decide +kernel, by decide +kernel⟩ ⟨Nat.le_of_ble_eq_true rfl, Nat.le_of_ble_eq_true rfl⟩), hts _ gm_1098, hts _ gs_32⟩ (gs_preV hK hov hE hI hM hm hS hA 0 0 (by decide) rfl rfl) rfl rfl hl.1 rfl (lv_room (Nat.le_of_ble_eq_true rfl)) dX10_rule_121 ⟨Nat.le_of_ble_eq_true rfl, Nat.le_of_ble_eq_true rfl⟩) hm hS hA (fun st_43 H locs hw_43 hM hS => ?_)
          obtain ⟨n_43, hw_43⟩ := hw_43
          have hB_st_43 : gBN bM kM [11, 12, 13, 14, 15, 16, 17, 18, 19, 30, 59, 800, 900, 1000, 1100, 1200, 1300, 1400, 1500] st st_43 := hB_st_42.call n_43 (by decide)
          refine lv_iload_n hx hb dX10_rule_124 rfl (lv_at hl 1 rfl) ?_
          refine lv_if_ne (tgt := 136) hx hb dX10_rule_125 (by decide) (fun _ => ?_) (fun h9 => absurd h9 (by decide))
          refine lv_iload_n hx hb dX10_rule_136 rfl (lv_at hl 1 rfl) ?_
          refine lv_iconst (v := 1) hx hb dX10_rule_137 (by decide) ?_
          refine lv_icmp_ne (tgt := 149) hx hb dX10_rule_138 (by decide) (fun _ => ?_) (fun h9 => absurd h9 (by decide))
          refine lv_iload_n hx hb dX10_rule_149 rfl (lv_at hl 1 rfl) ?_
          refine lv_iconst (v := 2) hx hb dX10_rule_150 (by decide) ?_
          refine lv_icmp_ne (tgt := 162) hx hb dX10_rule_151 (by decide) (fun h9 => absurd (by decide) h9) (fun _ => ?_)
          refine lv_aload_n hx hb dX10_rule_154 rfl (lv_at hl 2 rfl) ?_
          refine lv_iload_n hx hb dX10_rule_155 rfl (lv_at hl 0 rfl) ?_
          refine gs_calli (va_runV (As := [.int x_41]) (rest := []) ⟨hx, hb, hml, hown, hts⟩ (m_wed l G cy sK sV ad H.size st_43 hB_st_43.1 x_41 x_41.toInt rfl (by first | decide | omega) (by first | decide | omega)) ⟨(gz_cb (n := 1) hts gm_1159 gm_12 gm_1162 ⟨by decide +kernel, by decide +kernel, by decide +kernel⟩ ⟨Nat.le_of_ble_eq_true rfl, Nat.le_of_ble_eq_true rfl⟩), hts _ gm_1161, hts _ gs_44⟩ (gs_preV hK hov hE hI hM hm hS hA 0 0 (by decide) rfl rfl) rfl rfl hl.1 rfl (lv_room (Nat.le_of_ble_eq_true rfl)) dX10_rule_156 ⟨Nat.le_of_ble_eq_true rfl, Nat.le_of_ble_eq_true rfl⟩) hm hS hA (fun r_44 st_44 H locs hw_44 hM hS => ?_)
          obtain ⟨n_44, hw_44⟩ := hw_44
          have hB_st_44 : gBN bM kM [11, 12, 13, 14, 15, 16, 17, 18, 19, 30, 59, 800, 900, 1000, 1100, 1200, 1300, 1400, 1500] st st_44 := hB_st_43.call n_44 (by decide)
          rcases hw_44 with rfl | rfl
          · skip
            refine lv_goto (tgt := 180) hx hb dX10_rule_159 (by decide) ?_
            refine lv_istore_n (lv' := [(3, .int 1), (2, .int x_41), (1, .int 2), (0, .ref (ad 0 0))]) hx hb dX10_rule_180 rfl hl (by decide) rfl (fun ls hl => ?_)
            refine lv_iload_n hx hb dX10_rule_181 rfl (lv_at hl 0 rfl) ?_
            refine lv_if_eq (tgt := 194) hx hb dX10_rule_182 (by decide) (fun h9 => absurd h9 (by decide)) (fun _ => ?_)
            refine lv_aload_n hx hb dX10_rule_185 rfl (lv_at hl 3 rfl) ?_
            refine lv_bipush (v := 59) hx hb dX10_rule_186 (by decide) ?_
            refine gs_calli (va_runV (As := [.int 59]) (rest := []) ⟨hx, hb, hml, hown, hts⟩ (m_must l G cy sK sV ad H.size st_44 hB_st_44.1 (59 : Int32) 59 (by decide) ) ⟨(gz_cb (n := 1) hts gm_1139 gm_12 gm_1142 ⟨by decide +kernel, by decide +kernel, by decide +kernel⟩ ⟨Nat.le_of_ble_eq_true rfl, Nat.le_of_ble_eq_true rfl⟩), hts _ gm_1141, hts _ gs_40⟩ (gs_preV hK hov hE hI hM hm hS hA 0 0 (by decide) rfl rfl) rfl rfl hl.1 rfl (lv_room (Nat.le_of_ble_eq_true rfl)) dX10_rule_188 ⟨Nat.le_of_ble_eq_true rfl, Nat.le_of_ble_eq_true rfl⟩) hm hS hA (fun r_45 st_45 H locs hw_45 hM hS => ?_)
            obtain ⟨n_45, hw_45⟩ := hw_45
            have hB_st_45 : gBN bM kM [11, 12, 13, 14, 15, 16, 17, 18, 19, 30, 59, 800, 900, 1000, 1100, 1200, 1300, 1400, 1500] st st_45 := hB_st_44.call n_45 (by decide)
            rcases hw_45 with rfl | rfl
            · skip
              refine lv_if_ne (tgt := 196) hx hb dX10_rule_191 (by decide) (fun _ => ?_) (fun h9 => absurd h9 (by decide))
              refine lv_aload_n hx hb dX10_rule_196 rfl (lv_at hl 3 rfl) ?_
              refine lv_dup hx hb dX10_rule_197 rfl ?_
              refine gs_get (C := RX10) (T := TX10) (N := 59) hx hb hts inX10 hown hK hM 0 0 30 (by decide) rfl rfl (by decide) (hts _ gm_927) (fun _ h9 => h9) rfl dX10_rule_198 ?_
              refine lv_topi (fun x_46 ex_46 => ?_)
              have ex_46 : (st 0 0 30) = x_46 := Eq.symm (ex_46.trans ((n_45.2 0 0 30 (show (30 : Nat) ∉ _ from by decide)).trans ((n_44.2 0 0 30 (show (30 : Nat) ∉ _ from by decide)).trans ((n_43.2 0 0 30 (show (30 : Nat) ∉ _ from by decide)).trans ((congrFun (congrFun (congrFun est_42 0) 0) 30).trans (congrFun (congrFun (gU_k (by decide)) 0) 30))))))
              subst ex_46
              have bf_47 : (0 : Int) ≤ (st 0 0 30).toInt ∧ (st 0 0 30).toInt ≤ (20 : Int) := hB_st.1 0 0 30
              refine lv_iconst (v := 1) hx hb dX10_rule_201 (by decide) ?_
              refine lv_iadd hx hb dX10_rule_202 ?_
              refine lv_topi (fun x_48 ex_48 => ?_)
              try have tx_48 : x_48.toInt = (st 0 0 30).toInt + 1 := by rw [ex_48]; exact gz_addP (x := (st 0 0 30).toInt) (y := 1) rfl (by decide) (by omega) (by omega)
              refine gs_put (C := RX10) (T := TX10) (N := 59) (ty := .int) (val := .int x_48) hx hb hts inX10 tyX10 tyX10_ok nmX10 hown hK hI hm hM hS 0 0 30 (by decide) rfl rfl (by decide) (hts _ gm_927) (fun _ h9 => h9) rfl (x_48 : Int32) rfl (by decide +kernel) rfl rfl (Nat.le_of_ble_eq_true rfl) dX10_rule_203 (fun st_49 H locs est_49 hM hS => ?_)
              have hB_st_49 : gBN bM kM [11, 12, 13, 14, 15, 16, 17, 18, 19, 30, 59, 800, 900, 1000, 1100, 1200, 1300, 1400, 1500] st st_49 := by rw [est_49]; exact hB_st_45.up (show (30 : Nat) ∈ _ from by decide) (show (0 : Int) ≤ x_48.toInt from by omega) (show x_48.toInt ≤ (20 : Int) from by omega)
              refine lv_iconst (v := 1) hx hb dX10_rule_206 (by decide) ?_
              exact gs_iret hx hb hr hlocks hM hS (by decide) ⟨hB_st_49, (Or.inl ⟨rfl, (by have hl0 : (1 : Int32).toInt = 1 := (by decide); have hq1 : (st_49 0 0 30).toInt = (x_48 : Int32).toInt := congrArg Int32.toInt (((congrFun (congrFun (congrFun est_49 0) 0) 30).trans (gU_same _ _ _ _ _))); have hb2 : (0 : Int) ≤ (st_49 0 0 30).toInt ∧ (st_49 0 0 30).toInt ≤ (20 : Int) := hB_st_49.1 0 0 30; have hb3 : (0 : Int) ≤ (st 0 0 30).toInt ∧ (st 0 0 30).toInt ≤ (20 : Int) := hB_st.1 0 0 30; omega), (by rw [show st_49 13 0 = (st 13 0) from ((congrFun (congrFun est_49 13) 0).trans ((congrFun (gU_k (by decide)) 0).trans ((funext (fun j9 => n_45.2 13 0 j9 (show (1300 : Nat) ∉ _ from by decide))).trans ((funext (fun j9 => n_44.2 13 0 j9 (show (1300 : Nat) ∉ _ from by decide))).trans ((funext (fun j9 => n_43.2 13 0 j9 (show (1300 : Nat) ∉ _ from by decide))).trans ((congrFun (congrFun est_42 13) 0).trans ((congrFun (gU_k (by decide)) 0).trans rfl))))))), show st_49 15 0 = (st 15 0) from ((congrFun (congrFun est_49 15) 0).trans ((congrFun (gU_k (by decide)) 0).trans ((funext (fun j9 => n_45.2 15 0 j9 (show (1500 : Nat) ∉ _ from by decide))).trans ((funext (fun j9 => n_44.2 15 0 j9 (show (1500 : Nat) ∉ _ from by decide))).trans ((funext (fun j9 => n_43.2 15 0 j9 (show (1500 : Nat) ∉ _ from by decide))).trans ((congrFun (congrFun est_42 15) 0).trans ((congrFun (gU_k (by decide)) 0).trans rfl)))))))]; exact htd), (by rw [show st_49 8 0 = (upd (st 8 0) (x_41.toNatClampNeg) (2 : Int32)) from ((congrFun (congrFun est_49 8) 0).trans ((congrFun (gU_k (by decide)) 0).trans ((funext (fun j9 => n_45.2 8 0 j9 (show (800 : Nat) ∉ _ from by decide))).trans ((funext (fun j9 => n_44.2 8 0 j9 (show (800 : Nat) ∉ _ from by decide))).trans ((funext (fun j9 => n_43.2 8 0 j9 (show (800 : Nat) ∉ _ from by decide))).trans ((congrFun (congrFun est_42 8) 0).trans ((gU_at _ _ _ _ _).trans (congrArg (fun f9 => upd f9 (x_41.toNatClampNeg) (2 : Int32)) rfl)))))))), show st_49 13 0 = (st 13 0) from ((congrFun (congrFun est_49 13) 0).trans ((congrFun (gU_k (by decide)) 0).trans ((funext (fun j9 => n_45.2 13 0 j9 (show (1300 : Nat) ∉ _ from by decide))).trans ((funext (fun j9 => n_44.2 13 0 j9 (show (1300 : Nat) ∉ _ from by decide))).trans ((funext (fun j9 => n_43.2 13 0 j9 (show (1300 : Nat) ∉ _ from by decide))).trans ((congrFun (congrFun est_42 13) 0).trans ((congrFun (gU_k (by decide)) 0).trans rfl)))))))]; exact mAct_new hac mPos.rf (by omega) (by omega) (fun h9 => absurd h9 (by decide))), (by rw [show st_49 8 0 = (upd (st 8 0) (x_41.toNatClampNeg) (2 : Int32)) from ((congrFun (congrFun est_49 8) 0).trans ((congrFun (gU_k (by decide)) 0).trans ((funext (fun j9 => n_45.2 8 0 j9 (show (800 : Nat) ∉ _ from by decide))).trans ((funext (fun j9 => n_44.2 8 0 j9 (show (800 : Nat) ∉ _ from by decide))).trans ((funext (fun j9 => n_43.2 8 0 j9 (show (800 : Nat) ∉ _ from by decide))).trans ((congrFun (congrFun est_42 8) 0).trans ((gU_at _ _ _ _ _).trans (congrArg (fun f9 => upd f9 (x_41.toNatClampNeg) (2 : Int32)) rfl)))))))), show st_49 13 0 = (st 13 0) from ((congrFun (congrFun est_49 13) 0).trans ((congrFun (gU_k (by decide)) 0).trans ((funext (fun j9 => n_45.2 13 0 j9 (show (1300 : Nat) ∉ _ from by decide))).trans ((funext (fun j9 => n_44.2 13 0 j9 (show (1300 : Nat) ∉ _ from by decide))).trans ((funext (fun j9 => n_43.2 13 0 j9 (show (1300 : Nat) ∉ _ from by decide))).trans ((congrFun (congrFun est_42 13) 0).trans ((congrFun (gU_k (by decide)) 0).trans rfl)))))))]; exact mAct_keep hao mPos.rf (by omega) (by omega))⟩)⟩ (by exact Nat.le_refl _) (by exact Nat.le_refl _) dX10_rule_207
            · skip
              refine lv_if_ne (tgt := 196) hx hb dX10_rule_191 (by decide) (fun h9 => absurd (by decide) h9) (fun _ => ?_)
              refine lv_iconst (v := 0) hx hb dX10_rule_194 (by decide) ?_
              exact gs_iret hx hb hr hlocks hM hS (by decide) ⟨hB_st_45, (Or.inr ⟨rfl, (by have hl0 : (0 : Int32).toInt = 0 := (by decide); have hq1 : (st_45 0 0 30).toInt = ((st 0 0 30) : Int32).toInt := congrArg Int32.toInt (((n_45.2 0 0 30 (show (30 : Nat) ∉ _ from by decide)).trans ((n_44.2 0 0 30 (show (30 : Nat) ∉ _ from by decide)).trans ((n_43.2 0 0 30 (show (30 : Nat) ∉ _ from by decide)).trans ((congrFun (congrFun (congrFun est_42 0) 0) 30).trans (congrFun (congrFun (gU_k (by decide)) 0) 30)))))); have hb2 : (0 : Int) ≤ (st_45 0 0 30).toInt ∧ (st_45 0 0 30).toInt ≤ (20 : Int) := hB_st_45.1 0 0 30; have hb3 : (0 : Int) ≤ (st 0 0 30).toInt ∧ (st 0 0 30).toInt ≤ (20 : Int) := hB_st.1 0 0 30; omega), (by rw [show st_45 13 0 = (st 13 0) from ((funext (fun j9 => n_45.2 13 0 j9 (show (1300 : Nat) ∉ _ from by decide))).trans ((funext (fun j9 => n_44.2 13 0 j9 (show (1300 : Nat) ∉ _ from by decide))).trans ((funext (fun j9 => n_43.2 13 0 j9 (show (1300 : Nat) ∉ _ from by decide))).trans ((congrFun (congrFun est_42 13) 0).trans ((congrFun (gU_k (by decide)) 0).trans rfl))))), show st_45 15 0 = (st 15 0) from ((funext (fun j9 => n_45.2 15 0 j9 (show (1500 : Nat) ∉ _ from by decide))).trans ((funext (fun j9 => n_44.2 15 0 j9 (show (1500 : Nat) ∉ _ from by decide))).trans ((funext (fun j9 => n_43.2 15 0 j9 (show (1500 : Nat) ∉ _ from by decide))).trans ((congrFun (congrFun est_42 15) 0).trans ((congrFun (gU_k (by decide)) 0).trans rfl)))))]; exact htd), (by rw [show st_45 8 0 = (upd (st 8 0) (x_41.toNatClampNeg) (2 : Int32)) from ((funext (fun j9 => n_45.2 8 0 j9 (show (800 : Nat) ∉ _ from by decide))).trans ((funext (fun j9 => n_44.2 8 0 j9 (show (800 : Nat) ∉ _ from by decide))).trans ((funext (fun j9 => n_43.2 8 0 j9 (show (800 : Nat) ∉ _ from by decide))).trans ((congrFun (congrFun est_42 8) 0).trans ((gU_at _ _ _ _ _).trans (congrArg (fun f9 => upd f9 (x_41.toNatClampNeg) (2 : Int32)) rfl)))))), show st_45 13 0 = (st 13 0) from ((funext (fun j9 => n_45.2 13 0 j9 (show (1300 : Nat) ∉ _ from by decide))).trans ((funext (fun j9 => n_44.2 13 0 j9 (show (1300 : Nat) ∉ _ from by decide))).trans ((funext (fun j9 => n_43.2 13 0 j9 (show (1300 : Nat) ∉ _ from by decide))).trans ((congrFun (congrFun est_42 13) 0).trans ((congrFun (gU_k (by decide)) 0).trans rfl)))))]; exact mAct_keep hac mPos.rf (by omega) (by omega)), (by rw [show st_45 8 0 = (upd (st 8 0) (x_41.toNatClampNeg) (2 : Int32)) from ((funext (fun j9 => n_45.2 8 0 j9 (show (800 : Nat) ∉ _ from by decide))).trans ((funext (fun j9 => n_44.2 8 0 j9 (show (800 : Nat) ∉ _ from by decide))).trans ((funext (fun j9 => n_43.2 8 0 j9 (show (800 : Nat) ∉ _ from by decide))).trans ((congrFun (congrFun est_42 8) 0).trans ((gU_at _ _ _ _ _).trans (congrArg (fun f9 => upd f9 (x_41.toNatClampNeg) (2 : Int32)) rfl)))))), show st_45 13 0 = (st 13 0) from ((funext (fun j9 => n_45.2 13 0 j9 (show (1300 : Nat) ∉ _ from by decide))).trans ((funext (fun j9 => n_44.2 13 0 j9 (show (1300 : Nat) ∉ _ from by decide))).trans ((funext (fun j9 => n_43.2 13 0 j9 (show (1300 : Nat) ∉ _ from by decide))).trans ((congrFun (congrFun est_42 13) 0).trans ((congrFun (gU_k (by decide)) 0).trans rfl)))))]; exact mAct_keep hao mPos.rf (by omega) (by omega))⟩)⟩ (by exact Nat.le_refl _) (by exact Nat.le_refl _) dX10_rule_195
          · skip
            refine lv_goto (tgt := 180) hx hb dX10_rule_159 (by decide) ?_
            refine lv_istore_n (lv' := [(3, .int 0), (2, .int x_41), (1, .int 2), (0, .ref (ad 0 0))]) hx hb dX10_rule_180 rfl hl (by decide) rfl (fun ls hl => ?_)
            refine lv_iload_n hx hb dX10_rule_181 rfl (lv_at hl 0 rfl) ?_
            refine lv_if_eq (tgt := 194) hx hb dX10_rule_182 (by decide) (fun _ => ?_) (fun h9 => absurd (by decide) h9)
            refine lv_iconst (v := 0) hx hb dX10_rule_194 (by decide) ?_
            exact gs_iret hx hb hr hlocks hM hS (by decide) ⟨hB_st_44, (Or.inr ⟨rfl, (by have hl0 : (0 : Int32).toInt = 0 := (by decide); have hq1 : (st_44 0 0 30).toInt = ((st 0 0 30) : Int32).toInt := congrArg Int32.toInt (((n_44.2 0 0 30 (show (30 : Nat) ∉ _ from by decide)).trans ((n_43.2 0 0 30 (show (30 : Nat) ∉ _ from by decide)).trans ((congrFun (congrFun (congrFun est_42 0) 0) 30).trans (congrFun (congrFun (gU_k (by decide)) 0) 30))))); have hb2 : (0 : Int) ≤ (st_44 0 0 30).toInt ∧ (st_44 0 0 30).toInt ≤ (20 : Int) := hB_st_44.1 0 0 30; have hb3 : (0 : Int) ≤ (st 0 0 30).toInt ∧ (st 0 0 30).toInt ≤ (20 : Int) := hB_st.1 0 0 30; omega), (by rw [show st_44 13 0 = (st 13 0) from ((funext (fun j9 => n_44.2 13 0 j9 (show (1300 : Nat) ∉ _ from by decide))).trans ((funext (fun j9 => n_43.2 13 0 j9 (show (1300 : Nat) ∉ _ from by decide))).trans ((congrFun (congrFun est_42 13) 0).trans ((congrFun (gU_k (by decide)) 0).trans rfl)))), show st_44 15 0 = (st 15 0) from ((funext (fun j9 => n_44.2 15 0 j9 (show (1500 : Nat) ∉ _ from by decide))).trans ((funext (fun j9 => n_43.2 15 0 j9 (show (1500 : Nat) ∉ _ from by decide))).trans ((congrFun (congrFun est_42 15) 0).trans ((congrFun (gU_k (by decide)) 0).trans rfl))))]; exact htd), (by rw [show st_44 8 0 = (upd (st 8 0) (x_41.toNatClampNeg) (2 : Int32)) from ((funext (fun j9 => n_44.2 8 0 j9 (show (800 : Nat) ∉ _ from by decide))).trans ((funext (fun j9 => n_43.2 8 0 j9 (show (800 : Nat) ∉ _ from by decide))).trans ((congrFun (congrFun est_42 8) 0).trans ((gU_at _ _ _ _ _).trans (congrArg (fun f9 => upd f9 (x_41.toNatClampNeg) (2 : Int32)) rfl))))), show st_44 13 0 = (st 13 0) from ((funext (fun j9 => n_44.2 13 0 j9 (show (1300 : Nat) ∉ _ from by decide))).trans ((funext (fun j9 => n_43.2 13 0 j9 (show (1300 : Nat) ∉ _ from by decide))).trans ((congrFun (congrFun est_42 13) 0).trans ((congrFun (gU_k (by decide)) 0).trans rfl))))]; exact mAct_keep hac mPos.rf (by omega) (by omega)), (by rw [show st_44 8 0 = (upd (st 8 0) (x_41.toNatClampNeg) (2 : Int32)) from ((funext (fun j9 => n_44.2 8 0 j9 (show (800 : Nat) ∉ _ from by decide))).trans ((funext (fun j9 => n_43.2 8 0 j9 (show (800 : Nat) ∉ _ from by decide))).trans ((congrFun (congrFun est_42 8) 0).trans ((gU_at _ _ _ _ _).trans (congrArg (fun f9 => upd f9 (x_41.toNatClampNeg) (2 : Int32)) rfl))))), show st_44 13 0 = (st 13 0) from ((funext (fun j9 => n_44.2 13 0 j9 (show (1300 : Nat) ∉ _ from by decide))).trans ((funext (fun j9 => n_43.2 13 0 j9 (show (1300 : Nat) ∉ _ from by decide))).trans ((congrFun (congrFun est_42 13) 0).trans ((congrFun (gU_k (by decide)) 0).trans rfl))))]; exact mAct_keep hao mPos.rf (by omega) (by omega))⟩)⟩ (by exact Nat.le_refl _) (by exact Nat.le_refl _) dX10_rule_195
        · have ic_37 := gz_eqn (rfl : (st 0 0 30).toInt = (st 0 0 30).toInt) (by decide : (20 : Int32).toInt = 20) c_37
          refine lv_aload_n hx hb dX10_rule_90 rfl (lv_at hl 1 rfl) ?_
          refine lv_iconst (v := 4) hx hb dX10_rule_91 (by decide) ?_
          refine lv_aload_n hx hb dX10_rule_92 rfl (lv_at hl 1 rfl) ?_
          refine gs_get (C := RX10) (T := TX10) (N := 59) hx hb hts inX10 hown hK hM 0 0 13 (by decide) rfl rfl (by decide) (hts _ gm_910) (fun _ h9 => h9) rfl dX10_rule_93 ?_
          refine gs_calli (va_runV (As := [.int 4, .int (st 0 0 13)]) (rest := []) ⟨hx, hb, hml, hown, hts⟩ (m_wrong l G cy sK sV ad H.size st hB_st.1 (4 : Int32) (st 0 0 13) ) ⟨(gz_cb (n := 2) hts gm_1127 gm_12 gm_1130 ⟨by decide +kernel, by decide +kernel, by decide +kernel⟩ ⟨Nat.le_of_ble_eq_true rfl, Nat.le_of_ble_eq_true rfl⟩), hts _ gm_1129, hts _ gs_37⟩ (gs_preV hK hov hE hI hM hm hS hA 0 0 (by decide) rfl rfl) rfl rfl hl.1 rfl (lv_room (Nat.le_of_ble_eq_true rfl)) dX10_rule_96 ⟨Nat.le_of_ble_eq_true rfl, Nat.le_of_ble_eq_true rfl⟩) hm hS hA (fun r_51 st_51 H locs hw_51 hM hS => ?_)
          obtain ⟨n_51, hw_51⟩ := hw_51
          have hB_st_51 : gBN bM kM [11, 12, 13, 14, 15, 16, 17, 18, 19, 30, 59, 800, 900, 1000, 1100, 1200, 1300, 1400, 1500] st st_51 := hB_st.call n_51 (by decide)
          obtain rfl := hw_51
          exact gs_iret hx hb hr hlocks hM hS (by decide) ⟨hB_st_51, (Or.inr ⟨rfl, (by have hl0 : (0 : Int32).toInt = 0 := (by decide); have hq1 : (st_51 0 0 30).toInt = ((st 0 0 30) : Int32).toInt := congrArg Int32.toInt ((n_51.2 0 0 30 (show (30 : Nat) ∉ _ from by decide))); have hb2 : (0 : Int) ≤ (st_51 0 0 30).toInt ∧ (st_51 0 0 30).toInt ≤ (20 : Int) := hB_st_51.1 0 0 30; have hb3 : (0 : Int) ≤ (st 0 0 30).toInt ∧ (st 0 0 30).toInt ≤ (20 : Int) := hB_st.1 0 0 30; omega), (by rw [show st_51 13 0 = (st 13 0) from ((funext (fun j9 => n_51.2 13 0 j9 (show (1300 : Nat) ∉ _ from by decide))).trans rfl), show st_51 15 0 = (st 15 0) from ((funext (fun j9 => n_51.2 15 0 j9 (show (1500 : Nat) ∉ _ from by decide))).trans rfl)]; exact htd), (by rw [show st_51 8 0 = (st 8 0) from ((funext (fun j9 => n_51.2 8 0 j9 (show (800 : Nat) ∉ _ from by decide))).trans rfl), show st_51 13 0 = (st 13 0) from ((funext (fun j9 => n_51.2 13 0 j9 (show (1300 : Nat) ∉ _ from by decide))).trans rfl)]; exact mAct_pos hac mPos.rf), (by rw [show st_51 8 0 = (st 8 0) from ((funext (fun j9 => n_51.2 8 0 j9 (show (800 : Nat) ∉ _ from by decide))).trans rfl), show st_51 13 0 = (st 13 0) from ((funext (fun j9 => n_51.2 13 0 j9 (show (1300 : Nat) ∉ _ from by decide))).trans rfl)]; exact mAct_pos hao mPos.rf)⟩)⟩ (by exact Nat.le_refl _) (by exact Nat.le_refl _) dX10_rule_99
      · skip
        refine lv_if_eq (tgt := 42) hx hb dX10_rule_35 (by decide) (fun _ => ?_) (fun h9 => absurd (by decide) h9)
        refine lv_aload_n hx hb dX10_rule_42 rfl (lv_at hl 0 rfl) ?_
        refine lv_ldc2 (v := 28273320707713140) hx hb hown (hts _ gm_1121) dX10_rule_43 ?_
        refine gs_calli (va_runV (As := [.long (28273320707713140 : Int64)]) (rest := []) ⟨hx, hb, hml, hown, hts⟩ (m_isWord l G cy sK sV ad H.size st hB_st.1 (28273320707713140 : Int64) ) ⟨(gz_cb (n := 1) hts gm_1115 gm_12 gm_1118 ⟨by decide +kernel, by decide +kernel, by decide +kernel⟩ ⟨Nat.le_of_ble_eq_true rfl, Nat.le_of_ble_eq_true rfl⟩), hts _ gm_1117, hts _ gs_35⟩ (gs_preV hK hov hE hI hM hm hS hA 0 0 (by decide) rfl rfl) rfl rfl hl.1 rfl (lv_room (Nat.le_of_ble_eq_true rfl)) dX10_rule_46 ⟨Nat.le_of_ble_eq_true rfl, Nat.le_of_ble_eq_true rfl⟩) hm hS hA (fun r_52 st_52 H locs hw_52 hM hS => ?_)
        obtain ⟨n_52, hw_52⟩ := hw_52
        have n_52 := gBN.nil n_52
        subst n_52
        rcases hw_52 with rfl | rfl
        · skip
          refine lv_if_eq (tgt := 56) hx hb dX10_rule_49 (by decide) (fun h9 => absurd h9 (by decide)) (fun _ => ?_)
          refine lv_iconst (v := 3) hx hb dX10_rule_52 (by decide) ?_
          refine lv_goto (tgt := 71) hx hb dX10_rule_53 (by decide) ?_
          refine lv_istore_n (lv' := [(1, .int 3), (0, .ref (ad 0 0))]) hx hb dX10_rule_71 rfl hl (by decide) rfl (fun ls hl => ?_)
          refine lv_iload_n hx hb dX10_rule_72 rfl (lv_at hl 0 rfl) ?_
          refine lv_if_ge (tgt := 81) hx hb dX10_rule_73 (by decide) (fun _ => ?_) (fun h9 => absurd (by decide) h9)
          refine lv_aload_n hx hb dX10_rule_81 rfl (lv_at hl 1 rfl) ?_
          refine gs_get (C := RX10) (T := TX10) (N := 59) hx hb hts inX10 hown hK hM 0 0 30 (by decide) rfl rfl (by decide) (hts _ gm_927) (fun _ h9 => h9) rfl dX10_rule_82 ?_
          have bf_53 : (0 : Int) ≤ (st 0 0 30).toInt ∧ (st 0 0 30).toInt ≤ (20 : Int) := hB_st.1 0 0 30
          refine lv_bipush (v := 20) hx hb dX10_rule_85 (by decide) ?_
          refine lv_icmp_ne (tgt := 100) hx hb dX10_rule_87 (by decide) (fun c_54 => ?_) (fun c_54 => ?_)
          · have ic_54 := gz_ne (rfl : (st 0 0 30).toInt = (st 0 0 30).toInt) (by decide : (20 : Int32).toInt = 20) c_54
            refine lv_bipush (v := 24) hx hb dX10_rule_100 (by decide) ?_
            refine lv_aload_n hx hb dX10_rule_102 rfl (lv_at hl 1 rfl) ?_
            refine gs_get (C := RX10) (T := TX10) (N := 59) hx hb hts inX10 hown hK hM 0 0 28 (by decide) rfl rfl (by decide) (hts _ gm_925) (fun _ h9 => h9) rfl dX10_rule_103 ?_
            have bf_55 : (0 : Int) ≤ (st 0 0 28).toInt ∧ (st 0 0 28).toInt ≤ (1 : Int) := hB_st.1 0 0 28
            refine lv_imul hx hb dX10_rule_106 ?_
            refine lv_topi (fun x_56 ex_56 => ?_)
            try have tx_56 : x_56.toInt = 24 * (st 0 0 28).toInt := by rw [ex_56]; exact gz_mulI (x := 24) (y := (st 0 0 28).toInt) (by decide) rfl (by omega) (by omega)
            refine lv_aload_n hx hb dX10_rule_107 rfl (lv_at hl 1 rfl) ?_
            refine gs_get (C := RX10) (T := TX10) (N := 59) hx hb hts inX10 hown hK hM 0 0 30 (by decide) rfl rfl (by decide) (hts _ gm_927) (fun _ h9 => h9) rfl dX10_rule_108 ?_
            have bf_57 : (0 : Int) ≤ (st 0 0 30).toInt ∧ (st 0 0 30).toInt ≤ (20 : Int) := hB_st.1 0 0 30
            refine lv_iadd hx hb dX10_rule_111 ?_
            refine lv_topi (fun x_58 ex_58 => ?_)
            try have tx_58 : x_58.toInt = x_56.toInt + (st 0 0 30).toInt := by rw [ex_58]; exact gz_addI (x := x_56.toInt) (y := (st 0 0 30).toInt) rfl rfl (by omega) (by omega)
            refine lv_istore_n (lv' := [(2, .int x_58), (1, .int 3), (0, .ref (ad 0 0))]) hx hb dX10_rule_112 rfl hl (by decide) rfl (fun ls hl => ?_)
            refine lv_aload_n hx hb dX10_rule_113 rfl (lv_at hl 2 rfl) ?_
            refine gs_get (C := RX10) (T := TX10) (N := 59) hx hb hts inX10 hown hK hM 0 0 20 (by decide) rfl rfl (by decide) (hts _ gm_917) (fun _ h9 => h9) rfl dX10_rule_114 ?_
            refine lv_iload_n hx hb dX10_rule_117 rfl (lv_at hl 0 rfl) ?_
            refine lv_iload_n hx hb dX10_rule_118 rfl (lv_at hl 1 rfl) ?_
            refine gs_iast hx hb hK hI hm hM hS 8 0 (by decide) (fun _ => rfl) (vp_in_iff.mpr ⟨by omega, by omega⟩) dX10_rule_119 (fun st_59 H locs est_59 hM hS => ?_)
            have hB_st_59 : gBN bM kM [11, 12, 13, 14, 15, 16, 17, 18, 19, 30, 59, 800, 900, 1000, 1100, 1200, 1300, 1400, 1500] st st_59 := by rw [est_59]; exact hB_st.up (show (800 : Nat) ∈ _ from by decide) (gi_lo _) (gi_hi _)
            refine lv_aload_n hx hb dX10_rule_120 rfl (lv_at hl 2 rfl) ?_
            refine gs_callv (va_runV (As := []) (rest := []) ⟨hx, hb, hml, hown, hts⟩ (m_next0 l G cy sK sV ad H.size st_59 hB_st_59.1  ) ⟨(gz_cb (n := 0) hts gm_1096 gm_12 gm_1099 ⟨by decide +kernel, by decide +kernel, by decide +kernel⟩ ⟨Nat.le_of_ble_eq_true rfl, Nat.le_of_ble_eq_true rfl⟩), hts _ gm_1098, hts _ gs_32⟩ (gs_preV hK hov hE hI hM hm hS hA 0 0 (by decide) rfl rfl) rfl rfl hl.1 rfl (lv_room (Nat.le_of_ble_eq_true rfl)) dX10_rule_121 ⟨Nat.le_of_ble_eq_true rfl, Nat.le_of_ble_eq_true rfl⟩) hm hS hA (fun st_60 H locs hw_60 hM hS => ?_)
            obtain ⟨n_60, hw_60⟩ := hw_60
            have hB_st_60 : gBN bM kM [11, 12, 13, 14, 15, 16, 17, 18, 19, 30, 59, 800, 900, 1000, 1100, 1200, 1300, 1400, 1500] st st_60 := hB_st_59.call n_60 (by decide)
            refine lv_iload_n hx hb dX10_rule_124 rfl (lv_at hl 1 rfl) ?_
            refine lv_if_ne (tgt := 136) hx hb dX10_rule_125 (by decide) (fun _ => ?_) (fun h9 => absurd h9 (by decide))
            refine lv_iload_n hx hb dX10_rule_136 rfl (lv_at hl 1 rfl) ?_
            refine lv_iconst (v := 1) hx hb dX10_rule_137 (by decide) ?_
            refine lv_icmp_ne (tgt := 149) hx hb dX10_rule_138 (by decide) (fun _ => ?_) (fun h9 => absurd h9 (by decide))
            refine lv_iload_n hx hb dX10_rule_149 rfl (lv_at hl 1 rfl) ?_
            refine lv_iconst (v := 2) hx hb dX10_rule_150 (by decide) ?_
            refine lv_icmp_ne (tgt := 162) hx hb dX10_rule_151 (by decide) (fun _ => ?_) (fun h9 => absurd h9 (by decide))
            refine lv_iload_n hx hb dX10_rule_162 rfl (lv_at hl 1 rfl) ?_
            refine lv_iconst (v := 3) hx hb dX10_rule_163 (by decide) ?_
            refine lv_icmp_ne (tgt := 175) hx hb dX10_rule_164 (by decide) (fun h9 => absurd (by decide) h9) (fun _ => ?_)
            refine lv_aload_n hx hb dX10_rule_167 rfl (lv_at hl 2 rfl) ?_
            refine lv_iload_n hx hb dX10_rule_168 rfl (lv_at hl 0 rfl) ?_
            refine gs_calli (va_runV (As := [.int x_58]) (rest := []) ⟨hx, hb, hml, hown, hts⟩ (m_drought l G cy sK sV ad H.size st_60 hB_st_60.1 x_58 x_58.toInt rfl (by first | decide | omega) (by first | decide | omega)) ⟨(gz_cb (n := 1) hts gm_1163 gm_12 gm_1166 ⟨by decide +kernel, by decide +kernel, by decide +kernel⟩ ⟨Nat.le_of_ble_eq_true rfl, Nat.le_of_ble_eq_true rfl⟩), hts _ gm_1165, hts _ gs_45⟩ (gs_preV hK hov hE hI hM hm hS hA 0 0 (by decide) rfl rfl) rfl rfl hl.1 rfl (lv_room (Nat.le_of_ble_eq_true rfl)) dX10_rule_169 ⟨Nat.le_of_ble_eq_true rfl, Nat.le_of_ble_eq_true rfl⟩) hm hS hA (fun r_61 st_61 H locs hw_61 hM hS => ?_)
            obtain ⟨n_61, hw_61⟩ := hw_61
            have hB_st_61 : gBN bM kM [11, 12, 13, 14, 15, 16, 17, 18, 19, 30, 59, 800, 900, 1000, 1100, 1200, 1300, 1400, 1500] st st_61 := hB_st_60.call n_61 (by decide)
            rcases hw_61 with rfl | rfl
            · skip
              refine lv_goto (tgt := 180) hx hb dX10_rule_172 (by decide) ?_
              refine lv_istore_n (lv' := [(3, .int 1), (2, .int x_58), (1, .int 3), (0, .ref (ad 0 0))]) hx hb dX10_rule_180 rfl hl (by decide) rfl (fun ls hl => ?_)
              refine lv_iload_n hx hb dX10_rule_181 rfl (lv_at hl 0 rfl) ?_
              refine lv_if_eq (tgt := 194) hx hb dX10_rule_182 (by decide) (fun h9 => absurd h9 (by decide)) (fun _ => ?_)
              refine lv_aload_n hx hb dX10_rule_185 rfl (lv_at hl 3 rfl) ?_
              refine lv_bipush (v := 59) hx hb dX10_rule_186 (by decide) ?_
              refine gs_calli (va_runV (As := [.int 59]) (rest := []) ⟨hx, hb, hml, hown, hts⟩ (m_must l G cy sK sV ad H.size st_61 hB_st_61.1 (59 : Int32) 59 (by decide) ) ⟨(gz_cb (n := 1) hts gm_1139 gm_12 gm_1142 ⟨by decide +kernel, by decide +kernel, by decide +kernel⟩ ⟨Nat.le_of_ble_eq_true rfl, Nat.le_of_ble_eq_true rfl⟩), hts _ gm_1141, hts _ gs_40⟩ (gs_preV hK hov hE hI hM hm hS hA 0 0 (by decide) rfl rfl) rfl rfl hl.1 rfl (lv_room (Nat.le_of_ble_eq_true rfl)) dX10_rule_188 ⟨Nat.le_of_ble_eq_true rfl, Nat.le_of_ble_eq_true rfl⟩) hm hS hA (fun r_62 st_62 H locs hw_62 hM hS => ?_)
              obtain ⟨n_62, hw_62⟩ := hw_62
              have hB_st_62 : gBN bM kM [11, 12, 13, 14, 15, 16, 17, 18, 19, 30, 59, 800, 900, 1000, 1100, 1200, 1300, 1400, 1500] st st_62 := hB_st_61.call n_62 (by decide)
              rcases hw_62 with rfl | rfl
              · skip
                refine lv_if_ne (tgt := 196) hx hb dX10_rule_191 (by decide) (fun _ => ?_) (fun h9 => absurd h9 (by decide))
                refine lv_aload_n hx hb dX10_rule_196 rfl (lv_at hl 3 rfl) ?_
                refine lv_dup hx hb dX10_rule_197 rfl ?_
                refine gs_get (C := RX10) (T := TX10) (N := 59) hx hb hts inX10 hown hK hM 0 0 30 (by decide) rfl rfl (by decide) (hts _ gm_927) (fun _ h9 => h9) rfl dX10_rule_198 ?_
                refine lv_topi (fun x_63 ex_63 => ?_)
                have ex_63 : (st 0 0 30) = x_63 := Eq.symm (ex_63.trans ((n_62.2 0 0 30 (show (30 : Nat) ∉ _ from by decide)).trans ((n_61.2 0 0 30 (show (30 : Nat) ∉ _ from by decide)).trans ((n_60.2 0 0 30 (show (30 : Nat) ∉ _ from by decide)).trans ((congrFun (congrFun (congrFun est_59 0) 0) 30).trans (congrFun (congrFun (gU_k (by decide)) 0) 30))))))
                subst ex_63
                have bf_64 : (0 : Int) ≤ (st 0 0 30).toInt ∧ (st 0 0 30).toInt ≤ (20 : Int) := hB_st.1 0 0 30
                refine lv_iconst (v := 1) hx hb dX10_rule_201 (by decide) ?_
                refine lv_iadd hx hb dX10_rule_202 ?_
                refine lv_topi (fun x_65 ex_65 => ?_)
                try have tx_65 : x_65.toInt = (st 0 0 30).toInt + 1 := by rw [ex_65]; exact gz_addP (x := (st 0 0 30).toInt) (y := 1) rfl (by decide) (by omega) (by omega)
                refine gs_put (C := RX10) (T := TX10) (N := 59) (ty := .int) (val := .int x_65) hx hb hts inX10 tyX10 tyX10_ok nmX10 hown hK hI hm hM hS 0 0 30 (by decide) rfl rfl (by decide) (hts _ gm_927) (fun _ h9 => h9) rfl (x_65 : Int32) rfl (by decide +kernel) rfl rfl (Nat.le_of_ble_eq_true rfl) dX10_rule_203 (fun st_66 H locs est_66 hM hS => ?_)
                have hB_st_66 : gBN bM kM [11, 12, 13, 14, 15, 16, 17, 18, 19, 30, 59, 800, 900, 1000, 1100, 1200, 1300, 1400, 1500] st st_66 := by rw [est_66]; exact hB_st_62.up (show (30 : Nat) ∈ _ from by decide) (show (0 : Int) ≤ x_65.toInt from by omega) (show x_65.toInt ≤ (20 : Int) from by omega)
                refine lv_iconst (v := 1) hx hb dX10_rule_206 (by decide) ?_
                exact gs_iret hx hb hr hlocks hM hS (by decide) ⟨hB_st_66, (Or.inl ⟨rfl, (by have hl0 : (1 : Int32).toInt = 1 := (by decide); have hq1 : (st_66 0 0 30).toInt = (x_65 : Int32).toInt := congrArg Int32.toInt (((congrFun (congrFun (congrFun est_66 0) 0) 30).trans (gU_same _ _ _ _ _))); have hb2 : (0 : Int) ≤ (st_66 0 0 30).toInt ∧ (st_66 0 0 30).toInt ≤ (20 : Int) := hB_st_66.1 0 0 30; have hb3 : (0 : Int) ≤ (st 0 0 30).toInt ∧ (st 0 0 30).toInt ≤ (20 : Int) := hB_st.1 0 0 30; omega), (by rw [show st_66 13 0 = (st 13 0) from ((congrFun (congrFun est_66 13) 0).trans ((congrFun (gU_k (by decide)) 0).trans ((funext (fun j9 => n_62.2 13 0 j9 (show (1300 : Nat) ∉ _ from by decide))).trans ((funext (fun j9 => n_61.2 13 0 j9 (show (1300 : Nat) ∉ _ from by decide))).trans ((funext (fun j9 => n_60.2 13 0 j9 (show (1300 : Nat) ∉ _ from by decide))).trans ((congrFun (congrFun est_59 13) 0).trans ((congrFun (gU_k (by decide)) 0).trans rfl))))))), show st_66 15 0 = (st 15 0) from ((congrFun (congrFun est_66 15) 0).trans ((congrFun (gU_k (by decide)) 0).trans ((funext (fun j9 => n_62.2 15 0 j9 (show (1500 : Nat) ∉ _ from by decide))).trans ((funext (fun j9 => n_61.2 15 0 j9 (show (1500 : Nat) ∉ _ from by decide))).trans ((funext (fun j9 => n_60.2 15 0 j9 (show (1500 : Nat) ∉ _ from by decide))).trans ((congrFun (congrFun est_59 15) 0).trans ((congrFun (gU_k (by decide)) 0).trans rfl)))))))]; exact htd), (by rw [show st_66 8 0 = (upd (st 8 0) (x_58.toNatClampNeg) (3 : Int32)) from ((congrFun (congrFun est_66 8) 0).trans ((congrFun (gU_k (by decide)) 0).trans ((funext (fun j9 => n_62.2 8 0 j9 (show (800 : Nat) ∉ _ from by decide))).trans ((funext (fun j9 => n_61.2 8 0 j9 (show (800 : Nat) ∉ _ from by decide))).trans ((funext (fun j9 => n_60.2 8 0 j9 (show (800 : Nat) ∉ _ from by decide))).trans ((congrFun (congrFun est_59 8) 0).trans ((gU_at _ _ _ _ _).trans (congrArg (fun f9 => upd f9 (x_58.toNatClampNeg) (3 : Int32)) rfl)))))))), show st_66 13 0 = (st 13 0) from ((congrFun (congrFun est_66 13) 0).trans ((congrFun (gU_k (by decide)) 0).trans ((funext (fun j9 => n_62.2 13 0 j9 (show (1300 : Nat) ∉ _ from by decide))).trans ((funext (fun j9 => n_61.2 13 0 j9 (show (1300 : Nat) ∉ _ from by decide))).trans ((funext (fun j9 => n_60.2 13 0 j9 (show (1300 : Nat) ∉ _ from by decide))).trans ((congrFun (congrFun est_59 13) 0).trans ((congrFun (gU_k (by decide)) 0).trans rfl)))))))]; exact mAct_new hac mPos.rf (by omega) (by omega) (fun h9 => absurd h9 (by decide))), (by rw [show st_66 8 0 = (upd (st 8 0) (x_58.toNatClampNeg) (3 : Int32)) from ((congrFun (congrFun est_66 8) 0).trans ((congrFun (gU_k (by decide)) 0).trans ((funext (fun j9 => n_62.2 8 0 j9 (show (800 : Nat) ∉ _ from by decide))).trans ((funext (fun j9 => n_61.2 8 0 j9 (show (800 : Nat) ∉ _ from by decide))).trans ((funext (fun j9 => n_60.2 8 0 j9 (show (800 : Nat) ∉ _ from by decide))).trans ((congrFun (congrFun est_59 8) 0).trans ((gU_at _ _ _ _ _).trans (congrArg (fun f9 => upd f9 (x_58.toNatClampNeg) (3 : Int32)) rfl)))))))), show st_66 13 0 = (st 13 0) from ((congrFun (congrFun est_66 13) 0).trans ((congrFun (gU_k (by decide)) 0).trans ((funext (fun j9 => n_62.2 13 0 j9 (show (1300 : Nat) ∉ _ from by decide))).trans ((funext (fun j9 => n_61.2 13 0 j9 (show (1300 : Nat) ∉ _ from by decide))).trans ((funext (fun j9 => n_60.2 13 0 j9 (show (1300 : Nat) ∉ _ from by decide))).trans ((congrFun (congrFun est_59 13) 0).trans ((congrFun (gU_k (by decide)) 0).trans rfl)))))))]; exact mAct_keep hao mPos.rf (by omega) (by omega))⟩)⟩ (by exact Nat.le_refl _) (by exact Nat.le_refl _) dX10_rule_207
              · skip
                refine lv_if_ne (tgt := 196) hx hb dX10_rule_191 (by decide) (fun h9 => absurd (by decide) h9) (fun _ => ?_)
                refine lv_iconst (v := 0) hx hb dX10_rule_194 (by decide) ?_
                exact gs_iret hx hb hr hlocks hM hS (by decide) ⟨hB_st_62, (Or.inr ⟨rfl, (by have hl0 : (0 : Int32).toInt = 0 := (by decide); have hq1 : (st_62 0 0 30).toInt = ((st 0 0 30) : Int32).toInt := congrArg Int32.toInt (((n_62.2 0 0 30 (show (30 : Nat) ∉ _ from by decide)).trans ((n_61.2 0 0 30 (show (30 : Nat) ∉ _ from by decide)).trans ((n_60.2 0 0 30 (show (30 : Nat) ∉ _ from by decide)).trans ((congrFun (congrFun (congrFun est_59 0) 0) 30).trans (congrFun (congrFun (gU_k (by decide)) 0) 30)))))); have hb2 : (0 : Int) ≤ (st_62 0 0 30).toInt ∧ (st_62 0 0 30).toInt ≤ (20 : Int) := hB_st_62.1 0 0 30; have hb3 : (0 : Int) ≤ (st 0 0 30).toInt ∧ (st 0 0 30).toInt ≤ (20 : Int) := hB_st.1 0 0 30; omega), (by rw [show st_62 13 0 = (st 13 0) from ((funext (fun j9 => n_62.2 13 0 j9 (show (1300 : Nat) ∉ _ from by decide))).trans ((funext (fun j9 => n_61.2 13 0 j9 (show (1300 : Nat) ∉ _ from by decide))).trans ((funext (fun j9 => n_60.2 13 0 j9 (show (1300 : Nat) ∉ _ from by decide))).trans ((congrFun (congrFun est_59 13) 0).trans ((congrFun (gU_k (by decide)) 0).trans rfl))))), show st_62 15 0 = (st 15 0) from ((funext (fun j9 => n_62.2 15 0 j9 (show (1500 : Nat) ∉ _ from by decide))).trans ((funext (fun j9 => n_61.2 15 0 j9 (show (1500 : Nat) ∉ _ from by decide))).trans ((funext (fun j9 => n_60.2 15 0 j9 (show (1500 : Nat) ∉ _ from by decide))).trans ((congrFun (congrFun est_59 15) 0).trans ((congrFun (gU_k (by decide)) 0).trans rfl)))))]; exact htd), (by rw [show st_62 8 0 = (upd (st 8 0) (x_58.toNatClampNeg) (3 : Int32)) from ((funext (fun j9 => n_62.2 8 0 j9 (show (800 : Nat) ∉ _ from by decide))).trans ((funext (fun j9 => n_61.2 8 0 j9 (show (800 : Nat) ∉ _ from by decide))).trans ((funext (fun j9 => n_60.2 8 0 j9 (show (800 : Nat) ∉ _ from by decide))).trans ((congrFun (congrFun est_59 8) 0).trans ((gU_at _ _ _ _ _).trans (congrArg (fun f9 => upd f9 (x_58.toNatClampNeg) (3 : Int32)) rfl)))))), show st_62 13 0 = (st 13 0) from ((funext (fun j9 => n_62.2 13 0 j9 (show (1300 : Nat) ∉ _ from by decide))).trans ((funext (fun j9 => n_61.2 13 0 j9 (show (1300 : Nat) ∉ _ from by decide))).trans ((funext (fun j9 => n_60.2 13 0 j9 (show (1300 : Nat) ∉ _ from by decide))).trans ((congrFun (congrFun est_59 13) 0).trans ((congrFun (gU_k (by decide)) 0).trans rfl)))))]; exact mAct_keep hac mPos.rf (by omega) (by omega)), (by rw [show st_62 8 0 = (upd (st 8 0) (x_58.toNatClampNeg) (3 : Int32)) from ((funext (fun j9 => n_62.2 8 0 j9 (show (800 : Nat) ∉ _ from by decide))).trans ((funext (fun j9 => n_61.2 8 0 j9 (show (800 : Nat) ∉ _ from by decide))).trans ((funext (fun j9 => n_60.2 8 0 j9 (show (800 : Nat) ∉ _ from by decide))).trans ((congrFun (congrFun est_59 8) 0).trans ((gU_at _ _ _ _ _).trans (congrArg (fun f9 => upd f9 (x_58.toNatClampNeg) (3 : Int32)) rfl)))))), show st_62 13 0 = (st 13 0) from ((funext (fun j9 => n_62.2 13 0 j9 (show (1300 : Nat) ∉ _ from by decide))).trans ((funext (fun j9 => n_61.2 13 0 j9 (show (1300 : Nat) ∉ _ from by decide))).trans ((funext (fun j9 => n_60.2 13 0 j9 (show (1300 : Nat) ∉ _ from by decide))).trans ((congrFun (congrFun est_59 13) 0).trans ((congrFun (gU_k (by decide)) 0).trans rfl)))))]; exact mAct_keep hao mPos.rf (by omega) (by omega))⟩)⟩ (by exact Nat.le_refl _) (by exact Nat.le_refl _) dX10_rule_195
            · skip
              refine lv_goto (tgt := 180) hx hb dX10_rule_172 (by decide) ?_
              refine lv_istore_n (lv' := [(3, .int 0), (2, .int x_58), (1, .int 3), (0, .ref (ad 0 0))]) hx hb dX10_rule_180 rfl hl (by decide) rfl (fun ls hl => ?_)
              refine lv_iload_n hx hb dX10_rule_181 rfl (lv_at hl 0 rfl) ?_
              refine lv_if_eq (tgt := 194) hx hb dX10_rule_182 (by decide) (fun _ => ?_) (fun h9 => absurd (by decide) h9)
              refine lv_iconst (v := 0) hx hb dX10_rule_194 (by decide) ?_
              exact gs_iret hx hb hr hlocks hM hS (by decide) ⟨hB_st_61, (Or.inr ⟨rfl, (by have hl0 : (0 : Int32).toInt = 0 := (by decide); have hq1 : (st_61 0 0 30).toInt = ((st 0 0 30) : Int32).toInt := congrArg Int32.toInt (((n_61.2 0 0 30 (show (30 : Nat) ∉ _ from by decide)).trans ((n_60.2 0 0 30 (show (30 : Nat) ∉ _ from by decide)).trans ((congrFun (congrFun (congrFun est_59 0) 0) 30).trans (congrFun (congrFun (gU_k (by decide)) 0) 30))))); have hb2 : (0 : Int) ≤ (st_61 0 0 30).toInt ∧ (st_61 0 0 30).toInt ≤ (20 : Int) := hB_st_61.1 0 0 30; have hb3 : (0 : Int) ≤ (st 0 0 30).toInt ∧ (st 0 0 30).toInt ≤ (20 : Int) := hB_st.1 0 0 30; omega), (by rw [show st_61 13 0 = (st 13 0) from ((funext (fun j9 => n_61.2 13 0 j9 (show (1300 : Nat) ∉ _ from by decide))).trans ((funext (fun j9 => n_60.2 13 0 j9 (show (1300 : Nat) ∉ _ from by decide))).trans ((congrFun (congrFun est_59 13) 0).trans ((congrFun (gU_k (by decide)) 0).trans rfl)))), show st_61 15 0 = (st 15 0) from ((funext (fun j9 => n_61.2 15 0 j9 (show (1500 : Nat) ∉ _ from by decide))).trans ((funext (fun j9 => n_60.2 15 0 j9 (show (1500 : Nat) ∉ _ from by decide))).trans ((congrFun (congrFun est_59 15) 0).trans ((congrFun (gU_k (by decide)) 0).trans rfl))))]; exact htd), (by rw [show st_61 8 0 = (upd (st 8 0) (x_58.toNatClampNeg) (3 : Int32)) from ((funext (fun j9 => n_61.2 8 0 j9 (show (800 : Nat) ∉ _ from by decide))).trans ((funext (fun j9 => n_60.2 8 0 j9 (show (800 : Nat) ∉ _ from by decide))).trans ((congrFun (congrFun est_59 8) 0).trans ((gU_at _ _ _ _ _).trans (congrArg (fun f9 => upd f9 (x_58.toNatClampNeg) (3 : Int32)) rfl))))), show st_61 13 0 = (st 13 0) from ((funext (fun j9 => n_61.2 13 0 j9 (show (1300 : Nat) ∉ _ from by decide))).trans ((funext (fun j9 => n_60.2 13 0 j9 (show (1300 : Nat) ∉ _ from by decide))).trans ((congrFun (congrFun est_59 13) 0).trans ((congrFun (gU_k (by decide)) 0).trans rfl))))]; exact mAct_keep hac mPos.rf (by omega) (by omega)), (by rw [show st_61 8 0 = (upd (st 8 0) (x_58.toNatClampNeg) (3 : Int32)) from ((funext (fun j9 => n_61.2 8 0 j9 (show (800 : Nat) ∉ _ from by decide))).trans ((funext (fun j9 => n_60.2 8 0 j9 (show (800 : Nat) ∉ _ from by decide))).trans ((congrFun (congrFun est_59 8) 0).trans ((gU_at _ _ _ _ _).trans (congrArg (fun f9 => upd f9 (x_58.toNatClampNeg) (3 : Int32)) rfl))))), show st_61 13 0 = (st 13 0) from ((funext (fun j9 => n_61.2 13 0 j9 (show (1300 : Nat) ∉ _ from by decide))).trans ((funext (fun j9 => n_60.2 13 0 j9 (show (1300 : Nat) ∉ _ from by decide))).trans ((congrFun (congrFun est_59 13) 0).trans ((congrFun (gU_k (by decide)) 0).trans rfl))))]; exact mAct_keep hao mPos.rf (by omega) (by omega))⟩)⟩ (by exact Nat.le_refl _) (by exact Nat.le_refl _) dX10_rule_195
          · have ic_54 := gz_eqn (rfl : (st 0 0 30).toInt = (st 0 0 30).toInt) (by decide : (20 : Int32).toInt = 20) c_54
            refine lv_aload_n hx hb dX10_rule_90 rfl (lv_at hl 1 rfl) ?_
            refine lv_iconst (v := 4) hx hb dX10_rule_91 (by decide) ?_
            refine lv_aload_n hx hb dX10_rule_92 rfl (lv_at hl 1 rfl) ?_
            refine gs_get (C := RX10) (T := TX10) (N := 59) hx hb hts inX10 hown hK hM 0 0 13 (by decide) rfl rfl (by decide) (hts _ gm_910) (fun _ h9 => h9) rfl dX10_rule_93 ?_
            refine gs_calli (va_runV (As := [.int 4, .int (st 0 0 13)]) (rest := []) ⟨hx, hb, hml, hown, hts⟩ (m_wrong l G cy sK sV ad H.size st hB_st.1 (4 : Int32) (st 0 0 13) ) ⟨(gz_cb (n := 2) hts gm_1127 gm_12 gm_1130 ⟨by decide +kernel, by decide +kernel, by decide +kernel⟩ ⟨Nat.le_of_ble_eq_true rfl, Nat.le_of_ble_eq_true rfl⟩), hts _ gm_1129, hts _ gs_37⟩ (gs_preV hK hov hE hI hM hm hS hA 0 0 (by decide) rfl rfl) rfl rfl hl.1 rfl (lv_room (Nat.le_of_ble_eq_true rfl)) dX10_rule_96 ⟨Nat.le_of_ble_eq_true rfl, Nat.le_of_ble_eq_true rfl⟩) hm hS hA (fun r_68 st_68 H locs hw_68 hM hS => ?_)
            obtain ⟨n_68, hw_68⟩ := hw_68
            have hB_st_68 : gBN bM kM [11, 12, 13, 14, 15, 16, 17, 18, 19, 30, 59, 800, 900, 1000, 1100, 1200, 1300, 1400, 1500] st st_68 := hB_st.call n_68 (by decide)
            obtain rfl := hw_68
            exact gs_iret hx hb hr hlocks hM hS (by decide) ⟨hB_st_68, (Or.inr ⟨rfl, (by have hl0 : (0 : Int32).toInt = 0 := (by decide); have hq1 : (st_68 0 0 30).toInt = ((st 0 0 30) : Int32).toInt := congrArg Int32.toInt ((n_68.2 0 0 30 (show (30 : Nat) ∉ _ from by decide))); have hb2 : (0 : Int) ≤ (st_68 0 0 30).toInt ∧ (st_68 0 0 30).toInt ≤ (20 : Int) := hB_st_68.1 0 0 30; have hb3 : (0 : Int) ≤ (st 0 0 30).toInt ∧ (st 0 0 30).toInt ≤ (20 : Int) := hB_st.1 0 0 30; omega), (by rw [show st_68 13 0 = (st 13 0) from ((funext (fun j9 => n_68.2 13 0 j9 (show (1300 : Nat) ∉ _ from by decide))).trans rfl), show st_68 15 0 = (st 15 0) from ((funext (fun j9 => n_68.2 15 0 j9 (show (1500 : Nat) ∉ _ from by decide))).trans rfl)]; exact htd), (by rw [show st_68 8 0 = (st 8 0) from ((funext (fun j9 => n_68.2 8 0 j9 (show (800 : Nat) ∉ _ from by decide))).trans rfl), show st_68 13 0 = (st 13 0) from ((funext (fun j9 => n_68.2 13 0 j9 (show (1300 : Nat) ∉ _ from by decide))).trans rfl)]; exact mAct_pos hac mPos.rf), (by rw [show st_68 8 0 = (st 8 0) from ((funext (fun j9 => n_68.2 8 0 j9 (show (800 : Nat) ∉ _ from by decide))).trans rfl), show st_68 13 0 = (st 13 0) from ((funext (fun j9 => n_68.2 13 0 j9 (show (1300 : Nat) ∉ _ from by decide))).trans rfl)]; exact mAct_pos hao mPos.rf)⟩)⟩ (by exact Nat.le_refl _) (by exact Nat.le_refl _) dX10_rule_99
        · skip
          refine lv_if_eq (tgt := 56) hx hb dX10_rule_49 (by decide) (fun _ => ?_) (fun h9 => absurd (by decide) h9)
          refine lv_aload_n hx hb dX10_rule_56 rfl (lv_at hl 0 rfl) ?_
          refine lv_ldc2 (v := 6582905) hx hb hown (hts _ gm_1122) dX10_rule_57 ?_
          refine gs_calli (va_runV (As := [.long (6582905 : Int64)]) (rest := []) ⟨hx, hb, hml, hown, hts⟩ (m_isWord l G cy sK sV ad H.size st hB_st.1 (6582905 : Int64) ) ⟨(gz_cb (n := 1) hts gm_1115 gm_12 gm_1118 ⟨by decide +kernel, by decide +kernel, by decide +kernel⟩ ⟨Nat.le_of_ble_eq_true rfl, Nat.le_of_ble_eq_true rfl⟩), hts _ gm_1117, hts _ gs_35⟩ (gs_preV hK hov hE hI hM hm hS hA 0 0 (by decide) rfl rfl) rfl rfl hl.1 rfl (lv_room (Nat.le_of_ble_eq_true rfl)) dX10_rule_60 ⟨Nat.le_of_ble_eq_true rfl, Nat.le_of_ble_eq_true rfl⟩) hm hS hA (fun r_69 st_69 H locs hw_69 hM hS => ?_)
          obtain ⟨n_69, hw_69⟩ := hw_69
          have n_69 := gBN.nil n_69
          subst n_69
          rcases hw_69 with rfl | rfl
          · skip
            refine lv_if_eq (tgt := 70) hx hb dX10_rule_63 (by decide) (fun h9 => absurd h9 (by decide)) (fun _ => ?_)
            refine lv_iconst (v := 4) hx hb dX10_rule_66 (by decide) ?_
            refine lv_goto (tgt := 71) hx hb dX10_rule_67 (by decide) ?_
            refine lv_istore_n (lv' := [(1, .int 4), (0, .ref (ad 0 0))]) hx hb dX10_rule_71 rfl hl (by decide) rfl (fun ls hl => ?_)
            refine lv_iload_n hx hb dX10_rule_72 rfl (lv_at hl 0 rfl) ?_
            refine lv_if_ge (tgt := 81) hx hb dX10_rule_73 (by decide) (fun _ => ?_) (fun h9 => absurd (by decide) h9)
            refine lv_aload_n hx hb dX10_rule_81 rfl (lv_at hl 1 rfl) ?_
            refine gs_get (C := RX10) (T := TX10) (N := 59) hx hb hts inX10 hown hK hM 0 0 30 (by decide) rfl rfl (by decide) (hts _ gm_927) (fun _ h9 => h9) rfl dX10_rule_82 ?_
            have bf_70 : (0 : Int) ≤ (st 0 0 30).toInt ∧ (st 0 0 30).toInt ≤ (20 : Int) := hB_st.1 0 0 30
            refine lv_bipush (v := 20) hx hb dX10_rule_85 (by decide) ?_
            refine lv_icmp_ne (tgt := 100) hx hb dX10_rule_87 (by decide) (fun c_71 => ?_) (fun c_71 => ?_)
            · have ic_71 := gz_ne (rfl : (st 0 0 30).toInt = (st 0 0 30).toInt) (by decide : (20 : Int32).toInt = 20) c_71
              refine lv_bipush (v := 24) hx hb dX10_rule_100 (by decide) ?_
              refine lv_aload_n hx hb dX10_rule_102 rfl (lv_at hl 1 rfl) ?_
              refine gs_get (C := RX10) (T := TX10) (N := 59) hx hb hts inX10 hown hK hM 0 0 28 (by decide) rfl rfl (by decide) (hts _ gm_925) (fun _ h9 => h9) rfl dX10_rule_103 ?_
              have bf_72 : (0 : Int) ≤ (st 0 0 28).toInt ∧ (st 0 0 28).toInt ≤ (1 : Int) := hB_st.1 0 0 28
              refine lv_imul hx hb dX10_rule_106 ?_
              refine lv_topi (fun x_73 ex_73 => ?_)
              try have tx_73 : x_73.toInt = 24 * (st 0 0 28).toInt := by rw [ex_73]; exact gz_mulI (x := 24) (y := (st 0 0 28).toInt) (by decide) rfl (by omega) (by omega)
              refine lv_aload_n hx hb dX10_rule_107 rfl (lv_at hl 1 rfl) ?_
              refine gs_get (C := RX10) (T := TX10) (N := 59) hx hb hts inX10 hown hK hM 0 0 30 (by decide) rfl rfl (by decide) (hts _ gm_927) (fun _ h9 => h9) rfl dX10_rule_108 ?_
              have bf_74 : (0 : Int) ≤ (st 0 0 30).toInt ∧ (st 0 0 30).toInt ≤ (20 : Int) := hB_st.1 0 0 30
              refine lv_iadd hx hb dX10_rule_111 ?_
              refine lv_topi (fun x_75 ex_75 => ?_)
              try have tx_75 : x_75.toInt = x_73.toInt + (st 0 0 30).toInt := by rw [ex_75]; exact gz_addI (x := x_73.toInt) (y := (st 0 0 30).toInt) rfl rfl (by omega) (by omega)
              refine lv_istore_n (lv' := [(2, .int x_75), (1, .int 4), (0, .ref (ad 0 0))]) hx hb dX10_rule_112 rfl hl (by decide) rfl (fun ls hl => ?_)
              refine lv_aload_n hx hb dX10_rule_113 rfl (lv_at hl 2 rfl) ?_
              refine gs_get (C := RX10) (T := TX10) (N := 59) hx hb hts inX10 hown hK hM 0 0 20 (by decide) rfl rfl (by decide) (hts _ gm_917) (fun _ h9 => h9) rfl dX10_rule_114 ?_
              refine lv_iload_n hx hb dX10_rule_117 rfl (lv_at hl 0 rfl) ?_
              refine lv_iload_n hx hb dX10_rule_118 rfl (lv_at hl 1 rfl) ?_
              refine gs_iast hx hb hK hI hm hM hS 8 0 (by decide) (fun _ => rfl) (vp_in_iff.mpr ⟨by omega, by omega⟩) dX10_rule_119 (fun st_76 H locs est_76 hM hS => ?_)
              have hB_st_76 : gBN bM kM [11, 12, 13, 14, 15, 16, 17, 18, 19, 30, 59, 800, 900, 1000, 1100, 1200, 1300, 1400, 1500] st st_76 := by rw [est_76]; exact hB_st.up (show (800 : Nat) ∈ _ from by decide) (gi_lo _) (gi_hi _)
              refine lv_aload_n hx hb dX10_rule_120 rfl (lv_at hl 2 rfl) ?_
              refine gs_callv (va_runV (As := []) (rest := []) ⟨hx, hb, hml, hown, hts⟩ (m_next0 l G cy sK sV ad H.size st_76 hB_st_76.1  ) ⟨(gz_cb (n := 0) hts gm_1096 gm_12 gm_1099 ⟨by decide +kernel, by decide +kernel, by decide +kernel⟩ ⟨Nat.le_of_ble_eq_true rfl, Nat.le_of_ble_eq_true rfl⟩), hts _ gm_1098, hts _ gs_32⟩ (gs_preV hK hov hE hI hM hm hS hA 0 0 (by decide) rfl rfl) rfl rfl hl.1 rfl (lv_room (Nat.le_of_ble_eq_true rfl)) dX10_rule_121 ⟨Nat.le_of_ble_eq_true rfl, Nat.le_of_ble_eq_true rfl⟩) hm hS hA (fun st_77 H locs hw_77 hM hS => ?_)
              obtain ⟨n_77, hw_77⟩ := hw_77
              have hB_st_77 : gBN bM kM [11, 12, 13, 14, 15, 16, 17, 18, 19, 30, 59, 800, 900, 1000, 1100, 1200, 1300, 1400, 1500] st st_77 := hB_st_76.call n_77 (by decide)
              refine lv_iload_n hx hb dX10_rule_124 rfl (lv_at hl 1 rfl) ?_
              refine lv_if_ne (tgt := 136) hx hb dX10_rule_125 (by decide) (fun _ => ?_) (fun h9 => absurd h9 (by decide))
              refine lv_iload_n hx hb dX10_rule_136 rfl (lv_at hl 1 rfl) ?_
              refine lv_iconst (v := 1) hx hb dX10_rule_137 (by decide) ?_
              refine lv_icmp_ne (tgt := 149) hx hb dX10_rule_138 (by decide) (fun _ => ?_) (fun h9 => absurd h9 (by decide))
              refine lv_iload_n hx hb dX10_rule_149 rfl (lv_at hl 1 rfl) ?_
              refine lv_iconst (v := 2) hx hb dX10_rule_150 (by decide) ?_
              refine lv_icmp_ne (tgt := 162) hx hb dX10_rule_151 (by decide) (fun _ => ?_) (fun h9 => absurd h9 (by decide))
              refine lv_iload_n hx hb dX10_rule_162 rfl (lv_at hl 1 rfl) ?_
              refine lv_iconst (v := 3) hx hb dX10_rule_163 (by decide) ?_
              refine lv_icmp_ne (tgt := 175) hx hb dX10_rule_164 (by decide) (fun _ => ?_) (fun h9 => absurd h9 (by decide))
              refine lv_aload_n hx hb dX10_rule_175 rfl (lv_at hl 2 rfl) ?_
              refine lv_iload_n hx hb dX10_rule_176 rfl (lv_at hl 0 rfl) ?_
              refine gs_calli (va_runV (As := [.int x_75]) (rest := []) ⟨hx, hb, hml, hown, hts⟩ (m_dry l G cy sK sV ad H.size st_77 hB_st_77.1 x_75 x_75.toInt rfl (by first | decide | omega) (by first | decide | omega)) ⟨(gz_cb (n := 1) hts gm_1168 gm_12 gm_1171 ⟨by decide +kernel, by decide +kernel, by decide +kernel⟩ ⟨Nat.le_of_ble_eq_true rfl, Nat.le_of_ble_eq_true rfl⟩), hts _ gm_1170, hts _ gs_46⟩ (gs_preV hK hov hE hI hM hm hS hA 0 0 (by decide) rfl rfl) rfl rfl hl.1 rfl (lv_room (Nat.le_of_ble_eq_true rfl)) dX10_rule_177 ⟨Nat.le_of_ble_eq_true rfl, Nat.le_of_ble_eq_true rfl⟩) hm hS hA (fun r_78 st_78 H locs hw_78 hM hS => ?_)
              obtain ⟨n_78, hw_78⟩ := hw_78
              have hB_st_78 : gBN bM kM [11, 12, 13, 14, 15, 16, 17, 18, 19, 30, 59, 800, 900, 1000, 1100, 1200, 1300, 1400, 1500] st st_78 := hB_st_77.call n_78 (by decide)
              rcases hw_78 with rfl | rfl
              · skip
                refine lv_istore_n (lv' := [(3, .int 1), (2, .int x_75), (1, .int 4), (0, .ref (ad 0 0))]) hx hb dX10_rule_180 rfl hl (by decide) rfl (fun ls hl => ?_)
                refine lv_iload_n hx hb dX10_rule_181 rfl (lv_at hl 0 rfl) ?_
                refine lv_if_eq (tgt := 194) hx hb dX10_rule_182 (by decide) (fun h9 => absurd h9 (by decide)) (fun _ => ?_)
                refine lv_aload_n hx hb dX10_rule_185 rfl (lv_at hl 3 rfl) ?_
                refine lv_bipush (v := 59) hx hb dX10_rule_186 (by decide) ?_
                refine gs_calli (va_runV (As := [.int 59]) (rest := []) ⟨hx, hb, hml, hown, hts⟩ (m_must l G cy sK sV ad H.size st_78 hB_st_78.1 (59 : Int32) 59 (by decide) ) ⟨(gz_cb (n := 1) hts gm_1139 gm_12 gm_1142 ⟨by decide +kernel, by decide +kernel, by decide +kernel⟩ ⟨Nat.le_of_ble_eq_true rfl, Nat.le_of_ble_eq_true rfl⟩), hts _ gm_1141, hts _ gs_40⟩ (gs_preV hK hov hE hI hM hm hS hA 0 0 (by decide) rfl rfl) rfl rfl hl.1 rfl (lv_room (Nat.le_of_ble_eq_true rfl)) dX10_rule_188 ⟨Nat.le_of_ble_eq_true rfl, Nat.le_of_ble_eq_true rfl⟩) hm hS hA (fun r_79 st_79 H locs hw_79 hM hS => ?_)
                obtain ⟨n_79, hw_79⟩ := hw_79
                have hB_st_79 : gBN bM kM [11, 12, 13, 14, 15, 16, 17, 18, 19, 30, 59, 800, 900, 1000, 1100, 1200, 1300, 1400, 1500] st st_79 := hB_st_78.call n_79 (by decide)
                rcases hw_79 with rfl | rfl
                · skip
                  refine lv_if_ne (tgt := 196) hx hb dX10_rule_191 (by decide) (fun _ => ?_) (fun h9 => absurd h9 (by decide))
                  refine lv_aload_n hx hb dX10_rule_196 rfl (lv_at hl 3 rfl) ?_
                  refine lv_dup hx hb dX10_rule_197 rfl ?_
                  refine gs_get (C := RX10) (T := TX10) (N := 59) hx hb hts inX10 hown hK hM 0 0 30 (by decide) rfl rfl (by decide) (hts _ gm_927) (fun _ h9 => h9) rfl dX10_rule_198 ?_
                  refine lv_topi (fun x_80 ex_80 => ?_)
                  have ex_80 : (st 0 0 30) = x_80 := Eq.symm (ex_80.trans ((n_79.2 0 0 30 (show (30 : Nat) ∉ _ from by decide)).trans ((n_78.2 0 0 30 (show (30 : Nat) ∉ _ from by decide)).trans ((n_77.2 0 0 30 (show (30 : Nat) ∉ _ from by decide)).trans ((congrFun (congrFun (congrFun est_76 0) 0) 30).trans (congrFun (congrFun (gU_k (by decide)) 0) 30))))))
                  subst ex_80
                  have bf_81 : (0 : Int) ≤ (st 0 0 30).toInt ∧ (st 0 0 30).toInt ≤ (20 : Int) := hB_st.1 0 0 30
                  refine lv_iconst (v := 1) hx hb dX10_rule_201 (by decide) ?_
                  refine lv_iadd hx hb dX10_rule_202 ?_
                  refine lv_topi (fun x_82 ex_82 => ?_)
                  try have tx_82 : x_82.toInt = (st 0 0 30).toInt + 1 := by rw [ex_82]; exact gz_addP (x := (st 0 0 30).toInt) (y := 1) rfl (by decide) (by omega) (by omega)
                  refine gs_put (C := RX10) (T := TX10) (N := 59) (ty := .int) (val := .int x_82) hx hb hts inX10 tyX10 tyX10_ok nmX10 hown hK hI hm hM hS 0 0 30 (by decide) rfl rfl (by decide) (hts _ gm_927) (fun _ h9 => h9) rfl (x_82 : Int32) rfl (by decide +kernel) rfl rfl (Nat.le_of_ble_eq_true rfl) dX10_rule_203 (fun st_83 H locs est_83 hM hS => ?_)
                  have hB_st_83 : gBN bM kM [11, 12, 13, 14, 15, 16, 17, 18, 19, 30, 59, 800, 900, 1000, 1100, 1200, 1300, 1400, 1500] st st_83 := by rw [est_83]; exact hB_st_79.up (show (30 : Nat) ∈ _ from by decide) (show (0 : Int) ≤ x_82.toInt from by omega) (show x_82.toInt ≤ (20 : Int) from by omega)
                  refine lv_iconst (v := 1) hx hb dX10_rule_206 (by decide) ?_
                  exact gs_iret hx hb hr hlocks hM hS (by decide) ⟨hB_st_83, (Or.inl ⟨rfl, (by have hl0 : (1 : Int32).toInt = 1 := (by decide); have hq1 : (st_83 0 0 30).toInt = (x_82 : Int32).toInt := congrArg Int32.toInt (((congrFun (congrFun (congrFun est_83 0) 0) 30).trans (gU_same _ _ _ _ _))); have hb2 : (0 : Int) ≤ (st_83 0 0 30).toInt ∧ (st_83 0 0 30).toInt ≤ (20 : Int) := hB_st_83.1 0 0 30; have hb3 : (0 : Int) ≤ (st 0 0 30).toInt ∧ (st 0 0 30).toInt ≤ (20 : Int) := hB_st.1 0 0 30; omega), (by rw [show st_83 13 0 = (st 13 0) from ((congrFun (congrFun est_83 13) 0).trans ((congrFun (gU_k (by decide)) 0).trans ((funext (fun j9 => n_79.2 13 0 j9 (show (1300 : Nat) ∉ _ from by decide))).trans ((funext (fun j9 => n_78.2 13 0 j9 (show (1300 : Nat) ∉ _ from by decide))).trans ((funext (fun j9 => n_77.2 13 0 j9 (show (1300 : Nat) ∉ _ from by decide))).trans ((congrFun (congrFun est_76 13) 0).trans ((congrFun (gU_k (by decide)) 0).trans rfl))))))), show st_83 15 0 = (st 15 0) from ((congrFun (congrFun est_83 15) 0).trans ((congrFun (gU_k (by decide)) 0).trans ((funext (fun j9 => n_79.2 15 0 j9 (show (1500 : Nat) ∉ _ from by decide))).trans ((funext (fun j9 => n_78.2 15 0 j9 (show (1500 : Nat) ∉ _ from by decide))).trans ((funext (fun j9 => n_77.2 15 0 j9 (show (1500 : Nat) ∉ _ from by decide))).trans ((congrFun (congrFun est_76 15) 0).trans ((congrFun (gU_k (by decide)) 0).trans rfl)))))))]; exact htd), (by rw [show st_83 8 0 = (upd (st 8 0) (x_75.toNatClampNeg) (4 : Int32)) from ((congrFun (congrFun est_83 8) 0).trans ((congrFun (gU_k (by decide)) 0).trans ((funext (fun j9 => n_79.2 8 0 j9 (show (800 : Nat) ∉ _ from by decide))).trans ((funext (fun j9 => n_78.2 8 0 j9 (show (800 : Nat) ∉ _ from by decide))).trans ((funext (fun j9 => n_77.2 8 0 j9 (show (800 : Nat) ∉ _ from by decide))).trans ((congrFun (congrFun est_76 8) 0).trans ((gU_at _ _ _ _ _).trans (congrArg (fun f9 => upd f9 (x_75.toNatClampNeg) (4 : Int32)) rfl)))))))), show st_83 13 0 = (st 13 0) from ((congrFun (congrFun est_83 13) 0).trans ((congrFun (gU_k (by decide)) 0).trans ((funext (fun j9 => n_79.2 13 0 j9 (show (1300 : Nat) ∉ _ from by decide))).trans ((funext (fun j9 => n_78.2 13 0 j9 (show (1300 : Nat) ∉ _ from by decide))).trans ((funext (fun j9 => n_77.2 13 0 j9 (show (1300 : Nat) ∉ _ from by decide))).trans ((congrFun (congrFun est_76 13) 0).trans ((congrFun (gU_k (by decide)) 0).trans rfl)))))))]; exact mAct_new hac mPos.rf (by omega) (by omega) (fun h9 => absurd h9 (by decide))), (by rw [show st_83 8 0 = (upd (st 8 0) (x_75.toNatClampNeg) (4 : Int32)) from ((congrFun (congrFun est_83 8) 0).trans ((congrFun (gU_k (by decide)) 0).trans ((funext (fun j9 => n_79.2 8 0 j9 (show (800 : Nat) ∉ _ from by decide))).trans ((funext (fun j9 => n_78.2 8 0 j9 (show (800 : Nat) ∉ _ from by decide))).trans ((funext (fun j9 => n_77.2 8 0 j9 (show (800 : Nat) ∉ _ from by decide))).trans ((congrFun (congrFun est_76 8) 0).trans ((gU_at _ _ _ _ _).trans (congrArg (fun f9 => upd f9 (x_75.toNatClampNeg) (4 : Int32)) rfl)))))))), show st_83 13 0 = (st 13 0) from ((congrFun (congrFun est_83 13) 0).trans ((congrFun (gU_k (by decide)) 0).trans ((funext (fun j9 => n_79.2 13 0 j9 (show (1300 : Nat) ∉ _ from by decide))).trans ((funext (fun j9 => n_78.2 13 0 j9 (show (1300 : Nat) ∉ _ from by decide))).trans ((funext (fun j9 => n_77.2 13 0 j9 (show (1300 : Nat) ∉ _ from by decide))).trans ((congrFun (congrFun est_76 13) 0).trans ((congrFun (gU_k (by decide)) 0).trans rfl)))))))]; exact mAct_keep hao mPos.rf (by omega) (by omega))⟩)⟩ (by exact Nat.le_refl _) (by exact Nat.le_refl _) dX10_rule_207
                · skip
                  refine lv_if_ne (tgt := 196) hx hb dX10_rule_191 (by decide) (fun h9 => absurd (by decide) h9) (fun _ => ?_)
                  refine lv_iconst (v := 0) hx hb dX10_rule_194 (by decide) ?_
                  exact gs_iret hx hb hr hlocks hM hS (by decide) ⟨hB_st_79, (Or.inr ⟨rfl, (by have hl0 : (0 : Int32).toInt = 0 := (by decide); have hq1 : (st_79 0 0 30).toInt = ((st 0 0 30) : Int32).toInt := congrArg Int32.toInt (((n_79.2 0 0 30 (show (30 : Nat) ∉ _ from by decide)).trans ((n_78.2 0 0 30 (show (30 : Nat) ∉ _ from by decide)).trans ((n_77.2 0 0 30 (show (30 : Nat) ∉ _ from by decide)).trans ((congrFun (congrFun (congrFun est_76 0) 0) 30).trans (congrFun (congrFun (gU_k (by decide)) 0) 30)))))); have hb2 : (0 : Int) ≤ (st_79 0 0 30).toInt ∧ (st_79 0 0 30).toInt ≤ (20 : Int) := hB_st_79.1 0 0 30; have hb3 : (0 : Int) ≤ (st 0 0 30).toInt ∧ (st 0 0 30).toInt ≤ (20 : Int) := hB_st.1 0 0 30; omega), (by rw [show st_79 13 0 = (st 13 0) from ((funext (fun j9 => n_79.2 13 0 j9 (show (1300 : Nat) ∉ _ from by decide))).trans ((funext (fun j9 => n_78.2 13 0 j9 (show (1300 : Nat) ∉ _ from by decide))).trans ((funext (fun j9 => n_77.2 13 0 j9 (show (1300 : Nat) ∉ _ from by decide))).trans ((congrFun (congrFun est_76 13) 0).trans ((congrFun (gU_k (by decide)) 0).trans rfl))))), show st_79 15 0 = (st 15 0) from ((funext (fun j9 => n_79.2 15 0 j9 (show (1500 : Nat) ∉ _ from by decide))).trans ((funext (fun j9 => n_78.2 15 0 j9 (show (1500 : Nat) ∉ _ from by decide))).trans ((funext (fun j9 => n_77.2 15 0 j9 (show (1500 : Nat) ∉ _ from by decide))).trans ((congrFun (congrFun est_76 15) 0).trans ((congrFun (gU_k (by decide)) 0).trans rfl)))))]; exact htd), (by rw [show st_79 8 0 = (upd (st 8 0) (x_75.toNatClampNeg) (4 : Int32)) from ((funext (fun j9 => n_79.2 8 0 j9 (show (800 : Nat) ∉ _ from by decide))).trans ((funext (fun j9 => n_78.2 8 0 j9 (show (800 : Nat) ∉ _ from by decide))).trans ((funext (fun j9 => n_77.2 8 0 j9 (show (800 : Nat) ∉ _ from by decide))).trans ((congrFun (congrFun est_76 8) 0).trans ((gU_at _ _ _ _ _).trans (congrArg (fun f9 => upd f9 (x_75.toNatClampNeg) (4 : Int32)) rfl)))))), show st_79 13 0 = (st 13 0) from ((funext (fun j9 => n_79.2 13 0 j9 (show (1300 : Nat) ∉ _ from by decide))).trans ((funext (fun j9 => n_78.2 13 0 j9 (show (1300 : Nat) ∉ _ from by decide))).trans ((funext (fun j9 => n_77.2 13 0 j9 (show (1300 : Nat) ∉ _ from by decide))).trans ((congrFun (congrFun est_76 13) 0).trans ((congrFun (gU_k (by decide)) 0).trans rfl)))))]; exact mAct_keep hac mPos.rf (by omega) (by omega)), (by rw [show st_79 8 0 = (upd (st 8 0) (x_75.toNatClampNeg) (4 : Int32)) from ((funext (fun j9 => n_79.2 8 0 j9 (show (800 : Nat) ∉ _ from by decide))).trans ((funext (fun j9 => n_78.2 8 0 j9 (show (800 : Nat) ∉ _ from by decide))).trans ((funext (fun j9 => n_77.2 8 0 j9 (show (800 : Nat) ∉ _ from by decide))).trans ((congrFun (congrFun est_76 8) 0).trans ((gU_at _ _ _ _ _).trans (congrArg (fun f9 => upd f9 (x_75.toNatClampNeg) (4 : Int32)) rfl)))))), show st_79 13 0 = (st 13 0) from ((funext (fun j9 => n_79.2 13 0 j9 (show (1300 : Nat) ∉ _ from by decide))).trans ((funext (fun j9 => n_78.2 13 0 j9 (show (1300 : Nat) ∉ _ from by decide))).trans ((funext (fun j9 => n_77.2 13 0 j9 (show (1300 : Nat) ∉ _ from by decide))).trans ((congrFun (congrFun est_76 13) 0).trans ((congrFun (gU_k (by decide)) 0).trans rfl)))))]; exact mAct_keep hao mPos.rf (by omega) (by omega))⟩)⟩ (by exact Nat.le_refl _) (by exact Nat.le_refl _) dX10_rule_195
              · skip
                refine lv_istore_n (lv' := [(3, .int 0), (2, .int x_75), (1, .int 4), (0, .ref (ad 0 0))]) hx hb dX10_rule_180 rfl hl (by decide) rfl (fun ls hl => ?_)
                refine lv_iload_n hx hb dX10_rule_181 rfl (lv_at hl 0 rfl) ?_
                refine lv_if_eq (tgt := 194) hx hb dX10_rule_182 (by decide) (fun _ => ?_) (fun h9 => absurd (by decide) h9)
                refine lv_iconst (v := 0) hx hb dX10_rule_194 (by decide) ?_
                exact gs_iret hx hb hr hlocks hM hS (by decide) ⟨hB_st_78, (Or.inr ⟨rfl, (by have hl0 : (0 : Int32).toInt = 0 := (by decide); have hq1 : (st_78 0 0 30).toInt = ((st 0 0 30) : Int32).toInt := congrArg Int32.toInt (((n_78.2 0 0 30 (show (30 : Nat) ∉ _ from by decide)).trans ((n_77.2 0 0 30 (show (30 : Nat) ∉ _ from by decide)).trans ((congrFun (congrFun (congrFun est_76 0) 0) 30).trans (congrFun (congrFun (gU_k (by decide)) 0) 30))))); have hb2 : (0 : Int) ≤ (st_78 0 0 30).toInt ∧ (st_78 0 0 30).toInt ≤ (20 : Int) := hB_st_78.1 0 0 30; have hb3 : (0 : Int) ≤ (st 0 0 30).toInt ∧ (st 0 0 30).toInt ≤ (20 : Int) := hB_st.1 0 0 30; omega), (by rw [show st_78 13 0 = (st 13 0) from ((funext (fun j9 => n_78.2 13 0 j9 (show (1300 : Nat) ∉ _ from by decide))).trans ((funext (fun j9 => n_77.2 13 0 j9 (show (1300 : Nat) ∉ _ from by decide))).trans ((congrFun (congrFun est_76 13) 0).trans ((congrFun (gU_k (by decide)) 0).trans rfl)))), show st_78 15 0 = (st 15 0) from ((funext (fun j9 => n_78.2 15 0 j9 (show (1500 : Nat) ∉ _ from by decide))).trans ((funext (fun j9 => n_77.2 15 0 j9 (show (1500 : Nat) ∉ _ from by decide))).trans ((congrFun (congrFun est_76 15) 0).trans ((congrFun (gU_k (by decide)) 0).trans rfl))))]; exact htd), (by rw [show st_78 8 0 = (upd (st 8 0) (x_75.toNatClampNeg) (4 : Int32)) from ((funext (fun j9 => n_78.2 8 0 j9 (show (800 : Nat) ∉ _ from by decide))).trans ((funext (fun j9 => n_77.2 8 0 j9 (show (800 : Nat) ∉ _ from by decide))).trans ((congrFun (congrFun est_76 8) 0).trans ((gU_at _ _ _ _ _).trans (congrArg (fun f9 => upd f9 (x_75.toNatClampNeg) (4 : Int32)) rfl))))), show st_78 13 0 = (st 13 0) from ((funext (fun j9 => n_78.2 13 0 j9 (show (1300 : Nat) ∉ _ from by decide))).trans ((funext (fun j9 => n_77.2 13 0 j9 (show (1300 : Nat) ∉ _ from by decide))).trans ((congrFun (congrFun est_76 13) 0).trans ((congrFun (gU_k (by decide)) 0).trans rfl))))]; exact mAct_keep hac mPos.rf (by omega) (by omega)), (by rw [show st_78 8 0 = (upd (st 8 0) (x_75.toNatClampNeg) (4 : Int32)) from ((funext (fun j9 => n_78.2 8 0 j9 (show (800 : Nat) ∉ _ from by decide))).trans ((funext (fun j9 => n_77.2 8 0 j9 (show (800 : Nat) ∉ _ from by decide))).trans ((congrFun (congrFun est_76 8) 0).trans ((gU_at _ _ _ _ _).trans (congrArg (fun f9 => upd f9 (x_75.toNatClampNeg) (4 : Int32)) rfl))))), show st_78 13 0 = (st 13 0) from ((funext (fun j9 => n_78.2 13 0 j9 (show (1300 : Nat) ∉ _ from by decide))).trans ((funext (fun j9 => n_77.2 13 0 j9 (show (1300 : Nat) ∉ _ from by decide))).trans ((congrFun (congrFun est_76 13) 0).trans ((congrFun (gU_k (by decide)) 0).trans rfl))))]; exact mAct_keep hao mPos.rf (by omega) (by omega))⟩)⟩ (by exact Nat.le_refl _) (by exact Nat.le_refl _) dX10_rule_195
            · have ic_71 := gz_eqn (rfl : (st 0 0 30).toInt = (st 0 0 30).toInt) (by decide : (20 : Int32).toInt = 20) c_71
              refine lv_aload_n hx hb dX10_rule_90 rfl (lv_at hl 1 rfl) ?_
              refine lv_iconst (v := 4) hx hb dX10_rule_91 (by decide) ?_
              refine lv_aload_n hx hb dX10_rule_92 rfl (lv_at hl 1 rfl) ?_
              refine gs_get (C := RX10) (T := TX10) (N := 59) hx hb hts inX10 hown hK hM 0 0 13 (by decide) rfl rfl (by decide) (hts _ gm_910) (fun _ h9 => h9) rfl dX10_rule_93 ?_
              refine gs_calli (va_runV (As := [.int 4, .int (st 0 0 13)]) (rest := []) ⟨hx, hb, hml, hown, hts⟩ (m_wrong l G cy sK sV ad H.size st hB_st.1 (4 : Int32) (st 0 0 13) ) ⟨(gz_cb (n := 2) hts gm_1127 gm_12 gm_1130 ⟨by decide +kernel, by decide +kernel, by decide +kernel⟩ ⟨Nat.le_of_ble_eq_true rfl, Nat.le_of_ble_eq_true rfl⟩), hts _ gm_1129, hts _ gs_37⟩ (gs_preV hK hov hE hI hM hm hS hA 0 0 (by decide) rfl rfl) rfl rfl hl.1 rfl (lv_room (Nat.le_of_ble_eq_true rfl)) dX10_rule_96 ⟨Nat.le_of_ble_eq_true rfl, Nat.le_of_ble_eq_true rfl⟩) hm hS hA (fun r_85 st_85 H locs hw_85 hM hS => ?_)
              obtain ⟨n_85, hw_85⟩ := hw_85
              have hB_st_85 : gBN bM kM [11, 12, 13, 14, 15, 16, 17, 18, 19, 30, 59, 800, 900, 1000, 1100, 1200, 1300, 1400, 1500] st st_85 := hB_st.call n_85 (by decide)
              obtain rfl := hw_85
              exact gs_iret hx hb hr hlocks hM hS (by decide) ⟨hB_st_85, (Or.inr ⟨rfl, (by have hl0 : (0 : Int32).toInt = 0 := (by decide); have hq1 : (st_85 0 0 30).toInt = ((st 0 0 30) : Int32).toInt := congrArg Int32.toInt ((n_85.2 0 0 30 (show (30 : Nat) ∉ _ from by decide))); have hb2 : (0 : Int) ≤ (st_85 0 0 30).toInt ∧ (st_85 0 0 30).toInt ≤ (20 : Int) := hB_st_85.1 0 0 30; have hb3 : (0 : Int) ≤ (st 0 0 30).toInt ∧ (st 0 0 30).toInt ≤ (20 : Int) := hB_st.1 0 0 30; omega), (by rw [show st_85 13 0 = (st 13 0) from ((funext (fun j9 => n_85.2 13 0 j9 (show (1300 : Nat) ∉ _ from by decide))).trans rfl), show st_85 15 0 = (st 15 0) from ((funext (fun j9 => n_85.2 15 0 j9 (show (1500 : Nat) ∉ _ from by decide))).trans rfl)]; exact htd), (by rw [show st_85 8 0 = (st 8 0) from ((funext (fun j9 => n_85.2 8 0 j9 (show (800 : Nat) ∉ _ from by decide))).trans rfl), show st_85 13 0 = (st 13 0) from ((funext (fun j9 => n_85.2 13 0 j9 (show (1300 : Nat) ∉ _ from by decide))).trans rfl)]; exact mAct_pos hac mPos.rf), (by rw [show st_85 8 0 = (st 8 0) from ((funext (fun j9 => n_85.2 8 0 j9 (show (800 : Nat) ∉ _ from by decide))).trans rfl), show st_85 13 0 = (st 13 0) from ((funext (fun j9 => n_85.2 13 0 j9 (show (1300 : Nat) ∉ _ from by decide))).trans rfl)]; exact mAct_pos hao mPos.rf)⟩)⟩ (by exact Nat.le_refl _) (by exact Nat.le_refl _) dX10_rule_99
          · skip
            refine lv_if_eq (tgt := 70) hx hb dX10_rule_63 (by decide) (fun _ => ?_) (fun h9 => absurd (by decide) h9)
            refine lv_iconst (v := (-1)) hx hb dX10_rule_70 (by decide) ?_
            refine lv_istore_n (lv' := [(1, .int (-1)), (0, .ref (ad 0 0))]) hx hb dX10_rule_71 rfl hl (by decide) rfl (fun ls hl => ?_)
            refine lv_iload_n hx hb dX10_rule_72 rfl (lv_at hl 0 rfl) ?_
            refine lv_if_ge (tgt := 81) hx hb dX10_rule_73 (by decide) (fun h9 => absurd h9 (by decide)) (fun _ => ?_)
            refine lv_aload_n hx hb dX10_rule_76 rfl (lv_at hl 1 rfl) ?_
            refine gs_calli (va_runV (As := []) (rest := []) ⟨hx, hb, hml, hown, hts⟩ (m_cant l G cy sK sV ad H.size st hB_st.1  ) ⟨(gz_cb (n := 0) hts gm_1123 gm_12 gm_1126 ⟨by decide +kernel, by decide +kernel, by decide +kernel⟩ ⟨Nat.le_of_ble_eq_true rfl, Nat.le_of_ble_eq_true rfl⟩), hts _ gm_1125, hts _ gs_36⟩ (gs_preV hK hov hE hI hM hm hS hA 0 0 (by decide) rfl rfl) rfl rfl hl.1 rfl (lv_room (Nat.le_of_ble_eq_true rfl)) dX10_rule_77 ⟨Nat.le_of_ble_eq_true rfl, Nat.le_of_ble_eq_true rfl⟩) hm hS hA (fun r_86 st_86 H locs hw_86 hM hS => ?_)
            obtain ⟨n_86, hw_86⟩ := hw_86
            have hB_st_86 : gBN bM kM [11, 12, 13, 14, 15, 16, 17, 18, 19, 30, 59, 800, 900, 1000, 1100, 1200, 1300, 1400, 1500] st st_86 := hB_st.call n_86 (by decide)
            obtain rfl := hw_86
            exact gs_iret hx hb hr hlocks hM hS (by decide) ⟨hB_st_86, (Or.inr ⟨rfl, (by have hl0 : (0 : Int32).toInt = 0 := (by decide); have hq1 : (st_86 0 0 30).toInt = ((st 0 0 30) : Int32).toInt := congrArg Int32.toInt ((n_86.2 0 0 30 (show (30 : Nat) ∉ _ from by decide))); have hb2 : (0 : Int) ≤ (st_86 0 0 30).toInt ∧ (st_86 0 0 30).toInt ≤ (20 : Int) := hB_st_86.1 0 0 30; have hb3 : (0 : Int) ≤ (st 0 0 30).toInt ∧ (st 0 0 30).toInt ≤ (20 : Int) := hB_st.1 0 0 30; omega), (by rw [show st_86 13 0 = (st 13 0) from ((funext (fun j9 => n_86.2 13 0 j9 (show (1300 : Nat) ∉ _ from by decide))).trans rfl), show st_86 15 0 = (st 15 0) from ((funext (fun j9 => n_86.2 15 0 j9 (show (1500 : Nat) ∉ _ from by decide))).trans rfl)]; exact htd), (by rw [show st_86 8 0 = (st 8 0) from ((funext (fun j9 => n_86.2 8 0 j9 (show (800 : Nat) ∉ _ from by decide))).trans rfl), show st_86 13 0 = (st 13 0) from ((funext (fun j9 => n_86.2 13 0 j9 (show (1300 : Nat) ∉ _ from by decide))).trans rfl)]; exact mAct_pos hac mPos.rf), (by rw [show st_86 8 0 = (st 8 0) from ((funext (fun j9 => n_86.2 8 0 j9 (show (800 : Nat) ∉ _ from by decide))).trans rfl), show st_86 13 0 = (st 13 0) from ((funext (fun j9 => n_86.2 13 0 j9 (show (1300 : Nat) ∉ _ from by decide))).trans rfl)]; exact mAct_pos hao mPos.rf)⟩)⟩ (by exact Nat.le_refl _) (by exact Nat.le_refl _) dX10_rule_80
