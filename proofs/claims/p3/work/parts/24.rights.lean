theorem gm_903 : (Jvm.Cond.fieldLink "WellCourtModel" (30 : Nat) "WellCourtModel" "owner" "[I") ∈ gz_T := gz_at 903 (by decide +kernel) rfl
theorem gm_904 : (Jvm.Cond.fieldLink "WellCourtModel" (213 : Nat) "WellCourtModel" "day" "I") ∈ gz_T := gz_at 904 (by decide +kernel) rfl
theorem gm_926 : (Jvm.Cond.fieldLink "WellCourtModel" (210 : Nat) "WellCourtModel" "rules" "I") ∈ gz_T := gz_at 926 (by decide +kernel) rfl
theorem gm_1110 : (Jvm.Cond.methodLink "WellCourtModel" (207 : Nat) ({ cls := "WellCourtModel", name := "rule", desc := "()Z" } : Jvm.MethodName)) ∈ gz_T := gz_at 1110 (by decide +kernel) rfl
theorem gm_1112 : (Jvm.Cond.instanceMethod ({ cls := "WellCourtModel", name := "rule", desc := "()Z" } : Jvm.MethodName)) ∈ gz_T := gz_at 1112 (by decide +kernel) rfl
theorem gm_1113 : (Jvm.Cond.code ({ cls := "WellCourtModel", name := "rule", desc := "()Z" } : Jvm.MethodName) prog_12_method_20_code (4 : Nat) (Option.some Jvm.ClassFile.FieldType.boolean)) ∈ gz_T := gz_at 1113 (by decide +kernel) rfl
theorem gm_1173 : (Jvm.Cond.methodLink "WellCourtModel" (216 : Nat) ({ cls := "WellCourtModel", name := "byTurns", desc := "(II)I" } : Jvm.MethodName)) ∈ gz_T := gz_at 1173 (by decide +kernel) rfl
theorem gm_1175 : (Jvm.Cond.instanceMethod ({ cls := "WellCourtModel", name := "byTurns", desc := "(II)I" } : Jvm.MethodName)) ∈ gz_T := gz_at 1175 (by decide +kernel) rfl
theorem gm_1176 : (Jvm.Cond.code ({ cls := "WellCourtModel", name := "byTurns", desc := "(II)I" } : Jvm.MethodName) prog_12_method_27_code (7 : Nat) (Option.some Jvm.ClassFile.FieldType.int)) ∈ gz_T := gz_at 1176 (by decide +kernel) rfl
theorem gm_1177 : (Jvm.Cond.methodLink "WellCourtModel" (220 : Nat) ({ cls := "WellCourtModel", name := "droughts", desc := "()V" } : Jvm.MethodName)) ∈ gz_T := gz_at 1177 (by decide +kernel) rfl
theorem gm_1179 : (Jvm.Cond.instanceMethod ({ cls := "WellCourtModel", name := "droughts", desc := "()V" } : Jvm.MethodName)) ∈ gz_T := gz_at 1179 (by decide +kernel) rfl
theorem gm_1180 : (Jvm.Cond.code ({ cls := "WellCourtModel", name := "droughts", desc := "()V" } : Jvm.MethodName) prog_12_method_29_code (3 : Nat) (Option.none : Option Jvm.ClassFile.FieldType)) ∈ gz_T := gz_at 1180 (by decide +kernel) rfl
theorem gm_1181 : (Jvm.Cond.methodLink "WellCourtModel" (268 : Nat) ({ cls := "WellCourtModel", name := "byDrought", desc := "(II)I" } : Jvm.MethodName)) ∈ gz_T := gz_at 1181 (by decide +kernel) rfl
theorem gm_1183 : (Jvm.Cond.instanceMethod ({ cls := "WellCourtModel", name := "byDrought", desc := "(II)I" } : Jvm.MethodName)) ∈ gz_T := gz_at 1183 (by decide +kernel) rfl
theorem gm_1184 : (Jvm.Cond.code ({ cls := "WellCourtModel", name := "byDrought", desc := "(II)I" } : Jvm.MethodName) prog_12_method_28_code (4 : Nat) (Option.some Jvm.ClassFile.FieldType.int)) ∈ gz_T := gz_at 1184 (by decide +kernel) rfl
theorem gs_34 : (Jvm.Cond.selects "WellCourtModel" ({ cls := "WellCourtModel", name := "rule", desc := "()Z" } : Jvm.MethodName) ({ cls := "WellCourtModel", name := "rule", desc := "()Z" } : Jvm.MethodName)) ∈ gz_T := gz_sel 34 (by decide +kernel) rfl
theorem gs_47 : (Jvm.Cond.selects "WellCourtModel" ({ cls := "WellCourtModel", name := "byTurns", desc := "(II)I" } : Jvm.MethodName) ({ cls := "WellCourtModel", name := "byTurns", desc := "(II)I" } : Jvm.MethodName)) ∈ gz_T := gz_sel 47 (by decide +kernel) rfl
theorem gs_48 : (Jvm.Cond.selects "WellCourtModel" ({ cls := "WellCourtModel", name := "droughts", desc := "()V" } : Jvm.MethodName) ({ cls := "WellCourtModel", name := "droughts", desc := "()V" } : Jvm.MethodName)) ∈ gz_T := gz_sel 48 (by decide +kernel) rfl
theorem gs_49 : (Jvm.Cond.selects "WellCourtModel" ({ cls := "WellCourtModel", name := "byDrought", desc := "(II)I" } : Jvm.MethodName) ({ cls := "WellCourtModel", name := "byDrought", desc := "(II)I" } : Jvm.MethodName)) ∈ gz_T := gz_sel 49 (by decide +kernel) rfl
theorem dX10_byDrought_0 : decode cX10_byDrought 0 = .ok (.bipush 24, 2) := by decide +kernel
theorem dX10_byDrought_2 : decode cX10_byDrought 2 = .ok (.aload_n 0, 1) := by decide +kernel
theorem dX10_byDrought_3 : decode cX10_byDrought 3 = .ok (.getfield 201, 3) := by decide +kernel
theorem dX10_byDrought_6 : decode cX10_byDrought 6 = .ok (.imul, 1) := by decide +kernel
theorem dX10_byDrought_7 : decode cX10_byDrought 7 = .ok (.istore_n 3, 1) := by decide +kernel
theorem dX10_byDrought_8 : decode cX10_byDrought 8 = .ok (.iload_n 3, 1) := by decide +kernel
theorem dX10_byDrought_9 : decode cX10_byDrought 9 = .ok (.bipush 24, 2) := by decide +kernel
theorem dX10_byDrought_11 : decode cX10_byDrought 11 = .ok (.aload_n 0, 1) := by decide +kernel
theorem dX10_byDrought_12 : decode cX10_byDrought 12 = .ok (.getfield 201, 3) := by decide +kernel
theorem dX10_byDrought_15 : decode cX10_byDrought 15 = .ok (.imul, 1) := by decide +kernel
theorem dX10_byDrought_16 : decode cX10_byDrought 16 = .ok (.aload_n 0, 1) := by decide +kernel
theorem dX10_byDrought_17 : decode cX10_byDrought 17 = .ok (.getfield 210, 3) := by decide +kernel
theorem dX10_byDrought_20 : decode cX10_byDrought 20 = .ok (.iadd, 1) := by decide +kernel
theorem dX10_byDrought_21 : decode cX10_byDrought 21 = .ok (.if_icmp .ge 46, 3) := by decide +kernel
theorem dX10_byDrought_24 : decode cX10_byDrought 24 = .ok (.aload_n 0, 1) := by decide +kernel
theorem dX10_byDrought_25 : decode cX10_byDrought 25 = .ok (.getfield 37, 3) := by decide +kernel
theorem dX10_byDrought_28 : decode cX10_byDrought 28 = .ok (.iload_n 3, 1) := by decide +kernel
theorem dX10_byDrought_29 : decode cX10_byDrought 29 = .ok (.iaload, 1) := by decide +kernel
theorem dX10_byDrought_30 : decode cX10_byDrought 30 = .ok (.iconst 3, 1) := by decide +kernel
theorem dX10_byDrought_31 : decode cX10_byDrought 31 = .ok (.if_icmp .ne 30, 3) := by decide +kernel
theorem dX10_byDrought_34 : decode cX10_byDrought 34 = .ok (.aload_n 0, 1) := by decide +kernel
theorem dX10_byDrought_35 : decode cX10_byDrought 35 = .ok (.getfield 40, 3) := by decide +kernel
theorem dX10_byDrought_38 : decode cX10_byDrought 38 = .ok (.iload_n 3, 1) := by decide +kernel
theorem dX10_byDrought_39 : decode cX10_byDrought 39 = .ok (.iaload, 1) := by decide +kernel
theorem dX10_byDrought_40 : decode cX10_byDrought 40 = .ok (.iload_n 1, 1) := by decide +kernel
theorem dX10_byDrought_41 : decode cX10_byDrought 41 = .ok (.if_icmp .ne 20, 3) := by decide +kernel
theorem dX10_byDrought_44 : decode cX10_byDrought 44 = .ok (.iload_n 2, 1) := by decide +kernel
theorem dX10_byDrought_45 : decode cX10_byDrought 45 = .ok (.aload_n 0, 1) := by decide +kernel
theorem dX10_byDrought_46 : decode cX10_byDrought 46 = .ok (.getfield 49, 3) := by decide +kernel
theorem dX10_byDrought_49 : decode cX10_byDrought 49 = .ok (.iload_n 3, 1) := by decide +kernel
theorem dX10_byDrought_50 : decode cX10_byDrought 50 = .ok (.iaload, 1) := by decide +kernel
theorem dX10_byDrought_51 : decode cX10_byDrought 51 = .ok (.if_icmp .ge 10, 3) := by decide +kernel
theorem dX10_byDrought_54 : decode cX10_byDrought 54 = .ok (.aload_n 0, 1) := by decide +kernel
theorem dX10_byDrought_55 : decode cX10_byDrought 55 = .ok (.getfield 43, 3) := by decide +kernel
theorem dX10_byDrought_58 : decode cX10_byDrought 58 = .ok (.iload_n 3, 1) := by decide +kernel
theorem dX10_byDrought_59 : decode cX10_byDrought 59 = .ok (.iaload, 1) := by decide +kernel
theorem dX10_byDrought_60 : decode cX10_byDrought 60 = .ok (.ireturn, 1) := by decide +kernel
theorem dX10_byDrought_61 : decode cX10_byDrought 61 = .ok (.iinc 3 1, 3) := by decide +kernel
theorem dX10_byDrought_64 : decode cX10_byDrought 64 = .ok (.goto (-56), 3) := by decide +kernel
theorem dX10_byDrought_67 : decode cX10_byDrought 67 = .ok (.iconst (-1), 1) := by decide +kernel
theorem dX10_byDrought_68 : decode cX10_byDrought 68 = .ok (.ireturn, 1) := by decide +kernel
theorem dX10_byTurns_0 : decode cX10_byTurns 0 = .ok (.bipush 24, 2) := by decide +kernel
theorem dX10_byTurns_2 : decode cX10_byTurns 2 = .ok (.aload_n 0, 1) := by decide +kernel
theorem dX10_byTurns_3 : decode cX10_byTurns 3 = .ok (.getfield 201, 3) := by decide +kernel
theorem dX10_byTurns_6 : decode cX10_byTurns 6 = .ok (.imul, 1) := by decide +kernel
theorem dX10_byTurns_7 : decode cX10_byTurns 7 = .ok (.istore_n 3, 1) := by decide +kernel
theorem dX10_byTurns_8 : decode cX10_byTurns 8 = .ok (.iload_n 3, 1) := by decide +kernel
theorem dX10_byTurns_9 : decode cX10_byTurns 9 = .ok (.bipush 24, 2) := by decide +kernel
theorem dX10_byTurns_11 : decode cX10_byTurns 11 = .ok (.aload_n 0, 1) := by decide +kernel
theorem dX10_byTurns_12 : decode cX10_byTurns 12 = .ok (.getfield 201, 3) := by decide +kernel
theorem dX10_byTurns_15 : decode cX10_byTurns 15 = .ok (.imul, 1) := by decide +kernel
theorem dX10_byTurns_16 : decode cX10_byTurns 16 = .ok (.aload_n 0, 1) := by decide +kernel
theorem dX10_byTurns_17 : decode cX10_byTurns 17 = .ok (.getfield 210, 3) := by decide +kernel
theorem dX10_byTurns_20 : decode cX10_byTurns 20 = .ok (.iadd, 1) := by decide +kernel
theorem dX10_byTurns_21 : decode cX10_byTurns 21 = .ok (.if_icmp .ge 144, 3) := by decide +kernel
theorem dX10_byTurns_24 : decode cX10_byTurns 24 = .ok (.aload_n 0, 1) := by decide +kernel
theorem dX10_byTurns_25 : decode cX10_byTurns 25 = .ok (.getfield 37, 3) := by decide +kernel
theorem dX10_byTurns_28 : decode cX10_byTurns 28 = .ok (.iload_n 3, 1) := by decide +kernel
theorem dX10_byTurns_29 : decode cX10_byTurns 29 = .ok (.iaload, 1) := by decide +kernel
theorem dX10_byTurns_30 : decode cX10_byTurns 30 = .ok (.ifCond .ne 129, 3) := by decide +kernel
theorem dX10_byTurns_33 : decode cX10_byTurns 33 = .ok (.aload_n 0, 1) := by decide +kernel
theorem dX10_byTurns_34 : decode cX10_byTurns 34 = .ok (.getfield 40, 3) := by decide +kernel
theorem dX10_byTurns_37 : decode cX10_byTurns 37 = .ok (.iload_n 3, 1) := by decide +kernel
theorem dX10_byTurns_38 : decode cX10_byTurns 38 = .ok (.iaload, 1) := by decide +kernel
theorem dX10_byTurns_39 : decode cX10_byTurns 39 = .ok (.iload_n 1, 1) := by decide +kernel
theorem dX10_byTurns_40 : decode cX10_byTurns 40 = .ok (.if_icmp .eq 6, 3) := by decide +kernel
theorem dX10_byTurns_43 : decode cX10_byTurns 43 = .ok (.goto 116, 3) := by decide +kernel
theorem dX10_byTurns_46 : decode cX10_byTurns 46 = .ok (.iconst 0, 1) := by decide +kernel
theorem dX10_byTurns_47 : decode cX10_byTurns 47 = .ok (.istore 4, 2) := by decide +kernel
theorem dX10_byTurns_49 : decode cX10_byTurns 49 = .ok (.iconst 0, 1) := by decide +kernel
theorem dX10_byTurns_50 : decode cX10_byTurns 50 = .ok (.istore 5, 2) := by decide +kernel
theorem dX10_byTurns_52 : decode cX10_byTurns 52 = .ok (.iload 5, 2) := by decide +kernel
theorem dX10_byTurns_54 : decode cX10_byTurns 54 = .ok (.aload_n 0, 1) := by decide +kernel
theorem dX10_byTurns_55 : decode cX10_byTurns 55 = .ok (.getfield 52, 3) := by decide +kernel
theorem dX10_byTurns_58 : decode cX10_byTurns 58 = .ok (.iload_n 3, 1) := by decide +kernel
theorem dX10_byTurns_59 : decode cX10_byTurns 59 = .ok (.iaload, 1) := by decide +kernel
theorem dX10_byTurns_60 : decode cX10_byTurns 60 = .ok (.if_icmp .ge 26, 3) := by decide +kernel
theorem dX10_byTurns_63 : decode cX10_byTurns 63 = .ok (.iload 4, 2) := by decide +kernel
theorem dX10_byTurns_65 : decode cX10_byTurns 65 = .ok (.aload_n 0, 1) := by decide +kernel
theorem dX10_byTurns_66 : decode cX10_byTurns 66 = .ok (.getfield 58, 3) := by decide +kernel
theorem dX10_byTurns_69 : decode cX10_byTurns 69 = .ok (.bipush 8, 2) := by decide +kernel
theorem dX10_byTurns_71 : decode cX10_byTurns 71 = .ok (.iload_n 3, 1) := by decide +kernel
theorem dX10_byTurns_72 : decode cX10_byTurns 72 = .ok (.imul, 1) := by decide +kernel
theorem dX10_byTurns_73 : decode cX10_byTurns 73 = .ok (.iload 5, 2) := by decide +kernel
theorem dX10_byTurns_75 : decode cX10_byTurns 75 = .ok (.iadd, 1) := by decide +kernel
theorem dX10_byTurns_76 : decode cX10_byTurns 76 = .ok (.iaload, 1) := by decide +kernel
theorem dX10_byTurns_77 : decode cX10_byTurns 77 = .ok (.iadd, 1) := by decide +kernel
theorem dX10_byTurns_78 : decode cX10_byTurns 78 = .ok (.istore 4, 2) := by decide +kernel
theorem dX10_byTurns_80 : decode cX10_byTurns 80 = .ok (.iinc 5 1, 3) := by decide +kernel
theorem dX10_byTurns_83 : decode cX10_byTurns 83 = .ok (.goto (-31), 3) := by decide +kernel
theorem dX10_byTurns_86 : decode cX10_byTurns 86 = .ok (.iload_n 2, 1) := by decide +kernel
theorem dX10_byTurns_87 : decode cX10_byTurns 87 = .ok (.iload 4, 2) := by decide +kernel
theorem dX10_byTurns_89 : decode cX10_byTurns 89 = .ok (.irem, 1) := by decide +kernel
theorem dX10_byTurns_90 : decode cX10_byTurns 90 = .ok (.istore 5, 2) := by decide +kernel
theorem dX10_byTurns_92 : decode cX10_byTurns 92 = .ok (.iconst 0, 1) := by decide +kernel
theorem dX10_byTurns_93 : decode cX10_byTurns 93 = .ok (.istore 6, 2) := by decide +kernel
theorem dX10_byTurns_95 : decode cX10_byTurns 95 = .ok (.iload 6, 2) := by decide +kernel
theorem dX10_byTurns_97 : decode cX10_byTurns 97 = .ok (.aload_n 0, 1) := by decide +kernel
theorem dX10_byTurns_98 : decode cX10_byTurns 98 = .ok (.getfield 52, 3) := by decide +kernel
theorem dX10_byTurns_101 : decode cX10_byTurns 101 = .ok (.iload_n 3, 1) := by decide +kernel
theorem dX10_byTurns_102 : decode cX10_byTurns 102 = .ok (.iaload, 1) := by decide +kernel
theorem dX10_byTurns_103 : decode cX10_byTurns 103 = .ok (.if_icmp .ge 56, 3) := by decide +kernel
theorem dX10_byTurns_106 : decode cX10_byTurns 106 = .ok (.iload 5, 2) := by decide +kernel
theorem dX10_byTurns_108 : decode cX10_byTurns 108 = .ok (.aload_n 0, 1) := by decide +kernel
theorem dX10_byTurns_109 : decode cX10_byTurns 109 = .ok (.getfield 58, 3) := by decide +kernel
theorem dX10_byTurns_112 : decode cX10_byTurns 112 = .ok (.bipush 8, 2) := by decide +kernel
theorem dX10_byTurns_114 : decode cX10_byTurns 114 = .ok (.iload_n 3, 1) := by decide +kernel
theorem dX10_byTurns_115 : decode cX10_byTurns 115 = .ok (.imul, 1) := by decide +kernel
theorem dX10_byTurns_116 : decode cX10_byTurns 116 = .ok (.iload 6, 2) := by decide +kernel
theorem dX10_byTurns_118 : decode cX10_byTurns 118 = .ok (.iadd, 1) := by decide +kernel
theorem dX10_byTurns_119 : decode cX10_byTurns 119 = .ok (.iaload, 1) := by decide +kernel
theorem dX10_byTurns_120 : decode cX10_byTurns 120 = .ok (.if_icmp .ge 16, 3) := by decide +kernel
theorem dX10_byTurns_123 : decode cX10_byTurns 123 = .ok (.aload_n 0, 1) := by decide +kernel
theorem dX10_byTurns_124 : decode cX10_byTurns 124 = .ok (.getfield 55, 3) := by decide +kernel
theorem dX10_byTurns_127 : decode cX10_byTurns 127 = .ok (.bipush 8, 2) := by decide +kernel
theorem dX10_byTurns_129 : decode cX10_byTurns 129 = .ok (.iload_n 3, 1) := by decide +kernel
theorem dX10_byTurns_130 : decode cX10_byTurns 130 = .ok (.imul, 1) := by decide +kernel
theorem dX10_byTurns_131 : decode cX10_byTurns 131 = .ok (.iload 6, 2) := by decide +kernel
theorem dX10_byTurns_133 : decode cX10_byTurns 133 = .ok (.iadd, 1) := by decide +kernel
theorem dX10_byTurns_134 : decode cX10_byTurns 134 = .ok (.iaload, 1) := by decide +kernel
theorem dX10_byTurns_135 : decode cX10_byTurns 135 = .ok (.ireturn, 1) := by decide +kernel
theorem dX10_byTurns_136 : decode cX10_byTurns 136 = .ok (.iload 5, 2) := by decide +kernel
theorem dX10_byTurns_138 : decode cX10_byTurns 138 = .ok (.aload_n 0, 1) := by decide +kernel
theorem dX10_byTurns_139 : decode cX10_byTurns 139 = .ok (.getfield 58, 3) := by decide +kernel
theorem dX10_byTurns_142 : decode cX10_byTurns 142 = .ok (.bipush 8, 2) := by decide +kernel
theorem dX10_byTurns_144 : decode cX10_byTurns 144 = .ok (.iload_n 3, 1) := by decide +kernel
theorem dX10_byTurns_145 : decode cX10_byTurns 145 = .ok (.imul, 1) := by decide +kernel
theorem dX10_byTurns_146 : decode cX10_byTurns 146 = .ok (.iload 6, 2) := by decide +kernel
theorem dX10_byTurns_148 : decode cX10_byTurns 148 = .ok (.iadd, 1) := by decide +kernel
theorem dX10_byTurns_149 : decode cX10_byTurns 149 = .ok (.iaload, 1) := by decide +kernel
theorem dX10_byTurns_150 : decode cX10_byTurns 150 = .ok (.isub, 1) := by decide +kernel
theorem dX10_byTurns_151 : decode cX10_byTurns 151 = .ok (.istore 5, 2) := by decide +kernel
theorem dX10_byTurns_153 : decode cX10_byTurns 153 = .ok (.iinc 6 1, 3) := by decide +kernel
theorem dX10_byTurns_156 : decode cX10_byTurns 156 = .ok (.goto (-61), 3) := by decide +kernel
theorem dX10_byTurns_159 : decode cX10_byTurns 159 = .ok (.iinc 3 1, 3) := by decide +kernel
theorem dX10_byTurns_162 : decode cX10_byTurns 162 = .ok (.goto (-154), 3) := by decide +kernel
theorem dX10_byTurns_165 : decode cX10_byTurns 165 = .ok (.iconst (-1), 1) := by decide +kernel
theorem dX10_byTurns_166 : decode cX10_byTurns 166 = .ok (.ireturn, 1) := by decide +kernel
theorem dX10_droughts_0 : decode cX10_droughts 0 = .ok (.iconst 0, 1) := by decide +kernel
theorem dX10_droughts_1 : decode cX10_droughts 1 = .ok (.istore_n 1, 1) := by decide +kernel
theorem dX10_droughts_2 : decode cX10_droughts 2 = .ok (.iload_n 1, 1) := by decide +kernel
theorem dX10_droughts_3 : decode cX10_droughts 3 = .ok (.bipush 6, 2) := by decide +kernel
theorem dX10_droughts_5 : decode cX10_droughts 5 = .ok (.if_icmp .ge 54, 3) := by decide +kernel
theorem dX10_droughts_8 : decode cX10_droughts 8 = .ok (.aload_n 0, 1) := by decide +kernel
theorem dX10_droughts_9 : decode cX10_droughts 9 = .ok (.getfield 13, 3) := by decide +kernel
theorem dX10_droughts_12 : decode cX10_droughts 12 = .ok (.iload_n 1, 1) := by decide +kernel
theorem dX10_droughts_13 : decode cX10_droughts 13 = .ok (.baload, 1) := by decide +kernel
theorem dX10_droughts_14 : decode cX10_droughts 14 = .ok (.ifCond .eq 17, 3) := by decide +kernel
theorem dX10_droughts_17 : decode cX10_droughts 17 = .ok (.aload_n 0, 1) := by decide +kernel
theorem dX10_droughts_18 : decode cX10_droughts 18 = .ok (.iload_n 1, 1) := by decide +kernel
theorem dX10_droughts_19 : decode cX10_droughts 19 = .ok (.aload_n 0, 1) := by decide +kernel
theorem dX10_droughts_20 : decode cX10_droughts 20 = .ok (.getfield 27, 3) := by decide +kernel
theorem dX10_droughts_23 : decode cX10_droughts 23 = .ok (.iload_n 1, 1) := by decide +kernel
theorem dX10_droughts_24 : decode cX10_droughts 24 = .ok (.iaload, 1) := by decide +kernel
theorem dX10_droughts_25 : decode cX10_droughts 25 = .ok (.invokevirtual 268, 3) := by decide +kernel
theorem dX10_droughts_28 : decode cX10_droughts 28 = .ok (.goto 4, 3) := by decide +kernel
theorem dX10_droughts_31 : decode cX10_droughts 31 = .ok (.iconst (-1), 1) := by decide +kernel
theorem dX10_droughts_32 : decode cX10_droughts 32 = .ok (.istore_n 2, 1) := by decide +kernel
theorem dX10_droughts_33 : decode cX10_droughts 33 = .ok (.iload_n 2, 1) := by decide +kernel
theorem dX10_droughts_34 : decode cX10_droughts 34 = .ok (.ifCond .lt 19, 3) := by decide +kernel
theorem dX10_droughts_37 : decode cX10_droughts 37 = .ok (.aload_n 0, 1) := by decide +kernel
theorem dX10_droughts_38 : decode cX10_droughts 38 = .ok (.getfield 30, 3) := by decide +kernel
theorem dX10_droughts_41 : decode cX10_droughts 41 = .ok (.sipush 200, 3) := by decide +kernel
theorem dX10_droughts_44 : decode cX10_droughts 44 = .ok (.iload_n 1, 1) := by decide +kernel
theorem dX10_droughts_45 : decode cX10_droughts 45 = .ok (.imul, 1) := by decide +kernel
theorem dX10_droughts_46 : decode cX10_droughts 46 = .ok (.aload_n 0, 1) := by decide +kernel
theorem dX10_droughts_47 : decode cX10_droughts 47 = .ok (.getfield 213, 3) := by decide +kernel
theorem dX10_droughts_50 : decode cX10_droughts 50 = .ok (.iadd, 1) := by decide +kernel
theorem dX10_droughts_51 : decode cX10_droughts 51 = .ok (.iload_n 2, 1) := by decide +kernel
theorem dX10_droughts_52 : decode cX10_droughts 52 = .ok (.iastore, 1) := by decide +kernel
theorem dX10_droughts_53 : decode cX10_droughts 53 = .ok (.iinc 1 1, 3) := by decide +kernel
theorem dX10_droughts_56 : decode cX10_droughts 56 = .ok (.goto (-54), 3) := by decide +kernel
theorem dX10_droughts_59 : decode cX10_droughts 59 = .ok (.return_, 1) := by decide +kernel
theorem dX10_rights_0 : decode cX10_rights 0 = .ok (.aload_n 0, 1) := by decide +kernel
theorem dX10_rights_1 : decode cX10_rights 1 = .ok (.iconst 0, 1) := by decide +kernel
theorem dX10_rights_2 : decode cX10_rights 2 = .ok (.putfield 1, 3) := by decide +kernel
theorem dX10_rights_5 : decode cX10_rights 5 = .ok (.aload_n 0, 1) := by decide +kernel
theorem dX10_rights_6 : decode cX10_rights 6 = .ok (.aload_n 0, 1) := by decide +kernel
theorem dX10_rights_7 : decode cX10_rights 7 = .ok (.getfield 133, 3) := by decide +kernel
theorem dX10_rights_10 : decode cX10_rights 10 = .ok (.putfield 143, 3) := by decide +kernel
theorem dX10_rights_13 : decode cX10_rights 13 = .ok (.aload_n 0, 1) := by decide +kernel
theorem dX10_rights_14 : decode cX10_rights 14 = .ok (.iconst 0, 1) := by decide +kernel
theorem dX10_rights_15 : decode cX10_rights 15 = .ok (.putfield 133, 3) := by decide +kernel
theorem dX10_rights_18 : decode cX10_rights 18 = .ok (.aload_n 0, 1) := by decide +kernel
theorem dX10_rights_19 : decode cX10_rights 19 = .ok (.iconst 0, 1) := by decide +kernel
theorem dX10_rights_20 : decode cX10_rights 20 = .ok (.putfield 140, 3) := by decide +kernel
theorem dX10_rights_23 : decode cX10_rights 23 = .ok (.aload_n 0, 1) := by decide +kernel
theorem dX10_rights_24 : decode cX10_rights 24 = .ok (.iconst 0, 1) := by decide +kernel
theorem dX10_rights_25 : decode cX10_rights 25 = .ok (.putfield 170, 3) := by decide +kernel
theorem dX10_rights_28 : decode cX10_rights 28 = .ok (.aload_n 0, 1) := by decide +kernel
theorem dX10_rights_29 : decode cX10_rights 29 = .ok (.getfield 201, 3) := by decide +kernel
theorem dX10_rights_32 : decode cX10_rights 32 = .ok (.istore_n 1, 1) := by decide +kernel
theorem dX10_rights_33 : decode cX10_rights 33 = .ok (.aload_n 0, 1) := by decide +kernel
theorem dX10_rights_34 : decode cX10_rights 34 = .ok (.iconst 1, 1) := by decide +kernel
theorem dX10_rights_35 : decode cX10_rights 35 = .ok (.aload_n 0, 1) := by decide +kernel
theorem dX10_rights_36 : decode cX10_rights 36 = .ok (.getfield 201, 3) := by decide +kernel
theorem dX10_rights_39 : decode cX10_rights 39 = .ok (.isub, 1) := by decide +kernel
theorem dX10_rights_40 : decode cX10_rights 40 = .ok (.putfield 201, 3) := by decide +kernel
theorem dX10_rights_43 : decode cX10_rights 43 = .ok (.aload_n 0, 1) := by decide +kernel
theorem dX10_rights_44 : decode cX10_rights 44 = .ok (.iconst 0, 1) := by decide +kernel
theorem dX10_rights_45 : decode cX10_rights 45 = .ok (.putfield 204, 3) := by decide +kernel
theorem dX10_rights_48 : decode cX10_rights 48 = .ok (.aload_n 0, 1) := by decide +kernel
theorem dX10_rights_49 : decode cX10_rights 49 = .ok (.invokevirtual 184, 3) := by decide +kernel
theorem dX10_rights_52 : decode cX10_rights 52 = .ok (.iconst 1, 1) := by decide +kernel
theorem dX10_rights_53 : decode cX10_rights 53 = .ok (.istore_n 2, 1) := by decide +kernel
theorem dX10_rights_54 : decode cX10_rights 54 = .ok (.iload_n 2, 1) := by decide +kernel
theorem dX10_rights_55 : decode cX10_rights 55 = .ok (.ifCond .eq 18, 3) := by decide +kernel
theorem dX10_rights_58 : decode cX10_rights 58 = .ok (.aload_n 0, 1) := by decide +kernel
theorem dX10_rights_59 : decode cX10_rights 59 = .ok (.getfield 153, 3) := by decide +kernel
theorem dX10_rights_62 : decode cX10_rights 62 = .ok (.ifCond .eq 11, 3) := by decide +kernel
theorem dX10_rights_65 : decode cX10_rights 65 = .ok (.aload_n 0, 1) := by decide +kernel
theorem dX10_rights_66 : decode cX10_rights 66 = .ok (.invokevirtual 207, 3) := by decide +kernel
theorem dX10_rights_69 : decode cX10_rights 69 = .ok (.istore_n 2, 1) := by decide +kernel
theorem dX10_rights_70 : decode cX10_rights 70 = .ok (.goto (-16), 3) := by decide +kernel
theorem dX10_rights_73 : decode cX10_rights 73 = .ok (.iload_n 2, 1) := by decide +kernel
theorem dX10_rights_74 : decode cX10_rights 74 = .ok (.ifCond .ne 15, 3) := by decide +kernel
theorem dX10_rights_77 : decode cX10_rights 77 = .ok (.aload_n 0, 1) := by decide +kernel
theorem dX10_rights_78 : decode cX10_rights 78 = .ok (.iload_n 1, 1) := by decide +kernel
theorem dX10_rights_79 : decode cX10_rights 79 = .ok (.putfield 201, 3) := by decide +kernel
theorem dX10_rights_82 : decode cX10_rights 82 = .ok (.iconst (-1), 1) := by decide +kernel
theorem dX10_rights_83 : decode cX10_rights 83 = .ok (.aload_n 0, 1) := by decide +kernel
theorem dX10_rights_84 : decode cX10_rights 84 = .ok (.getfield 173, 3) := by decide +kernel
theorem dX10_rights_87 : decode cX10_rights 87 = .ok (.isub, 1) := by decide +kernel
theorem dX10_rights_88 : decode cX10_rights 88 = .ok (.ireturn, 1) := by decide +kernel
theorem dX10_rights_89 : decode cX10_rights 89 = .ok (.aload_n 0, 1) := by decide +kernel
theorem dX10_rights_90 : decode cX10_rights 90 = .ok (.aload_n 0, 1) := by decide +kernel
theorem dX10_rights_91 : decode cX10_rights 91 = .ok (.getfield 204, 3) := by decide +kernel
theorem dX10_rights_94 : decode cX10_rights 94 = .ok (.putfield 210, 3) := by decide +kernel
theorem dX10_rights_97 : decode cX10_rights 97 = .ok (.iconst 0, 1) := by decide +kernel
theorem dX10_rights_98 : decode cX10_rights 98 = .ok (.istore_n 3, 1) := by decide +kernel
theorem dX10_rights_99 : decode cX10_rights 99 = .ok (.iload_n 3, 1) := by decide +kernel
theorem dX10_rights_100 : decode cX10_rights 100 = .ok (.bipush 6, 2) := by decide +kernel
theorem dX10_rights_102 : decode cX10_rights 102 = .ok (.if_icmp .ge 49, 3) := by decide +kernel
theorem dX10_rights_105 : decode cX10_rights 105 = .ok (.aload_n 0, 1) := by decide +kernel
theorem dX10_rights_106 : decode cX10_rights 106 = .ok (.getfield 213, 3) := by decide +kernel
theorem dX10_rights_109 : decode cX10_rights 109 = .ok (.istore 4, 2) := by decide +kernel
theorem dX10_rights_111 : decode cX10_rights 111 = .ok (.iload 4, 2) := by decide +kernel
theorem dX10_rights_113 : decode cX10_rights 113 = .ok (.sipush 199, 3) := by decide +kernel
theorem dX10_rights_116 : decode cX10_rights 116 = .ok (.if_icmp .gt 29, 3) := by decide +kernel
theorem dX10_rights_119 : decode cX10_rights 119 = .ok (.aload_n 0, 1) := by decide +kernel
theorem dX10_rights_120 : decode cX10_rights 120 = .ok (.getfield 30, 3) := by decide +kernel
theorem dX10_rights_123 : decode cX10_rights 123 = .ok (.sipush 200, 3) := by decide +kernel
theorem dX10_rights_126 : decode cX10_rights 126 = .ok (.iload_n 3, 1) := by decide +kernel
theorem dX10_rights_127 : decode cX10_rights 127 = .ok (.imul, 1) := by decide +kernel
theorem dX10_rights_128 : decode cX10_rights 128 = .ok (.iload 4, 2) := by decide +kernel
theorem dX10_rights_130 : decode cX10_rights 130 = .ok (.iadd, 1) := by decide +kernel
theorem dX10_rights_131 : decode cX10_rights 131 = .ok (.aload_n 0, 1) := by decide +kernel
theorem dX10_rights_132 : decode cX10_rights 132 = .ok (.iload_n 3, 1) := by decide +kernel
theorem dX10_rights_133 : decode cX10_rights 133 = .ok (.iload 4, 2) := by decide +kernel
theorem dX10_rights_135 : decode cX10_rights 135 = .ok (.invokevirtual 216, 3) := by decide +kernel
theorem dX10_rights_138 : decode cX10_rights 138 = .ok (.iastore, 1) := by decide +kernel
theorem dX10_rights_139 : decode cX10_rights 139 = .ok (.iinc 4 1, 3) := by decide +kernel
theorem dX10_rights_142 : decode cX10_rights 142 = .ok (.goto (-31), 3) := by decide +kernel
theorem dX10_rights_145 : decode cX10_rights 145 = .ok (.iinc 3 1, 3) := by decide +kernel
theorem dX10_rights_148 : decode cX10_rights 148 = .ok (.goto (-49), 3) := by decide +kernel
theorem dX10_rights_151 : decode cX10_rights 151 = .ok (.aload_n 0, 1) := by decide +kernel
theorem dX10_rights_152 : decode cX10_rights 152 = .ok (.invokevirtual 220, 3) := by decide +kernel
theorem dX10_rights_155 : decode cX10_rights 155 = .ok (.aload_n 0, 1) := by decide +kernel
theorem dX10_rights_156 : decode cX10_rights 156 = .ok (.getfield 210, 3) := by decide +kernel
theorem dX10_rights_159 : decode cX10_rights 159 = .ok (.ireturn, 1) := by decide +kernel
set_option maxHeartbeats 4000000 in
set_option maxRecDepth 100000 in
/-- WellCourtModel.byTurns -/
theorem m_byTurns (l : Launch) (G : va_G) (cy : Nat → ClassId) (sK sV : Nat → Nat) (ad : Nat → Nat → Nat) (sz : Nat) (st : gS) (hB : gBd bM st) (x : Int32) (y : Int32) (Xx : Int) (Xy : Int) (kx : x.toInt = Xx) (ky : y.toInt = Xy) (hy0 : 0 ≤ Xy) (hact : mActR (st 8 0) (st 13 0) (st 0 0 28).toInt (st 0 0 29).toInt) (htd : mTdR (st 13 0) (st 15 0)) : gsMi l yX10_byTurns cX10_byTurns 7 (some .int) ({ frames := 0, cells := 0, slots := 0, locals := 0 } : Room) G cy sK sV (shM cy ad) cnM ad sz [.ref (ad 0 0), .int x, .int y] st (fun (r : Int32) (u : gS) => gBN bM kM [] st u ∧ (True)) := by
  refine gs_start (fun A => gsQi G (shM cy ad) cnM ad _ A) (by decide) (Nat.le_of_ble_eq_true rfl) ?_
  intro p e s m below meth c A ls H hx hb hr hml hlocks hown hts hK hov hE hI hM hm hS hA hl
  have hl : lv_has ls 7 [(0, .ref (ad 0 0)), (1, .int x), (2, .int y)] := hl
  have hB_st : gBN bM kM [] st st := gBN.rf hB
  have bb1 : (0 : Int) ≤ (st 0 0 28).toInt ∧ (st 0 0 28).toInt ≤ (1 : Int) := hB 0 0 28
  have bb2 : (0 : Int) ≤ (st 0 0 29).toInt ∧ (st 0 0 29).toInt ≤ (20 : Int) := hB 0 0 29
  have bb3 : (0 : Int) ≤ (st 0 0 30).toInt ∧ (st 0 0 30).toInt ≤ (20 : Int) := hB 0 0 30
  generalize hQe : MQ below _ _ s _ _ A = Q
  refine lv_bipush (v := 24) hx hb dX10_byTurns_0 (by decide) ?_
  refine lv_aload_n hx hb dX10_byTurns_2 rfl (lv_at hl 0 rfl) ?_
  refine gs_get (C := RX10) (T := TX10) (N := 59) hx hb hts inX10 hown hK hM 0 0 28 (by decide) rfl rfl (by decide) (hts _ gm_925) (fun _ h9 => h9) rfl dX10_byTurns_3 ?_
  have bf_1 : (0 : Int) ≤ (st 0 0 28).toInt ∧ (st 0 0 28).toInt ≤ (1 : Int) := hB_st.1 0 0 28
  refine lv_imul hx hb dX10_byTurns_6 ?_
  refine lv_topi (fun x_2 ex_2 => ?_)
  try have tx_2 : x_2.toInt = 24 * (st 0 0 28).toInt := by rw [ex_2]; exact gz_mulI (x := 24) (y := (st 0 0 28).toInt) (by decide) rfl (by omega) (by omega)
  refine lv_istore_n (lv' := [(3, .int x_2), (0, .ref (ad 0 0)), (1, .int x), (2, .int y)]) hx hb dX10_byTurns_7 rfl hl (by decide) rfl (fun ls hl => ?_)
  have lp3 : ∀ (n3 : Nat)  (y3_0 : Int32) (H : Heap) (locs : List Loc) (ls : Array Slot), (48 - y3_0.toInt).toNat < n3 →  (24 * (st 0 0 28).toInt ≤ y3_0.toInt) → gM G (shM cy ad) cnM ad st H → va_S A s.heap H locs → lv_has ls 7 [(3, .int y3_0), (0, .ref (ad 0 0)), (1, .int x), (2, .int y)] → W p l e ({ frames := 0, cells := 0, slots := 0, locals := 0 } : Room) s m [.ref (ad 0 0), .int x, .int y].toArray below meth c H locs 0 0 Q (F0 m 8 ls []) := by
    intro n3
    induction n3 with
    | zero => intro  y3_0 H locs ls h9; exact absurd h9 (Nat.not_lt_zero _)
    | succ n3 ih_3 =>
      intro  y3_0 H locs ls hme3  hv3_0 hM hS hl
      have hb3_0 : (0 : Int) ≤ (st 0 0 28).toInt ∧ (st 0 0 28).toInt ≤ (1 : Int) := hB_st.1 0 0 28
      refine lv_iload_n hx hb dX10_byTurns_8 rfl (lv_at hl 0 rfl) ?_
      refine lv_bipush (v := 24) hx hb dX10_byTurns_9 (by decide) ?_
      refine lv_aload_n hx hb dX10_byTurns_11 rfl (lv_at hl 1 rfl) ?_
      refine gs_get (C := RX10) (T := TX10) (N := 59) hx hb hts inX10 hown hK hM 0 0 28 (by decide) rfl rfl (by decide) (hts _ gm_925) (fun _ h9 => h9) rfl dX10_byTurns_12 ?_
      have bf_4 : (0 : Int) ≤ (st 0 0 28).toInt ∧ (st 0 0 28).toInt ≤ (1 : Int) := hB_st.1 0 0 28
      refine lv_imul hx hb dX10_byTurns_15 ?_
      refine lv_topi (fun x_5 ex_5 => ?_)
      try have tx_5 : x_5.toInt = 24 * (st 0 0 28).toInt := by rw [ex_5]; exact gz_mulI (x := 24) (y := (st 0 0 28).toInt) (by decide) rfl (by omega) (by omega)
      refine lv_aload_n hx hb dX10_byTurns_16 rfl (lv_at hl 1 rfl) ?_
      refine gs_get (C := RX10) (T := TX10) (N := 59) hx hb hts inX10 hown hK hM 0 0 29 (by decide) rfl rfl (by decide) (hts _ gm_926) (fun _ h9 => h9) rfl dX10_byTurns_17 ?_
      have bf_6 : (0 : Int) ≤ (st 0 0 29).toInt ∧ (st 0 0 29).toInt ≤ (20 : Int) := hB_st.1 0 0 29
      refine lv_iadd hx hb dX10_byTurns_20 ?_
      refine lv_topi (fun x_7 ex_7 => ?_)
      try have tx_7 : x_7.toInt = x_5.toInt + (st 0 0 29).toInt := by rw [ex_7]; exact gz_addI (x := x_5.toInt) (y := (st 0 0 29).toInt) rfl rfl (by omega) (by omega)
      refine lv_icmp_ge (tgt := 165) hx hb dX10_byTurns_21 (by decide) (fun c_8 => ?_) (fun c_8 => ?_)
      · have ic_8 := gz_le (rfl : x_7.toInt = x_7.toInt) (rfl : y3_0.toInt = y3_0.toInt) c_8
        refine lv_iconst (v := (-1)) hx hb dX10_byTurns_165 (by decide) ?_
        rw [← hQe]
        exact gs_iret hx hb hr hlocks hM hS rfl ⟨hB_st, trivial⟩ (by exact Nat.le_refl _) (by exact Nat.le_refl _) dX10_byTurns_166
      · have ic_8 := gz_nle (rfl : x_7.toInt = x_7.toInt) (rfl : y3_0.toInt = y3_0.toInt) c_8
        have lc_8 := gi_hi x_7
        refine lv_aload_n hx hb dX10_byTurns_24 rfl (lv_at hl 1 rfl) ?_
        refine gs_get (C := RX10) (T := TX10) (N := 59) hx hb hts inX10 hown hK hM 0 0 20 (by decide) rfl rfl (by decide) (hts _ gm_917) (fun _ h9 => h9) rfl dX10_byTurns_25 ?_
        refine lv_iload_n hx hb dX10_byTurns_28 rfl (lv_at hl 0 rfl) ?_
        refine gs_iald hx hb hK hM 8 0 (by decide) rfl (vp_in_iff.mpr ⟨by omega, by omega⟩) dX10_byTurns_29 ?_
        refine lv_topi (fun x_9 ex_9 => ?_)
        have qx_9 : x_9.toInt = (st 8 0 (y3_0.toNatClampNeg)).toInt := congrArg Int32.toInt ex_9
        refine lv_if_ne (tgt := 159) hx hb dX10_byTurns_30 (by decide) (fun c_10 => ?_) (fun c_10 => ?_)
        · have ic_10 := gz_ne (rfl : x_9.toInt = x_9.toInt) (by decide : (0 : Int32).toInt = 0) c_10
          obtain ⟨x_11, ex_11⟩ : ∃ y : Int32, y = y3_0 + 1 := ⟨_, rfl⟩
          try have tx_11 : x_11.toInt = y3_0.toInt + 1 := by rw [ex_11]; exact gz_addP (x := y3_0.toInt) (y := 1) rfl (by decide) (by omega) (by omega)
          refine lv_iinc (v := (x_11)) (lv' := [(3, .int x_11), (0, .ref (ad 0 0)), (1, .int x), (2, .int y)]) hx hb dX10_byTurns_159 hl (k := 0) rfl (by rw [ex_11]; rfl) (by decide) rfl (fun ls hl => ?_)
          refine lv_goto (tgt := 8) hx hb dX10_byTurns_162 (by decide) ?_
          exact ih_3  (x_11 : Int32) H _ ls (by omega)  (by have hb0 : (0 : Int) ≤ (st 0 0 28).toInt ∧ (st 0 0 28).toInt ≤ (1 : Int) := hB_st.1 0 0 28; omega) hM hS (lv_sub hl [0, 1, 2, 3] rfl)
        · have ic_10 := gz_eqn (rfl : x_9.toInt = x_9.toInt) (by decide : (0 : Int32).toInt = 0) c_10
          refine lv_aload_n hx hb dX10_byTurns_33 rfl (lv_at hl 1 rfl) ?_
          refine gs_get (C := RX10) (T := TX10) (N := 59) hx hb hts inX10 hown hK hM 0 0 21 (by decide) rfl rfl (by decide) (hts _ gm_918) (fun _ h9 => h9) rfl dX10_byTurns_34 ?_
          refine lv_iload_n hx hb dX10_byTurns_37 rfl (lv_at hl 0 rfl) ?_
          refine gs_iald hx hb hK hM 9 0 (by decide) rfl (vp_in_iff.mpr ⟨by omega, by omega⟩) dX10_byTurns_38 ?_
          refine lv_topi (fun x_12 ex_12 => ?_)
          have qx_12 : x_12.toInt = (st 9 0 (y3_0.toNatClampNeg)).toInt := congrArg Int32.toInt ex_12
          have bx_12 : (0 : Int) ≤ x_12.toInt ∧ x_12.toInt ≤ (5 : Int) := by rw [qx_12]; exact hB_st.1 9 0 (y3_0.toNatClampNeg)
          refine lv_iload_n hx hb dX10_byTurns_39 rfl (lv_at hl 2 rfl) ?_
          refine lv_icmp_eq (tgt := 46) hx hb dX10_byTurns_40 (by decide) (fun c_13 => ?_) (fun c_13 => ?_)
          · have ic_13 := gz_eq (rfl : x_12.toInt = x_12.toInt) (rfl : x.toInt = x.toInt) c_13
            have c46 := gs_cl (x := y3_0) (by omega)
            have hA1 := hact y3_0.toNatClampNeg (by omega) (by omega) (by omega)
            have hA2 := htd _ hA1
            refine lv_iconst (v := 0) hx hb dX10_byTurns_46 (by decide) ?_
            refine lv_istore (lv' := [(4, .int 0), (3, .int y3_0), (0, .ref (ad 0 0)), (1, .int x), (2, .int y)]) hx hb dX10_byTurns_47 hl (by decide) rfl (fun ls hl => ?_)
            refine lv_iconst (v := 0) hx hb dX10_byTurns_49 (by decide) ?_
            refine lv_istore (lv' := [(5, .int 0), (4, .int 0), (3, .int y3_0), (0, .ref (ad 0 0)), (1, .int x), (2, .int y)]) hx hb dX10_byTurns_50 hl (by decide) rfl (fun ls hl => ?_)
            have lp14 : ∀ (n14 : Nat)  (y14_0 : Int32) (y14_1 : Int32) (H : Heap) (locs : List Loc) (ls : Array Slot), (8 - y14_1.toInt).toNat < n14 →  (0 ≤ y14_1.toInt) → (y14_1.toInt ≤ 8) → (0 ≤ y14_0.toInt) → (y14_0.toInt ≤ 9 * y14_1.toInt) → (1 ≤ y14_1.toInt → 1 ≤ y14_0.toInt) → gM G (shM cy ad) cnM ad st H → va_S A s.heap H locs → lv_has ls 7 [(5, .int y14_1), (4, .int y14_0), (3, .int y3_0), (0, .ref (ad 0 0)), (1, .int x), (2, .int y)] → W p l e ({ frames := 0, cells := 0, slots := 0, locals := 0 } : Room) s m [.ref (ad 0 0), .int x, .int y].toArray below meth c H locs 0 0 Q (F0 m 52 ls []) := by
              intro n14
              induction n14 with
              | zero => intro  y14_0 y14_1 H locs ls h9; exact absurd h9 (Nat.not_lt_zero _)
              | succ n14 ih_14 =>
                intro  y14_0 y14_1 H locs ls hme14  hv14_0 hv14_1 hv14_2 hv14_3 hv14_4 hM hS hl
                refine lv_iload hx hb dX10_byTurns_52 (lv_at hl 0 rfl) ?_
                refine lv_aload_n hx hb dX10_byTurns_54 rfl (lv_at hl 3 rfl) ?_
                refine gs_get (C := RX10) (T := TX10) (N := 59) hx hb hts inX10 hown hK hM 0 0 25 (by decide) rfl rfl (by decide) (hts _ gm_922) (fun _ h9 => h9) rfl dX10_byTurns_55 ?_
                refine lv_iload_n hx hb dX10_byTurns_58 rfl (lv_at hl 2 rfl) ?_
                refine gs_iald hx hb hK hM 13 0 (by decide) rfl (vp_in_iff.mpr ⟨by omega, by omega⟩) dX10_byTurns_59 ?_
                refine lv_topi (fun x_15 ex_15 => ?_)
                have qx_15 : x_15.toInt = (st 13 0 (y3_0.toNatClampNeg)).toInt := congrArg Int32.toInt ex_15
                have bx_15 : (0 : Int) ≤ x_15.toInt ∧ x_15.toInt ≤ (8 : Int) := by rw [qx_15]; exact hB_st.1 13 0 (y3_0.toNatClampNeg)
                refine lv_icmp_ge (tgt := 86) hx hb dX10_byTurns_60 (by decide) (fun c_16 => ?_) (fun c_16 => ?_)
                · have ic_16 := gz_le (rfl : x_15.toInt = x_15.toInt) (rfl : y14_1.toInt = y14_1.toInt) c_16
                  refine lv_iload_n hx hb dX10_byTurns_86 rfl (lv_at hl 5 rfl) ?_
                  refine lv_iload hx hb dX10_byTurns_87 (lv_at hl 1 rfl) ?_
                  refine lv_irem hx hb dX10_byTurns_89 (fun h9 => by have h8 := congrArg Int32.toInt h9; have h7 : (0 : Int32).toInt = 0 := (by decide); omega) ?_
                  refine lv_topi (fun x_17 ex_17 => ?_)
                  try have tx_17 := gs_rem2 (y := y14_0.toInt) rfl (show 0 ≤ y.toInt from by omega) (by omega) ex_17
                  refine lv_istore (lv' := [(5, .int x_17), (4, .int y14_0), (3, .int y3_0), (0, .ref (ad 0 0)), (1, .int x), (2, .int y)]) hx hb dX10_byTurns_90 hl (by decide) rfl (fun ls hl => ?_)
                  refine lv_iconst (v := 0) hx hb dX10_byTurns_92 (by decide) ?_
                  refine lv_istore (lv' := [(6, .int 0), (5, .int x_17), (4, .int y14_0), (3, .int y3_0), (0, .ref (ad 0 0)), (1, .int x), (2, .int y)]) hx hb dX10_byTurns_93 hl (by decide) rfl (fun ls hl => ?_)
                  have lp18 : ∀ (n18 : Nat)  (y18_0 : Int32) (y18_1 : Int32) (H : Heap) (locs : List Loc) (ls : Array Slot), (8 - y18_1.toInt).toNat < n18 →  (0 ≤ y18_1.toInt) → gM G (shM cy ad) cnM ad st H → va_S A s.heap H locs → lv_has ls 7 [(6, .int y18_1), (5, .int y18_0), (4, .int y14_0), (3, .int y3_0), (0, .ref (ad 0 0)), (1, .int x), (2, .int y)] → W p l e ({ frames := 0, cells := 0, slots := 0, locals := 0 } : Room) s m [.ref (ad 0 0), .int x, .int y].toArray below meth c H locs 0 0 Q (F0 m 95 ls []) := by
                    intro n18
                    induction n18 with
                    | zero => intro  y18_0 y18_1 H locs ls h9; exact absurd h9 (Nat.not_lt_zero _)
                    | succ n18 ih_18 =>
                      intro  y18_0 y18_1 H locs ls hme18  hv18_0 hM hS hl
                      refine lv_iload hx hb dX10_byTurns_95 (lv_at hl 0 rfl) ?_
                      refine lv_aload_n hx hb dX10_byTurns_97 rfl (lv_at hl 4 rfl) ?_
                      refine gs_get (C := RX10) (T := TX10) (N := 59) hx hb hts inX10 hown hK hM 0 0 25 (by decide) rfl rfl (by decide) (hts _ gm_922) (fun _ h9 => h9) rfl dX10_byTurns_98 ?_
                      refine lv_iload_n hx hb dX10_byTurns_101 rfl (lv_at hl 3 rfl) ?_
                      refine gs_iald hx hb hK hM 13 0 (by decide) rfl (vp_in_iff.mpr ⟨by omega, by omega⟩) dX10_byTurns_102 ?_
                      refine lv_topi (fun x_19 ex_19 => ?_)
                      have qx_19 : x_19.toInt = (st 13 0 (y3_0.toNatClampNeg)).toInt := congrArg Int32.toInt ex_19
                      have bx_19 : (0 : Int) ≤ x_19.toInt ∧ x_19.toInt ≤ (8 : Int) := by rw [qx_19]; exact hB_st.1 13 0 (y3_0.toNatClampNeg)
                      refine lv_icmp_ge (tgt := 159) hx hb dX10_byTurns_103 (by decide) (fun c_20 => ?_) (fun c_20 => ?_)
                      · have ic_20 := gz_le (rfl : x_19.toInt = x_19.toInt) (rfl : y18_1.toInt = y18_1.toInt) c_20
                        obtain ⟨x_21, ex_21⟩ : ∃ y : Int32, y = y3_0 + 1 := ⟨_, rfl⟩
                        try have tx_21 : x_21.toInt = y3_0.toInt + 1 := by rw [ex_21]; exact gz_addP (x := y3_0.toInt) (y := 1) rfl (by decide) (by omega) (by omega)
                        refine lv_iinc (v := (x_21)) (lv' := [(3, .int x_21), (6, .int y18_1), (5, .int y18_0), (4, .int y14_0), (0, .ref (ad 0 0)), (1, .int x), (2, .int y)]) hx hb dX10_byTurns_159 hl (k := 3) rfl (by rw [ex_21]; rfl) (by decide) rfl (fun ls hl => ?_)
                        refine lv_goto (tgt := 8) hx hb dX10_byTurns_162 (by decide) ?_
                        exact ih_3  (x_21 : Int32) H _ ls (by omega)  (by have hb0 : (0 : Int) ≤ (st 0 0 28).toInt ∧ (st 0 0 28).toInt ≤ (1 : Int) := hB_st.1 0 0 28; omega) hM hS (lv_sub hl [0, 4, 5, 6] rfl)
                      · have ic_20 := gz_nle (rfl : x_19.toInt = x_19.toInt) (rfl : y18_1.toInt = y18_1.toInt) c_20
                        have lc_20 := gi_hi x_19
                        refine lv_iload hx hb dX10_byTurns_106 (lv_at hl 1 rfl) ?_
                        refine lv_aload_n hx hb dX10_byTurns_108 rfl (lv_at hl 4 rfl) ?_
                        refine gs_get (C := RX10) (T := TX10) (N := 59) hx hb hts inX10 hown hK hM 0 0 27 (by decide) rfl rfl (by decide) (hts _ gm_924) (fun _ h9 => h9) rfl dX10_byTurns_109 ?_
                        refine lv_bipush (v := 8) hx hb dX10_byTurns_112 (by decide) ?_
                        refine lv_iload_n hx hb dX10_byTurns_114 rfl (lv_at hl 3 rfl) ?_
                        refine lv_imul hx hb dX10_byTurns_115 ?_
                        refine lv_topi (fun x_22 ex_22 => ?_)
                        try have tx_22 : x_22.toInt = 8 * y3_0.toInt := by rw [ex_22]; exact gz_mulI (x := 8) (y := y3_0.toInt) (by decide) rfl (by omega) (by omega)
                        refine lv_iload hx hb dX10_byTurns_116 (lv_at hl 0 rfl) ?_
                        refine lv_iadd hx hb dX10_byTurns_118 ?_
                        refine lv_topi (fun x_23 ex_23 => ?_)
                        try have tx_23 : x_23.toInt = x_22.toInt + y18_1.toInt := by rw [ex_23]; exact gz_addI (x := x_22.toInt) (y := y18_1.toInt) rfl rfl (by omega) (by omega)
                        refine gs_iald hx hb hK hM 15 0 (by decide) rfl (vp_in_iff.mpr ⟨by omega, by omega⟩) dX10_byTurns_119 ?_
                        refine lv_topi (fun x_24 ex_24 => ?_)
                        have qx_24 : x_24.toInt = (st 15 0 (x_23.toNatClampNeg)).toInt := congrArg Int32.toInt ex_24
                        have bx_24 : (0 : Int) ≤ x_24.toInt ∧ x_24.toInt ≤ (9 : Int) := by rw [qx_24]; exact hB_st.1 15 0 (x_23.toNatClampNeg)
                        refine lv_icmp_ge (tgt := 136) hx hb dX10_byTurns_120 (by decide) (fun c_25 => ?_) (fun c_25 => ?_)
                        · have ic_25 := gz_le (rfl : x_24.toInt = x_24.toInt) (rfl : y18_0.toInt = y18_0.toInt) c_25
                          refine lv_iload hx hb dX10_byTurns_136 (lv_at hl 1 rfl) ?_
                          refine lv_aload_n hx hb dX10_byTurns_138 rfl (lv_at hl 4 rfl) ?_
                          refine gs_get (C := RX10) (T := TX10) (N := 59) hx hb hts inX10 hown hK hM 0 0 27 (by decide) rfl rfl (by decide) (hts _ gm_924) (fun _ h9 => h9) rfl dX10_byTurns_139 ?_
                          refine lv_bipush (v := 8) hx hb dX10_byTurns_142 (by decide) ?_
                          refine lv_iload_n hx hb dX10_byTurns_144 rfl (lv_at hl 3 rfl) ?_
                          refine lv_imul hx hb dX10_byTurns_145 ?_
                          refine lv_topi (fun x_26 ex_26 => ?_)
                          try have tx_26 : x_26.toInt = 8 * y3_0.toInt := by rw [ex_26]; exact gz_mulI (x := 8) (y := y3_0.toInt) (by decide) rfl (by omega) (by omega)
                          refine lv_iload hx hb dX10_byTurns_146 (lv_at hl 0 rfl) ?_
                          refine lv_iadd hx hb dX10_byTurns_148 ?_
                          refine lv_topi (fun x_27 ex_27 => ?_)
                          try have tx_27 : x_27.toInt = x_26.toInt + y18_1.toInt := by rw [ex_27]; exact gz_addI (x := x_26.toInt) (y := y18_1.toInt) rfl rfl (by omega) (by omega)
                          refine gs_iald hx hb hK hM 15 0 (by decide) rfl (vp_in_iff.mpr ⟨by omega, by omega⟩) dX10_byTurns_149 ?_
                          refine lv_topi (fun x_28 ex_28 => ?_)
                          have qx_28 : x_28.toInt = (st 15 0 (x_27.toNatClampNeg)).toInt := congrArg Int32.toInt ex_28
                          have bx_28 : (0 : Int) ≤ x_28.toInt ∧ x_28.toInt ≤ (9 : Int) := by rw [qx_28]; exact hB_st.1 15 0 (x_27.toNatClampNeg)
                          refine lv_isub hx hb dX10_byTurns_150 ?_
                          refine lv_topi (fun x_29 ex_29 => ?_)
                          refine lv_istore (lv' := [(5, .int x_29), (6, .int y18_1), (4, .int y14_0), (3, .int y3_0), (0, .ref (ad 0 0)), (1, .int x), (2, .int y)]) hx hb dX10_byTurns_151 hl (by decide) rfl (fun ls hl => ?_)
                          obtain ⟨x_30, ex_30⟩ : ∃ y : Int32, y = y18_1 + 1 := ⟨_, rfl⟩
                          try have tx_30 : x_30.toInt = y18_1.toInt + 1 := by rw [ex_30]; exact gz_addP (x := y18_1.toInt) (y := 1) rfl (by decide) (by omega) (by omega)
                          refine lv_iinc (v := (x_30)) (lv' := [(6, .int x_30), (5, .int x_29), (4, .int y14_0), (3, .int y3_0), (0, .ref (ad 0 0)), (1, .int x), (2, .int y)]) hx hb dX10_byTurns_153 hl (k := 1) rfl (by rw [ex_30]; rfl) (by decide) rfl (fun ls hl => ?_)
                          refine lv_goto (tgt := 95) hx hb dX10_byTurns_156 (by decide) ?_
                          exact ih_18  (x_29 : Int32) (x_30 : Int32) H _ ls (by omega)  (by omega) hM hS (lv_sub hl [0, 1, 2, 3, 4, 5, 6] rfl)
                        · have ic_25 := gz_nle (rfl : x_24.toInt = x_24.toInt) (rfl : y18_0.toInt = y18_0.toInt) c_25
                          have lc_25 := gi_hi x_24
                          refine lv_aload_n hx hb dX10_byTurns_123 rfl (lv_at hl 4 rfl) ?_
                          refine gs_get (C := RX10) (T := TX10) (N := 59) hx hb hts inX10 hown hK hM 0 0 26 (by decide) rfl rfl (by decide) (hts _ gm_923) (fun _ h9 => h9) rfl dX10_byTurns_124 ?_
                          refine lv_bipush (v := 8) hx hb dX10_byTurns_127 (by decide) ?_
                          refine lv_iload_n hx hb dX10_byTurns_129 rfl (lv_at hl 3 rfl) ?_
                          refine lv_imul hx hb dX10_byTurns_130 ?_
                          refine lv_topi (fun x_31 ex_31 => ?_)
                          try have tx_31 : x_31.toInt = 8 * y3_0.toInt := by rw [ex_31]; exact gz_mulI (x := 8) (y := y3_0.toInt) (by decide) rfl (by omega) (by omega)
                          refine lv_iload hx hb dX10_byTurns_131 (lv_at hl 0 rfl) ?_
                          refine lv_iadd hx hb dX10_byTurns_133 ?_
                          refine lv_topi (fun x_32 ex_32 => ?_)
                          try have tx_32 : x_32.toInt = x_31.toInt + y18_1.toInt := by rw [ex_32]; exact gz_addI (x := x_31.toInt) (y := y18_1.toInt) rfl rfl (by omega) (by omega)
                          refine gs_iald hx hb hK hM 14 0 (by decide) rfl (vp_in_iff.mpr ⟨by omega, by omega⟩) dX10_byTurns_134 ?_
                          refine lv_topi (fun x_33 ex_33 => ?_)
                          have qx_33 : x_33.toInt = (st 14 0 (x_32.toNatClampNeg)).toInt := congrArg Int32.toInt ex_33
                          rw [← hQe]
                          exact gs_iret hx hb hr hlocks hM hS rfl ⟨hB_st, trivial⟩ (by exact Nat.le_refl _) (by exact Nat.le_refl _) dX10_byTurns_135
                  exact lp18 ((8 - ((0 : Int32) : Int32).toInt).toNat + 1)  (x_17 : Int32) ((0 : Int32) : Int32) H _ ls (Nat.lt_succ_self _)  (by have hl0 : (0 : Int32).toInt = 0 := (by decide); omega) hM hS (lv_sub hl [0, 1, 2, 3, 4, 5, 6] rfl)
                · have ic_16 := gz_nle (rfl : x_15.toInt = x_15.toInt) (rfl : y14_1.toInt = y14_1.toInt) c_16
                  have lc_16 := gi_hi x_15
                  refine lv_iload hx hb dX10_byTurns_63 (lv_at hl 1 rfl) ?_
                  refine lv_aload_n hx hb dX10_byTurns_65 rfl (lv_at hl 3 rfl) ?_
                  refine gs_get (C := RX10) (T := TX10) (N := 59) hx hb hts inX10 hown hK hM 0 0 27 (by decide) rfl rfl (by decide) (hts _ gm_924) (fun _ h9 => h9) rfl dX10_byTurns_66 ?_
                  refine lv_bipush (v := 8) hx hb dX10_byTurns_69 (by decide) ?_
                  refine lv_iload_n hx hb dX10_byTurns_71 rfl (lv_at hl 2 rfl) ?_
                  refine lv_imul hx hb dX10_byTurns_72 ?_
                  refine lv_topi (fun x_34 ex_34 => ?_)
                  try have tx_34 : x_34.toInt = 8 * y3_0.toInt := by rw [ex_34]; exact gz_mulI (x := 8) (y := y3_0.toInt) (by decide) rfl (by omega) (by omega)
                  refine lv_iload hx hb dX10_byTurns_73 (lv_at hl 0 rfl) ?_
                  refine lv_iadd hx hb dX10_byTurns_75 ?_
                  refine lv_topi (fun x_35 ex_35 => ?_)
                  try have tx_35 : x_35.toInt = x_34.toInt + y14_1.toInt := by rw [ex_35]; exact gz_addI (x := x_34.toInt) (y := y14_1.toInt) rfl rfl (by omega) (by omega)
                  refine gs_iald hx hb hK hM 15 0 (by decide) rfl (vp_in_iff.mpr ⟨by omega, by omega⟩) dX10_byTurns_76 ?_
                  refine lv_topi (fun x_36 ex_36 => ?_)
                  have qx_36 : x_36.toInt = (st 15 0 (x_35.toNatClampNeg)).toInt := congrArg Int32.toInt ex_36
                  have bx_36 : (0 : Int) ≤ x_36.toInt ∧ x_36.toInt ≤ (9 : Int) := by rw [qx_36]; exact hB_st.1 15 0 (x_35.toNatClampNeg)
                  have hK1 : y14_1.toInt = 0 → 1 ≤ x_36.toInt := fun h9 => (by have c2 := gs_cl (x := x_35) (by omega); have e9 : x_35.toNatClampNeg = 8 * y3_0.toNatClampNeg := (by omega); rw [qx_36, e9]; exact hA2)
                  refine lv_iadd hx hb dX10_byTurns_77 ?_
                  refine lv_topi (fun x_37 ex_37 => ?_)
                  try have tx_37 : x_37.toInt = y14_0.toInt + x_36.toInt := by rw [ex_37]; exact gz_addI (x := y14_0.toInt) (y := x_36.toInt) rfl rfl (by omega) (by omega)
                  refine lv_istore (lv' := [(4, .int x_37), (5, .int y14_1), (3, .int y3_0), (0, .ref (ad 0 0)), (1, .int x), (2, .int y)]) hx hb dX10_byTurns_78 hl (by decide) rfl (fun ls hl => ?_)
                  obtain ⟨x_38, ex_38⟩ : ∃ y : Int32, y = y14_1 + 1 := ⟨_, rfl⟩
                  try have tx_38 : x_38.toInt = y14_1.toInt + 1 := by rw [ex_38]; exact gz_addP (x := y14_1.toInt) (y := 1) rfl (by decide) (by omega) (by omega)
                  refine lv_iinc (v := (x_38)) (lv' := [(5, .int x_38), (4, .int x_37), (3, .int y3_0), (0, .ref (ad 0 0)), (1, .int x), (2, .int y)]) hx hb dX10_byTurns_80 hl (k := 1) rfl (by rw [ex_38]; rfl) (by decide) rfl (fun ls hl => ?_)
                  refine lv_goto (tgt := 52) hx hb dX10_byTurns_83 (by decide) ?_
                  exact ih_14  (x_37 : Int32) (x_38 : Int32) H _ ls (by omega)  (by omega) (by omega) (by omega) (by omega) (by omega) hM hS (lv_sub hl [0, 1, 2, 3, 4, 5] rfl)
            exact lp14 ((8 - ((0 : Int32) : Int32).toInt).toNat + 1)  ((0 : Int32) : Int32) ((0 : Int32) : Int32) H _ ls (Nat.lt_succ_self _)  (by have hl0 : (0 : Int32).toInt = 0 := (by decide); have hl1 : (0 : Int32).toInt = 0 := (by decide); omega) (by have hl0 : (0 : Int32).toInt = 0 := (by decide); have hl1 : (0 : Int32).toInt = 0 := (by decide); omega) (by have hl0 : (0 : Int32).toInt = 0 := (by decide); have hl1 : (0 : Int32).toInt = 0 := (by decide); omega) (by have hl0 : (0 : Int32).toInt = 0 := (by decide); have hl1 : (0 : Int32).toInt = 0 := (by decide); omega) (by have hl0 : (0 : Int32).toInt = 0 := (by decide); have hl1 : (0 : Int32).toInt = 0 := (by decide); omega) hM hS (lv_sub hl [0, 1, 2, 3, 4, 5] rfl)
          · have ic_13 := gz_ne (rfl : x_12.toInt = x_12.toInt) (rfl : x.toInt = x.toInt) c_13
            refine lv_goto (tgt := 159) hx hb dX10_byTurns_43 (by decide) ?_
            obtain ⟨x_39, ex_39⟩ : ∃ y : Int32, y = y3_0 + 1 := ⟨_, rfl⟩
            try have tx_39 : x_39.toInt = y3_0.toInt + 1 := by rw [ex_39]; exact gz_addP (x := y3_0.toInt) (y := 1) rfl (by decide) (by omega) (by omega)
            refine lv_iinc (v := (x_39)) (lv' := [(3, .int x_39), (0, .ref (ad 0 0)), (1, .int x), (2, .int y)]) hx hb dX10_byTurns_159 hl (k := 0) rfl (by rw [ex_39]; rfl) (by decide) rfl (fun ls hl => ?_)
            refine lv_goto (tgt := 8) hx hb dX10_byTurns_162 (by decide) ?_
            exact ih_3  (x_39 : Int32) H _ ls (by omega)  (by have hb0 : (0 : Int) ≤ (st 0 0 28).toInt ∧ (st 0 0 28).toInt ≤ (1 : Int) := hB_st.1 0 0 28; omega) hM hS (lv_sub hl [0, 1, 2, 3] rfl)
  exact lp3 ((48 - (x_2 : Int32).toInt).toNat + 1)  (x_2 : Int32) H _ ls (Nat.lt_succ_self _)  (by have hb0 : (0 : Int) ≤ (st 0 0 28).toInt ∧ (st 0 0 28).toInt ≤ (1 : Int) := hB_st.1 0 0 28; omega) hM hS (lv_sub hl [0, 1, 2, 3] rfl)

set_option maxHeartbeats 4000000 in
set_option maxRecDepth 100000 in
/-- WellCourtModel.byDrought -/
theorem m_byDrought (l : Launch) (G : va_G) (cy : Nat → ClassId) (sK sV : Nat → Nat) (ad : Nat → Nat → Nat) (sz : Nat) (st : gS) (hB : gBd bM st) (x : Int32) (y : Int32) (Xx : Int) (Xy : Int) (kx : x.toInt = Xx) (ky : y.toInt = Xy) : gsMi l yX10_byDrought cX10_byDrought 4 (some .int) ({ frames := 0, cells := 0, slots := 0, locals := 0 } : Room) G cy sK sV (shM cy ad) cnM ad sz [.ref (ad 0 0), .int x, .int y] st (fun (r : Int32) (u : gS) => gBN bM kM [] st u ∧ (True)) := by
  refine gs_start (fun A => gsQi G (shM cy ad) cnM ad _ A) (by decide) (Nat.le_of_ble_eq_true rfl) ?_
  intro p e s m below meth c A ls H hx hb hr hml hlocks hown hts hK hov hE hI hM hm hS hA hl
  have hl : lv_has ls 4 [(0, .ref (ad 0 0)), (1, .int x), (2, .int y)] := hl
  have hB_st : gBN bM kM [] st st := gBN.rf hB
  have bb1 : (0 : Int) ≤ (st 0 0 28).toInt ∧ (st 0 0 28).toInt ≤ (1 : Int) := hB 0 0 28
  have bb2 : (0 : Int) ≤ (st 0 0 29).toInt ∧ (st 0 0 29).toInt ≤ (20 : Int) := hB 0 0 29
  have bb3 : (0 : Int) ≤ (st 0 0 30).toInt ∧ (st 0 0 30).toInt ≤ (20 : Int) := hB 0 0 30
  generalize hQe : MQ below _ _ s _ _ A = Q
  refine lv_bipush (v := 24) hx hb dX10_byDrought_0 (by decide) ?_
  refine lv_aload_n hx hb dX10_byDrought_2 rfl (lv_at hl 0 rfl) ?_
  refine gs_get (C := RX10) (T := TX10) (N := 59) hx hb hts inX10 hown hK hM 0 0 28 (by decide) rfl rfl (by decide) (hts _ gm_925) (fun _ h9 => h9) rfl dX10_byDrought_3 ?_
  have bf_1 : (0 : Int) ≤ (st 0 0 28).toInt ∧ (st 0 0 28).toInt ≤ (1 : Int) := hB_st.1 0 0 28
  refine lv_imul hx hb dX10_byDrought_6 ?_
  refine lv_topi (fun x_2 ex_2 => ?_)
  try have tx_2 : x_2.toInt = 24 * (st 0 0 28).toInt := by rw [ex_2]; exact gz_mulI (x := 24) (y := (st 0 0 28).toInt) (by decide) rfl (by omega) (by omega)
  refine lv_istore_n (lv' := [(3, .int x_2), (0, .ref (ad 0 0)), (1, .int x), (2, .int y)]) hx hb dX10_byDrought_7 rfl hl (by decide) rfl (fun ls hl => ?_)
  have lp3 : ∀ (n3 : Nat)  (y3_0 : Int32) (H : Heap) (locs : List Loc) (ls : Array Slot), (48 - y3_0.toInt).toNat < n3 →  (24 * (st 0 0 28).toInt ≤ y3_0.toInt) → gM G (shM cy ad) cnM ad st H → va_S A s.heap H locs → lv_has ls 4 [(3, .int y3_0), (0, .ref (ad 0 0)), (1, .int x), (2, .int y)] → W p l e ({ frames := 0, cells := 0, slots := 0, locals := 0 } : Room) s m [.ref (ad 0 0), .int x, .int y].toArray below meth c H locs 0 0 Q (F0 m 8 ls []) := by
    intro n3
    induction n3 with
    | zero => intro  y3_0 H locs ls h9; exact absurd h9 (Nat.not_lt_zero _)
    | succ n3 ih_3 =>
      intro  y3_0 H locs ls hme3  hv3_0 hM hS hl
      have hb3_0 : (0 : Int) ≤ (st 0 0 28).toInt ∧ (st 0 0 28).toInt ≤ (1 : Int) := hB_st.1 0 0 28
      refine lv_iload_n hx hb dX10_byDrought_8 rfl (lv_at hl 0 rfl) ?_
      refine lv_bipush (v := 24) hx hb dX10_byDrought_9 (by decide) ?_
      refine lv_aload_n hx hb dX10_byDrought_11 rfl (lv_at hl 1 rfl) ?_
      refine gs_get (C := RX10) (T := TX10) (N := 59) hx hb hts inX10 hown hK hM 0 0 28 (by decide) rfl rfl (by decide) (hts _ gm_925) (fun _ h9 => h9) rfl dX10_byDrought_12 ?_
      have bf_4 : (0 : Int) ≤ (st 0 0 28).toInt ∧ (st 0 0 28).toInt ≤ (1 : Int) := hB_st.1 0 0 28
      refine lv_imul hx hb dX10_byDrought_15 ?_
      refine lv_topi (fun x_5 ex_5 => ?_)
      try have tx_5 : x_5.toInt = 24 * (st 0 0 28).toInt := by rw [ex_5]; exact gz_mulI (x := 24) (y := (st 0 0 28).toInt) (by decide) rfl (by omega) (by omega)
      refine lv_aload_n hx hb dX10_byDrought_16 rfl (lv_at hl 1 rfl) ?_
      refine gs_get (C := RX10) (T := TX10) (N := 59) hx hb hts inX10 hown hK hM 0 0 29 (by decide) rfl rfl (by decide) (hts _ gm_926) (fun _ h9 => h9) rfl dX10_byDrought_17 ?_
      have bf_6 : (0 : Int) ≤ (st 0 0 29).toInt ∧ (st 0 0 29).toInt ≤ (20 : Int) := hB_st.1 0 0 29
      refine lv_iadd hx hb dX10_byDrought_20 ?_
      refine lv_topi (fun x_7 ex_7 => ?_)
      try have tx_7 : x_7.toInt = x_5.toInt + (st 0 0 29).toInt := by rw [ex_7]; exact gz_addI (x := x_5.toInt) (y := (st 0 0 29).toInt) rfl rfl (by omega) (by omega)
      refine lv_icmp_ge (tgt := 67) hx hb dX10_byDrought_21 (by decide) (fun c_8 => ?_) (fun c_8 => ?_)
      · have ic_8 := gz_le (rfl : x_7.toInt = x_7.toInt) (rfl : y3_0.toInt = y3_0.toInt) c_8
        refine lv_iconst (v := (-1)) hx hb dX10_byDrought_67 (by decide) ?_
        rw [← hQe]
        exact gs_iret hx hb hr hlocks hM hS rfl ⟨hB_st, trivial⟩ (by exact Nat.le_refl _) (by exact Nat.le_refl _) dX10_byDrought_68
      · have ic_8 := gz_nle (rfl : x_7.toInt = x_7.toInt) (rfl : y3_0.toInt = y3_0.toInt) c_8
        have lc_8 := gi_hi x_7
        refine lv_aload_n hx hb dX10_byDrought_24 rfl (lv_at hl 1 rfl) ?_
        refine gs_get (C := RX10) (T := TX10) (N := 59) hx hb hts inX10 hown hK hM 0 0 20 (by decide) rfl rfl (by decide) (hts _ gm_917) (fun _ h9 => h9) rfl dX10_byDrought_25 ?_
        refine lv_iload_n hx hb dX10_byDrought_28 rfl (lv_at hl 0 rfl) ?_
        refine gs_iald hx hb hK hM 8 0 (by decide) rfl (vp_in_iff.mpr ⟨by omega, by omega⟩) dX10_byDrought_29 ?_
        refine lv_topi (fun x_9 ex_9 => ?_)
        have qx_9 : x_9.toInt = (st 8 0 (y3_0.toNatClampNeg)).toInt := congrArg Int32.toInt ex_9
        refine lv_iconst (v := 3) hx hb dX10_byDrought_30 (by decide) ?_
        refine lv_icmp_ne (tgt := 61) hx hb dX10_byDrought_31 (by decide) (fun c_10 => ?_) (fun c_10 => ?_)
        · have ic_10 := gz_ne (rfl : x_9.toInt = x_9.toInt) (by decide : (3 : Int32).toInt = 3) c_10
          obtain ⟨x_11, ex_11⟩ : ∃ y : Int32, y = y3_0 + 1 := ⟨_, rfl⟩
          try have tx_11 : x_11.toInt = y3_0.toInt + 1 := by rw [ex_11]; exact gz_addP (x := y3_0.toInt) (y := 1) rfl (by decide) (by omega) (by omega)
          refine lv_iinc (v := (x_11)) (lv' := [(3, .int x_11), (0, .ref (ad 0 0)), (1, .int x), (2, .int y)]) hx hb dX10_byDrought_61 hl (k := 0) rfl (by rw [ex_11]; rfl) (by decide) rfl (fun ls hl => ?_)
          refine lv_goto (tgt := 8) hx hb dX10_byDrought_64 (by decide) ?_
          exact ih_3  (x_11 : Int32) H _ ls (by omega)  (by have hb0 : (0 : Int) ≤ (st 0 0 28).toInt ∧ (st 0 0 28).toInt ≤ (1 : Int) := hB_st.1 0 0 28; omega) hM hS (lv_sub hl [0, 1, 2, 3] rfl)
        · have ic_10 := gz_eqn (rfl : x_9.toInt = x_9.toInt) (by decide : (3 : Int32).toInt = 3) c_10
          refine lv_aload_n hx hb dX10_byDrought_34 rfl (lv_at hl 1 rfl) ?_
          refine gs_get (C := RX10) (T := TX10) (N := 59) hx hb hts inX10 hown hK hM 0 0 21 (by decide) rfl rfl (by decide) (hts _ gm_918) (fun _ h9 => h9) rfl dX10_byDrought_35 ?_
          refine lv_iload_n hx hb dX10_byDrought_38 rfl (lv_at hl 0 rfl) ?_
          refine gs_iald hx hb hK hM 9 0 (by decide) rfl (vp_in_iff.mpr ⟨by omega, by omega⟩) dX10_byDrought_39 ?_
          refine lv_topi (fun x_12 ex_12 => ?_)
          have qx_12 : x_12.toInt = (st 9 0 (y3_0.toNatClampNeg)).toInt := congrArg Int32.toInt ex_12
          have bx_12 : (0 : Int) ≤ x_12.toInt ∧ x_12.toInt ≤ (5 : Int) := by rw [qx_12]; exact hB_st.1 9 0 (y3_0.toNatClampNeg)
          refine lv_iload_n hx hb dX10_byDrought_40 rfl (lv_at hl 2 rfl) ?_
          refine lv_icmp_ne (tgt := 61) hx hb dX10_byDrought_41 (by decide) (fun c_13 => ?_) (fun c_13 => ?_)
          · have ic_13 := gz_ne (rfl : x_12.toInt = x_12.toInt) (rfl : x.toInt = x.toInt) c_13
            obtain ⟨x_14, ex_14⟩ : ∃ y : Int32, y = y3_0 + 1 := ⟨_, rfl⟩
            try have tx_14 : x_14.toInt = y3_0.toInt + 1 := by rw [ex_14]; exact gz_addP (x := y3_0.toInt) (y := 1) rfl (by decide) (by omega) (by omega)
            refine lv_iinc (v := (x_14)) (lv' := [(3, .int x_14), (0, .ref (ad 0 0)), (1, .int x), (2, .int y)]) hx hb dX10_byDrought_61 hl (k := 0) rfl (by rw [ex_14]; rfl) (by decide) rfl (fun ls hl => ?_)
            refine lv_goto (tgt := 8) hx hb dX10_byDrought_64 (by decide) ?_
            exact ih_3  (x_14 : Int32) H _ ls (by omega)  (by have hb0 : (0 : Int) ≤ (st 0 0 28).toInt ∧ (st 0 0 28).toInt ≤ (1 : Int) := hB_st.1 0 0 28; omega) hM hS (lv_sub hl [0, 1, 2, 3] rfl)
          · have ic_13 := gz_eqn (rfl : x_12.toInt = x_12.toInt) (rfl : x.toInt = x.toInt) c_13
            refine lv_iload_n hx hb dX10_byDrought_44 rfl (lv_at hl 3 rfl) ?_
            refine lv_aload_n hx hb dX10_byDrought_45 rfl (lv_at hl 1 rfl) ?_
            refine gs_get (C := RX10) (T := TX10) (N := 59) hx hb hts inX10 hown hK hM 0 0 24 (by decide) rfl rfl (by decide) (hts _ gm_921) (fun _ h9 => h9) rfl dX10_byDrought_46 ?_
            refine lv_iload_n hx hb dX10_byDrought_49 rfl (lv_at hl 0 rfl) ?_
            refine gs_iald hx hb hK hM 12 0 (by decide) rfl (vp_in_iff.mpr ⟨by omega, by omega⟩) dX10_byDrought_50 ?_
            refine lv_topi (fun x_15 ex_15 => ?_)
            have qx_15 : x_15.toInt = (st 12 0 (y3_0.toNatClampNeg)).toInt := congrArg Int32.toInt ex_15
            refine lv_icmp_ge (tgt := 61) hx hb dX10_byDrought_51 (by decide) (fun c_16 => ?_) (fun c_16 => ?_)
            · have ic_16 := gz_le (rfl : x_15.toInt = x_15.toInt) (rfl : y.toInt = y.toInt) c_16
              obtain ⟨x_17, ex_17⟩ : ∃ y : Int32, y = y3_0 + 1 := ⟨_, rfl⟩
              try have tx_17 : x_17.toInt = y3_0.toInt + 1 := by rw [ex_17]; exact gz_addP (x := y3_0.toInt) (y := 1) rfl (by decide) (by omega) (by omega)
              refine lv_iinc (v := (x_17)) (lv' := [(3, .int x_17), (0, .ref (ad 0 0)), (1, .int x), (2, .int y)]) hx hb dX10_byDrought_61 hl (k := 0) rfl (by rw [ex_17]; rfl) (by decide) rfl (fun ls hl => ?_)
              refine lv_goto (tgt := 8) hx hb dX10_byDrought_64 (by decide) ?_
              exact ih_3  (x_17 : Int32) H _ ls (by omega)  (by have hb0 : (0 : Int) ≤ (st 0 0 28).toInt ∧ (st 0 0 28).toInt ≤ (1 : Int) := hB_st.1 0 0 28; omega) hM hS (lv_sub hl [0, 1, 2, 3] rfl)
            · have ic_16 := gz_nle (rfl : x_15.toInt = x_15.toInt) (rfl : y.toInt = y.toInt) c_16
              have lc_16 := gi_hi x_15
              refine lv_aload_n hx hb dX10_byDrought_54 rfl (lv_at hl 1 rfl) ?_
              refine gs_get (C := RX10) (T := TX10) (N := 59) hx hb hts inX10 hown hK hM 0 0 22 (by decide) rfl rfl (by decide) (hts _ gm_919) (fun _ h9 => h9) rfl dX10_byDrought_55 ?_
              refine lv_iload_n hx hb dX10_byDrought_58 rfl (lv_at hl 0 rfl) ?_
              refine gs_iald hx hb hK hM 10 0 (by decide) rfl (vp_in_iff.mpr ⟨by omega, by omega⟩) dX10_byDrought_59 ?_
              refine lv_topi (fun x_18 ex_18 => ?_)
              have qx_18 : x_18.toInt = (st 10 0 (y3_0.toNatClampNeg)).toInt := congrArg Int32.toInt ex_18
              rw [← hQe]
              exact gs_iret hx hb hr hlocks hM hS rfl ⟨hB_st, trivial⟩ (by exact Nat.le_refl _) (by exact Nat.le_refl _) dX10_byDrought_60
  exact lp3 ((48 - (x_2 : Int32).toInt).toNat + 1)  (x_2 : Int32) H _ ls (Nat.lt_succ_self _)  (by have hb0 : (0 : Int) ≤ (st 0 0 28).toInt ∧ (st 0 0 28).toInt ≤ (1 : Int) := hB_st.1 0 0 28; omega) hM hS (lv_sub hl [0, 1, 2, 3] rfl)

set_option maxHeartbeats 4000000 in
set_option maxRecDepth 100000 in
/-- WellCourtModel.droughts -/
theorem m_droughts (l : Launch) (G : va_G) (cy : Nat → ClassId) (sK sV : Nat → Nat) (ad : Nat → Nat → Nat) (sz : Nat) (st : gS) (hB : gBd bM st) : gsMv l yX10_droughts cX10_droughts 3 ({ frames := 1, cells := 0, slots := 0, locals := 23 } : Room) G cy sK sV (shM cy ad) cnM ad sz [.ref (ad 0 0)] st (fun (u : gS) => gBN bM kM [600] st u ∧ (True)) := by
  refine gs_start (fun A => gsQv G (shM cy ad) cnM ad _ A) (by decide) (Nat.le_of_ble_eq_true rfl) ?_
  intro p e s m below meth c A ls H hx hb hr hml hlocks hown hts hK hov hE hI hM hm hS hA hl
  have hl : lv_has ls 3 [(0, .ref (ad 0 0))] := hl
  have hB_st : gBN bM kM [600] st st := gBN.rf hB
  generalize hQe : MQ below _ _ s _ _ A = Q
  refine lv_iconst (v := 0) hx hb dX10_droughts_0 (by decide) ?_
  refine lv_istore_n (lv' := [(1, .int 0), (0, .ref (ad 0 0))]) hx hb dX10_droughts_1 rfl hl (by decide) rfl (fun ls hl => ?_)
  have lp1 : ∀ (n1 : Nat) (sv1 : gS) (y1_0 : Int32) (H : Heap) (locs : List Loc) (ls : Array Slot), (6 - y1_0.toInt).toNat < n1 → gBN bM kM [600] st sv1 → (0 ≤ y1_0.toInt) → gM G (shM cy ad) cnM ad sv1 H → va_S A s.heap H locs → lv_has ls 3 [(1, .int y1_0), (0, .ref (ad 0 0))] → W p l e ({ frames := 1, cells := 0, slots := 0, locals := 23 } : Room) s m [.ref (ad 0 0)].toArray below meth c H locs 0 0 Q (F0 m 2 ls []) := by
    intro n1
    induction n1 with
    | zero => intro sv1 y1_0 H locs ls h9; exact absurd h9 (Nat.not_lt_zero _)
    | succ n1 ih_1 =>
      intro sv1 y1_0 H locs ls hme1 hB_sv1 hv1_0 hM hS hl
      refine lv_iload_n hx hb dX10_droughts_2 rfl (lv_at hl 0 rfl) ?_
      refine lv_bipush (v := 6) hx hb dX10_droughts_3 (by decide) ?_
      refine lv_icmp_ge (tgt := 59) hx hb dX10_droughts_5 (by decide) (fun c_2 => ?_) (fun c_2 => ?_)
      · have ic_2 := gz_le (by decide : (6 : Int32).toInt = 6) (rfl : y1_0.toInt = y1_0.toInt) c_2
        rw [← hQe]
        exact gs_vret hx hb hr hlocks hM hS ⟨hB_sv1, trivial⟩ (by exact Nat.le_refl _) (by exact Nat.le_refl _) dX10_droughts_59
      · have ic_2 := gz_nle (by decide : (6 : Int32).toInt = 6) (rfl : y1_0.toInt = y1_0.toInt) c_2
        refine lv_aload_n hx hb dX10_droughts_8 rfl (lv_at hl 1 rfl) ?_
        refine gs_get (C := RX10) (T := TX10) (N := 59) hx hb hts inX10 hown hK hM 0 0 1 (by decide) rfl rfl (by decide) (hts _ gm_898) (fun _ h9 => h9) rfl dX10_droughts_9 ?_
        refine lv_iload_n hx hb dX10_droughts_12 rfl (lv_at hl 0 rfl) ?_
        refine gs_zald hx hb hK hM 1 0 (by decide) rfl (vp_in_iff.mpr ⟨by omega, by omega⟩) dX10_droughts_13 ?_
        refine lv_topi (fun x_3 ex_3 => ?_)
        have qx_3 : x_3.toInt = (sv1 1 0 (y1_0.toNatClampNeg)).toInt := congrArg Int32.toInt ex_3
        have rx_3 : x_3.toInt = ((st 1 0 (y1_0.toNatClampNeg)) : Int32).toInt := by rw [ex_3]; exact congrArg Int32.toInt ((hB_sv1.2 1 0 (y1_0.toNatClampNeg) (show (100 : Nat) ∉ _ from by decide)))
        refine lv_if_eq (tgt := 31) hx hb dX10_droughts_14 (by decide) (fun c_4 => ?_) (fun c_4 => ?_)
        · have ic_4 := gz_eq (rfl : x_3.toInt = x_3.toInt) (by decide : (0 : Int32).toInt = 0) c_4
          refine lv_iconst (v := (-1)) hx hb dX10_droughts_31 (by decide) ?_
          refine lv_istore_n (lv' := [(2, .int (-1)), (1, .int y1_0), (0, .ref (ad 0 0))]) hx hb dX10_droughts_32 rfl hl (by decide) rfl (fun ls hl => ?_)
          refine lv_iload_n hx hb dX10_droughts_33 rfl (lv_at hl 0 rfl) ?_
          refine lv_if_lt (tgt := 53) hx hb dX10_droughts_34 (by decide) (fun _ => ?_) (fun h9 => absurd (by decide) h9)
          obtain ⟨x_5, ex_5⟩ : ∃ y : Int32, y = y1_0 + 1 := ⟨_, rfl⟩
          try have tx_5 : x_5.toInt = y1_0.toInt + 1 := by rw [ex_5]; exact gz_addP (x := y1_0.toInt) (y := 1) rfl (by decide) (by omega) (by omega)
          refine lv_iinc (v := (x_5)) (lv' := [(1, .int x_5), (2, .int (-1)), (0, .ref (ad 0 0))]) hx hb dX10_droughts_53 hl (k := 1) rfl (by rw [ex_5]; rfl) (by decide) rfl (fun ls hl => ?_)
          refine lv_goto (tgt := 2) hx hb dX10_droughts_56 (by decide) ?_
          exact ih_1 sv1 (x_5 : Int32) H _ ls (by omega) hB_sv1 (by omega) hM hS (lv_sub hl [0, 2] rfl)
        · have ic_4 := gz_ne (rfl : x_3.toInt = x_3.toInt) (by decide : (0 : Int32).toInt = 0) c_4
          refine lv_aload_n hx hb dX10_droughts_17 rfl (lv_at hl 1 rfl) ?_
          refine lv_iload_n hx hb dX10_droughts_18 rfl (lv_at hl 0 rfl) ?_
          refine lv_aload_n hx hb dX10_droughts_19 rfl (lv_at hl 1 rfl) ?_
          refine gs_get (C := RX10) (T := TX10) (N := 59) hx hb hts inX10 hown hK hM 0 0 5 (by decide) rfl rfl (by decide) (hts _ gm_902) (fun _ h9 => h9) rfl dX10_droughts_20 ?_
          refine lv_iload_n hx hb dX10_droughts_23 rfl (lv_at hl 0 rfl) ?_
          refine gs_iald hx hb hK hM 5 0 (by decide) rfl (vp_in_iff.mpr ⟨by omega, by omega⟩) dX10_droughts_24 ?_
          refine lv_topi (fun x_6 ex_6 => ?_)
          have qx_6 : x_6.toInt = (sv1 5 0 (y1_0.toNatClampNeg)).toInt := congrArg Int32.toInt ex_6
          have rx_6 : x_6.toInt = ((st 5 0 (y1_0.toNatClampNeg)) : Int32).toInt := by rw [ex_6]; exact congrArg Int32.toInt ((hB_sv1.2 5 0 (y1_0.toNatClampNeg) (show (500 : Nat) ∉ _ from by decide)))
          refine gs_calli (va_runV (As := [.int y1_0, .int x_6]) (rest := []) ⟨hx, hb, hml, hown, hts⟩ (m_byDrought l G cy sK sV ad H.size sv1 hB_sv1.1 y1_0 x_6 y1_0.toInt x_6.toInt rfl rfl ) ⟨(gz_cb (n := 2) hts gm_1181 gm_12 gm_1184 ⟨by decide +kernel, by decide +kernel, by decide +kernel⟩ ⟨Nat.le_of_ble_eq_true rfl, Nat.le_of_ble_eq_true rfl⟩), hts _ gm_1183, hts _ gs_49⟩ (gs_preV hK hov hE hI hM hm hS hA 0 0 (by decide) rfl rfl) rfl rfl hl.1 rfl (lv_room (Nat.le_of_ble_eq_true rfl)) dX10_droughts_25 ⟨Nat.le_of_ble_eq_true rfl, Nat.le_of_ble_eq_true rfl⟩) hm hS hA (fun r_7 st_7 H locs hw_7 hM hS => ?_)
          obtain ⟨n_7, hw_7⟩ := hw_7
          have n_7 := gBN.nil n_7
          subst n_7
          refine lv_goto (tgt := 32) hx hb dX10_droughts_28 (by decide) ?_
          refine lv_istore_n (lv' := [(2, .int r_7), (1, .int y1_0), (0, .ref (ad 0 0))]) hx hb dX10_droughts_32 rfl hl (by decide) rfl (fun ls hl => ?_)
          refine lv_iload_n hx hb dX10_droughts_33 rfl (lv_at hl 0 rfl) ?_
          refine lv_if_lt (tgt := 53) hx hb dX10_droughts_34 (by decide) (fun c_8 => ?_) (fun c_8 => ?_)
          · have ic_8 := gz_lt (rfl : r_7.toInt = r_7.toInt) (by decide : (0 : Int32).toInt = 0) c_8
            obtain ⟨x_9, ex_9⟩ : ∃ y : Int32, y = y1_0 + 1 := ⟨_, rfl⟩
            try have tx_9 : x_9.toInt = y1_0.toInt + 1 := by rw [ex_9]; exact gz_addP (x := y1_0.toInt) (y := 1) rfl (by decide) (by omega) (by omega)
            refine lv_iinc (v := (x_9)) (lv' := [(1, .int x_9), (2, .int r_7), (0, .ref (ad 0 0))]) hx hb dX10_droughts_53 hl (k := 1) rfl (by rw [ex_9]; rfl) (by decide) rfl (fun ls hl => ?_)
            refine lv_goto (tgt := 2) hx hb dX10_droughts_56 (by decide) ?_
            exact ih_1 sv1 (x_9 : Int32) H _ ls (by omega) hB_sv1 (by omega) hM hS (lv_sub hl [0, 2] rfl)
          · have ic_8 := gz_nlt (rfl : r_7.toInt = r_7.toInt) (by decide : (0 : Int32).toInt = 0) c_8
            refine lv_aload_n hx hb dX10_droughts_37 rfl (lv_at hl 2 rfl) ?_
            refine gs_get (C := RX10) (T := TX10) (N := 59) hx hb hts inX10 hown hK hM 0 0 6 (by decide) rfl rfl (by decide) (hts _ gm_903) (fun _ h9 => h9) rfl dX10_droughts_38 ?_
            refine lv_sipush (v := 200) hx hb dX10_droughts_41 (by decide) ?_
            refine lv_iload_n hx hb dX10_droughts_44 rfl (lv_at hl 1 rfl) ?_
            refine lv_imul hx hb dX10_droughts_45 ?_
            refine lv_topi (fun x_10 ex_10 => ?_)
            try have tx_10 : x_10.toInt = 200 * y1_0.toInt := by rw [ex_10]; exact gz_mulI (x := 200) (y := y1_0.toInt) (by decide) rfl (by omega) (by omega)
            refine lv_aload_n hx hb dX10_droughts_46 rfl (lv_at hl 2 rfl) ?_
            refine gs_get (C := RX10) (T := TX10) (N := 59) hx hb hts inX10 hown hK hM 0 0 7 (by decide) rfl rfl (by decide) (hts _ gm_904) (fun _ h9 => h9) rfl dX10_droughts_47 ?_
            refine lv_topi (fun x_11 ex_11 => ?_)
            have ex_11 : (st 0 0 7) = x_11 := Eq.symm (ex_11.trans (hB_sv1.2 0 0 7 (show (7 : Nat) ∉ _ from by decide)))
            subst ex_11
            have bf_12 : (0 : Int) ≤ (st 0 0 7).toInt ∧ (st 0 0 7).toInt ≤ (199 : Int) := hB_st.1 0 0 7
            refine lv_iadd hx hb dX10_droughts_50 ?_
            refine lv_topi (fun x_13 ex_13 => ?_)
            try have tx_13 : x_13.toInt = x_10.toInt + (st 0 0 7).toInt := by rw [ex_13]; exact gz_addI (x := x_10.toInt) (y := (st 0 0 7).toInt) rfl rfl (by omega) (by omega)
            refine lv_iload_n hx hb dX10_droughts_51 rfl (lv_at hl 0 rfl) ?_
            refine gs_iast hx hb hK hI hm hM hS 6 0 (by decide) (fun _ => rfl) (vp_in_iff.mpr ⟨by omega, by omega⟩) dX10_droughts_52 (fun st_14 H locs est_14 hM hS => ?_)
            have hB_st_14 : gBN bM kM [600] st st_14 := by rw [est_14]; exact hB_sv1.up (show (600 : Nat) ∈ _ from by decide) (gi_lo _) (gi_hi _)
            obtain ⟨x_15, ex_15⟩ : ∃ y : Int32, y = y1_0 + 1 := ⟨_, rfl⟩
            try have tx_15 : x_15.toInt = y1_0.toInt + 1 := by rw [ex_15]; exact gz_addP (x := y1_0.toInt) (y := 1) rfl (by decide) (by omega) (by omega)
            refine lv_iinc (v := (x_15)) (lv' := [(1, .int x_15), (2, .int r_7), (0, .ref (ad 0 0))]) hx hb dX10_droughts_53 hl (k := 1) rfl (by rw [ex_15]; rfl) (by decide) rfl (fun ls hl => ?_)
            refine lv_goto (tgt := 2) hx hb dX10_droughts_56 (by decide) ?_
            exact ih_1 st_14 (x_15 : Int32) H _ ls (by omega) hB_st_14 (by omega) hM hS (lv_sub hl [0, 2] rfl)
  exact lp1 ((6 - ((0 : Int32) : Int32).toInt).toNat + 1) st ((0 : Int32) : Int32) H _ ls (Nat.lt_succ_self _) hB_st (by have hl0 : (0 : Int32).toInt = 0 := (by decide); omega) hM hS (lv_sub hl [0, 1] rfl)

set_option maxHeartbeats 4000000 in
set_option maxRecDepth 100000 in
/-- WellCourtModel.rights -/
theorem m_rights (l : Launch) (G : va_G) (cy : Nat → ClassId) (sK sV : Nat → Nat) (ad : Nat → Nat → Nat) (sz : Nat) (st : gS) (hB : gBd bM st) (htd : mTdR (st 13 0) (st 15 0)) (hact : mActR (st 8 0) (st 13 0) (st 0 0 28).toInt (st 0 0 29).toInt) : gsMi l yX10_rights cX10_rights 5 (some .int) ({ frames := 5, cells := 0, slots := 0, locals := 113 } : Room) G cy sK sV (shM cy ad) cnM ad sz [.ref (ad 0 0)] st (fun (r : Int32) (u : gS) => gBN bM kM [0, 9, 10, 11, 12, 13, 14, 15, 16, 17, 18, 19, 28, 29, 30, 59, 600, 800, 900, 1000, 1100, 1200, 1300, 1400, 1500] st u ∧ ((mTdR (u 13 0) (u 15 0)) ∧ (mActR (u 8 0) (u 13 0) (u 0 0 28).toInt (u 0 0 29).toInt) ∧ ((u 0 0 9).toInt = 0))) := by
  refine gs_start (fun A => gsQi G (shM cy ad) cnM ad _ A) (by decide) (Nat.le_of_ble_eq_true rfl) ?_
  intro p e s m below meth c A ls H hx hb hr hml hlocks hown hts hK hov hE hI hM hm hS hA hl
  have hl : lv_has ls 5 [(0, .ref (ad 0 0))] := hl
  have hB_st : gBN bM kM [0, 9, 10, 11, 12, 13, 14, 15, 16, 17, 18, 19, 28, 29, 30, 59, 600, 800, 900, 1000, 1100, 1200, 1300, 1400, 1500] st st := gBN.rf hB
  have bb1 : (0 : Int) ≤ (st 0 0 28).toInt ∧ (st 0 0 28).toInt ≤ (1 : Int) := hB 0 0 28
  have bb2 : (0 : Int) ≤ (st 0 0 29).toInt ∧ (st 0 0 29).toInt ≤ (20 : Int) := hB 0 0 29
  have bb3 : (0 : Int) ≤ (st 0 0 30).toInt ∧ (st 0 0 30).toInt ≤ (20 : Int) := hB 0 0 30
  generalize hQe : MQ below _ _ s _ _ A = Q
  refine lv_aload_n hx hb dX10_rights_0 rfl (lv_at hl 0 rfl) ?_
  refine lv_iconst (v := 0) hx hb dX10_rights_1 (by decide) ?_
  refine gs_put (C := RX10) (T := TX10) (N := 59) (ty := .int) (val := .int 0) hx hb hts inX10 tyX10 tyX10_ok nmX10 hown hK hI hm hM hS 0 0 0 (by decide) rfl rfl (by decide) (hts _ gm_897) (fun _ h9 => h9) rfl (0 : Int32) rfl (by decide +kernel) rfl rfl (Nat.le_of_ble_eq_true rfl) dX10_rights_2 (fun st_1 H locs est_1 hM hS => ?_)
  have hB_st_1 : gBN bM kM [0, 9, 10, 11, 12, 13, 14, 15, 16, 17, 18, 19, 28, 29, 30, 59, 600, 800, 900, 1000, 1100, 1200, 1300, 1400, 1500] st st_1 := by rw [est_1]; exact hB_st.up (show (0 : Nat) ∈ _ from by decide) (gi_lo _) (gi_hi _)
  refine lv_aload_n hx hb dX10_rights_5 rfl (lv_at hl 0 rfl) ?_
  refine lv_aload_n hx hb dX10_rights_6 rfl (lv_at hl 0 rfl) ?_
  refine gs_get (C := RX10) (T := TX10) (N := 59) hx hb hts inX10 hown hK hM 0 0 9 (by decide) rfl rfl (by decide) (hts _ gm_906) (fun _ h9 => h9) rfl dX10_rights_7 ?_
  refine lv_topi (fun x_2 ex_2 => ?_)
  have ex_2 : (st 0 0 9) = x_2 := Eq.symm (ex_2.trans ((congrFun (congrFun (congrFun est_1 0) 0) 9).trans (gU_other (by decide))))
  subst ex_2
  have bf_3 : (0 : Int) ≤ (st 0 0 9).toInt ∧ (st 0 0 9).toInt ≤ (800 : Int) := hB_st.1 0 0 9
  refine gs_put (C := RX10) (T := TX10) (N := 59) (ty := .int) (val := .int (st 0 0 9)) hx hb hts inX10 tyX10 tyX10_ok nmX10 hown hK hI hm hM hS 0 0 10 (by decide) rfl rfl (by decide) (hts _ gm_907) (fun _ h9 => h9) rfl ((st 0 0 9) : Int32) rfl (by decide +kernel) rfl rfl (Nat.le_of_ble_eq_true rfl) dX10_rights_10 (fun st_4 H locs est_4 hM hS => ?_)
  have hB_st_4 : gBN bM kM [0, 9, 10, 11, 12, 13, 14, 15, 16, 17, 18, 19, 28, 29, 30, 59, 600, 800, 900, 1000, 1100, 1200, 1300, 1400, 1500] st st_4 := by rw [est_4]; exact hB_st_1.up (show (10 : Nat) ∈ _ from by decide) (show (0 : Int) ≤ (st 0 0 9).toInt from by omega) (show (st 0 0 9).toInt ≤ (800 : Int) from by omega)
  refine lv_aload_n hx hb dX10_rights_13 rfl (lv_at hl 0 rfl) ?_
  refine lv_iconst (v := 0) hx hb dX10_rights_14 (by decide) ?_
  refine gs_put (C := RX10) (T := TX10) (N := 59) (ty := .int) (val := .int 0) hx hb hts inX10 tyX10 tyX10_ok nmX10 hown hK hI hm hM hS 0 0 9 (by decide) rfl rfl (by decide) (hts _ gm_906) (fun _ h9 => h9) rfl (0 : Int32) rfl (by decide +kernel) rfl rfl (Nat.le_of_ble_eq_true rfl) dX10_rights_15 (fun st_5 H locs est_5 hM hS => ?_)
  have hB_st_5 : gBN bM kM [0, 9, 10, 11, 12, 13, 14, 15, 16, 17, 18, 19, 28, 29, 30, 59, 600, 800, 900, 1000, 1100, 1200, 1300, 1400, 1500] st st_5 := by rw [est_5]; exact hB_st_4.up (show (9 : Nat) ∈ _ from by decide) (show (0 : Int) ≤ ((0 : Int32)).toInt from by decide) (show ((0 : Int32)).toInt ≤ (800 : Int) from by decide)
  refine lv_aload_n hx hb dX10_rights_18 rfl (lv_at hl 0 rfl) ?_
  refine lv_iconst (v := 0) hx hb dX10_rights_19 (by decide) ?_
  refine gs_put (C := RX10) (T := TX10) (N := 59) (ty := .int) (val := .int 0) hx hb hts inX10 tyX10 tyX10_ok nmX10 hown hK hI hm hM hS 0 0 11 (by decide) rfl rfl (by decide) (hts _ gm_908) (fun _ h9 => h9) rfl (0 : Int32) rfl (by decide +kernel) rfl rfl (Nat.le_of_ble_eq_true rfl) dX10_rights_20 (fun st_6 H locs est_6 hM hS => ?_)
  have hB_st_6 : gBN bM kM [0, 9, 10, 11, 12, 13, 14, 15, 16, 17, 18, 19, 28, 29, 30, 59, 600, 800, 900, 1000, 1100, 1200, 1300, 1400, 1500] st st_6 := by rw [est_6]; exact hB_st_5.up (show (11 : Nat) ∈ _ from by decide) (show (0 : Int) ≤ ((0 : Int32)).toInt from by decide) (show ((0 : Int32)).toInt ≤ (800 : Int) from by decide)
  refine lv_aload_n hx hb dX10_rights_23 rfl (lv_at hl 0 rfl) ?_
  refine lv_iconst (v := 0) hx hb dX10_rights_24 (by decide) ?_
  refine gs_put (C := RX10) (T := TX10) (N := 59) (ty := .int) (val := .int 0) hx hb hts inX10 tyX10 tyX10_ok nmX10 hown hK hI hm hM hS 0 0 15 (by decide) rfl rfl (by decide) (hts _ gm_912) (fun _ h9 => h9) rfl (0 : Int32) rfl (by decide +kernel) rfl rfl (Nat.le_of_ble_eq_true rfl) dX10_rights_25 (fun st_7 H locs est_7 hM hS => ?_)
  have hB_st_7 : gBN bM kM [0, 9, 10, 11, 12, 13, 14, 15, 16, 17, 18, 19, 28, 29, 30, 59, 600, 800, 900, 1000, 1100, 1200, 1300, 1400, 1500] st st_7 := by rw [est_7]; exact hB_st_6.up (show (15 : Nat) ∈ _ from by decide) (gi_lo _) (gi_hi _)
  refine lv_aload_n hx hb dX10_rights_28 rfl (lv_at hl 0 rfl) ?_
  refine gs_get (C := RX10) (T := TX10) (N := 59) hx hb hts inX10 hown hK hM 0 0 28 (by decide) rfl rfl (by decide) (hts _ gm_925) (fun _ h9 => h9) rfl dX10_rights_29 ?_
  refine lv_topi (fun x_8 ex_8 => ?_)
  have ex_8 : (st 0 0 28) = x_8 := Eq.symm (ex_8.trans (((congrFun (congrFun (congrFun est_7 0) 0) 28).trans (gU_other (by decide))).trans (((congrFun (congrFun (congrFun est_6 0) 0) 28).trans (gU_other (by decide))).trans (((congrFun (congrFun (congrFun est_5 0) 0) 28).trans (gU_other (by decide))).trans (((congrFun (congrFun (congrFun est_4 0) 0) 28).trans (gU_other (by decide))).trans ((congrFun (congrFun (congrFun est_1 0) 0) 28).trans (gU_other (by decide))))))))
  subst ex_8
  have bf_9 : (0 : Int) ≤ (st 0 0 28).toInt ∧ (st 0 0 28).toInt ≤ (1 : Int) := hB_st.1 0 0 28
  refine lv_istore_n (lv' := [(1, .int (st 0 0 28)), (0, .ref (ad 0 0))]) hx hb dX10_rights_32 rfl hl (by decide) rfl (fun ls hl => ?_)
  refine lv_aload_n hx hb dX10_rights_33 rfl (lv_at hl 1 rfl) ?_
  refine lv_iconst (v := 1) hx hb dX10_rights_34 (by decide) ?_
  refine lv_aload_n hx hb dX10_rights_35 rfl (lv_at hl 1 rfl) ?_
  refine gs_get (C := RX10) (T := TX10) (N := 59) hx hb hts inX10 hown hK hM 0 0 28 (by decide) rfl rfl (by decide) (hts _ gm_925) (fun _ h9 => h9) rfl dX10_rights_36 ?_
  refine lv_topi (fun x_10 ex_10 => ?_)
  have ex_10 : (st 0 0 28) = x_10 := Eq.symm (ex_10.trans (((congrFun (congrFun (congrFun est_7 0) 0) 28).trans (gU_other (by decide))).trans (((congrFun (congrFun (congrFun est_6 0) 0) 28).trans (gU_other (by decide))).trans (((congrFun (congrFun (congrFun est_5 0) 0) 28).trans (gU_other (by decide))).trans (((congrFun (congrFun (congrFun est_4 0) 0) 28).trans (gU_other (by decide))).trans ((congrFun (congrFun (congrFun est_1 0) 0) 28).trans (gU_other (by decide))))))))
  subst ex_10
  have bf_11 : (0 : Int) ≤ (st 0 0 28).toInt ∧ (st 0 0 28).toInt ≤ (1 : Int) := hB_st.1 0 0 28
  refine lv_isub hx hb dX10_rights_39 ?_
  refine lv_topi (fun x_12 ex_12 => ?_)
  try have tx_12 : x_12.toInt = 1 - (st 0 0 28).toInt := by rw [ex_12]; exact gz_subI (x := 1) (y := (st 0 0 28).toInt) (by decide) rfl (by omega) (by omega)
  refine gs_put (C := RX10) (T := TX10) (N := 59) (ty := .int) (val := .int x_12) hx hb hts inX10 tyX10 tyX10_ok nmX10 hown hK hI hm hM hS 0 0 28 (by decide) rfl rfl (by decide) (hts _ gm_925) (fun _ h9 => h9) rfl (x_12 : Int32) rfl (by decide +kernel) rfl rfl (Nat.le_of_ble_eq_true rfl) dX10_rights_40 (fun st_13 H locs est_13 hM hS => ?_)
  have hB_st_13 : gBN bM kM [0, 9, 10, 11, 12, 13, 14, 15, 16, 17, 18, 19, 28, 29, 30, 59, 600, 800, 900, 1000, 1100, 1200, 1300, 1400, 1500] st st_13 := by rw [est_13]; exact hB_st_7.up (show (28 : Nat) ∈ _ from by decide) (show (0 : Int) ≤ x_12.toInt from by omega) (show x_12.toInt ≤ (1 : Int) from by omega)
  refine lv_aload_n hx hb dX10_rights_43 rfl (lv_at hl 1 rfl) ?_
  refine lv_iconst (v := 0) hx hb dX10_rights_44 (by decide) ?_
  refine gs_put (C := RX10) (T := TX10) (N := 59) (ty := .int) (val := .int 0) hx hb hts inX10 tyX10 tyX10_ok nmX10 hown hK hI hm hM hS 0 0 30 (by decide) rfl rfl (by decide) (hts _ gm_927) (fun _ h9 => h9) rfl (0 : Int32) rfl (by decide +kernel) rfl rfl (Nat.le_of_ble_eq_true rfl) dX10_rights_45 (fun st_14 H locs est_14 hM hS => ?_)
  have hB_st_14 : gBN bM kM [0, 9, 10, 11, 12, 13, 14, 15, 16, 17, 18, 19, 28, 29, 30, 59, 600, 800, 900, 1000, 1100, 1200, 1300, 1400, 1500] st st_14 := by rw [est_14]; exact hB_st_13.up (show (30 : Nat) ∈ _ from by decide) (show (0 : Int) ≤ ((0 : Int32)).toInt from by decide) (show ((0 : Int32)).toInt ≤ (20 : Int) from by decide)
  refine lv_aload_n hx hb dX10_rights_48 rfl (lv_at hl 1 rfl) ?_
  refine gs_callv (va_runV (As := []) (rest := []) ⟨hx, hb, hml, hown, hts⟩ (m_next0 l G cy sK sV ad H.size st_14 hB_st_14.1  ) ⟨(gz_cb (n := 0) hts gm_1096 gm_12 gm_1099 ⟨by decide +kernel, by decide +kernel, by decide +kernel⟩ ⟨Nat.le_of_ble_eq_true rfl, Nat.le_of_ble_eq_true rfl⟩), hts _ gm_1098, hts _ gs_32⟩ (gs_preV hK hov hE hI hM hm hS hA 0 0 (by decide) rfl rfl) rfl rfl hl.1 rfl (lv_room (Nat.le_of_ble_eq_true rfl)) dX10_rights_49 ⟨Nat.le_of_ble_eq_true rfl, Nat.le_of_ble_eq_true rfl⟩) hm hS hA (fun st_15 H locs hw_15 hM hS => ?_)
  obtain ⟨n_15, hw_15⟩ := hw_15
  have hB_st_15 : gBN bM kM [0, 9, 10, 11, 12, 13, 14, 15, 16, 17, 18, 19, 28, 29, 30, 59, 600, 800, 900, 1000, 1100, 1200, 1300, 1400, 1500] st st_15 := hB_st_14.call n_15 (by decide)
  refine lv_iconst (v := 1) hx hb dX10_rights_52 (by decide) ?_
  refine lv_istore_n (lv' := [(2, .int 1), (1, .int (st 0 0 28)), (0, .ref (ad 0 0))]) hx hb dX10_rights_53 rfl hl (by decide) rfl (fun ls hl => ?_)
  have lp16 : ∀ (n16 : Nat) (sv16 : gS) (y16_0 : Int32) (H : Heap) (locs : List Loc) (ls : Array Slot), (21 - (sv16 0 0 30).toInt).toNat + y16_0.toInt.toNat < n16 → gBN bM kM [0, 9, 10, 11, 12, 13, 14, 15, 16, 17, 18, 19, 28, 29, 30, 59, 600, 800, 900, 1000, 1100, 1200, 1300, 1400, 1500] st sv16 → (0 ≤ y16_0.toInt) → (y16_0.toInt ≤ 1) → ((sv16 0 0 28).toInt = 1 - (st 0 0 28).toInt) → ((sv16 0 0 29).toInt = (st 0 0 29).toInt) → (mTdR (sv16 13 0) (sv16 15 0)) → (mActR (sv16 8 0) (sv16 13 0) (sv16 0 0 28).toInt (sv16 0 0 30).toInt) → (mActR (sv16 8 0) (sv16 13 0) (1 - (sv16 0 0 28).toInt) (sv16 0 0 29).toInt) → ((sv16 0 0 9).toInt = 0) → gM G (shM cy ad) cnM ad sv16 H → va_S A s.heap H locs → lv_has ls 5 [(2, .int y16_0), (1, .int (st 0 0 28)), (0, .ref (ad 0 0))] → W p l e ({ frames := 5, cells := 0, slots := 0, locals := 113 } : Room) s m [.ref (ad 0 0)].toArray below meth c H locs 0 0 Q (F0 m 54 ls []) := by
    intro n16
    induction n16 with
    | zero => intro sv16 y16_0 H locs ls h9; exact absurd h9 (Nat.not_lt_zero _)
    | succ n16 ih_16 =>
      intro sv16 y16_0 H locs ls hme16 hB_sv16 hv16_0 hv16_1 hv16_2 hv16_3 hv16_4 hv16_5 hv16_6 hv16_7 hM hS hl
      have hb16_0 : (0 : Int) ≤ (sv16 0 0 30).toInt ∧ (sv16 0 0 30).toInt ≤ (20 : Int) := hB_sv16.1 0 0 30
      have hb16_1 : (0 : Int) ≤ (sv16 0 0 28).toInt ∧ (sv16 0 0 28).toInt ≤ (1 : Int) := hB_sv16.1 0 0 28
      have hb16_2 : (0 : Int) ≤ (st 0 0 28).toInt ∧ (st 0 0 28).toInt ≤ (1 : Int) := hB_st.1 0 0 28
      have hb16_3 : (0 : Int) ≤ (sv16 0 0 29).toInt ∧ (sv16 0 0 29).toInt ≤ (20 : Int) := hB_sv16.1 0 0 29
      have hb16_4 : (0 : Int) ≤ (st 0 0 29).toInt ∧ (st 0 0 29).toInt ≤ (20 : Int) := hB_st.1 0 0 29
      have hb16_5 : (0 : Int) ≤ (sv16 0 0 9).toInt ∧ (sv16 0 0 9).toInt ≤ (800 : Int) := hB_sv16.1 0 0 9
      refine lv_iload_n hx hb dX10_rights_54 rfl (lv_at hl 0 rfl) ?_
      refine lv_if_eq (tgt := 73) hx hb dX10_rights_55 (by decide) (fun c_17 => ?_) (fun c_17 => ?_)
      · have ic_17 := gz_eq (rfl : y16_0.toInt = y16_0.toInt) (by decide : (0 : Int32).toInt = 0) c_17
        refine lv_iload_n hx hb dX10_rights_73 rfl (lv_at hl 0 rfl) ?_
        refine lv_if_ne (tgt := 89) hx hb dX10_rights_74 (by decide) (fun c_18 => ?_) (fun c_18 => ?_)
        · have ic_18 := gz_ne (rfl : y16_0.toInt = y16_0.toInt) (by decide : (0 : Int32).toInt = 0) c_18
          refine lv_aload_n hx hb dX10_rights_89 rfl (lv_at hl 2 rfl) ?_
          refine lv_aload_n hx hb dX10_rights_90 rfl (lv_at hl 2 rfl) ?_
          refine gs_get (C := RX10) (T := TX10) (N := 59) hx hb hts inX10 hown hK hM 0 0 30 (by decide) rfl rfl (by decide) (hts _ gm_927) (fun _ h9 => h9) rfl dX10_rights_91 ?_
          have bf_19 : (0 : Int) ≤ (sv16 0 0 30).toInt ∧ (sv16 0 0 30).toInt ≤ (20 : Int) := hB_sv16.1 0 0 30
          refine gs_put (C := RX10) (T := TX10) (N := 59) (ty := .int) (val := .int (sv16 0 0 30)) hx hb hts inX10 tyX10 tyX10_ok nmX10 hown hK hI hm hM hS 0 0 29 (by decide) rfl rfl (by decide) (hts _ gm_926) (fun _ h9 => h9) rfl ((sv16 0 0 30) : Int32) rfl (by decide +kernel) rfl rfl (Nat.le_of_ble_eq_true rfl) dX10_rights_94 (fun st_20 H locs est_20 hM hS => ?_)
          have hB_st_20 : gBN bM kM [0, 9, 10, 11, 12, 13, 14, 15, 16, 17, 18, 19, 28, 29, 30, 59, 600, 800, 900, 1000, 1100, 1200, 1300, 1400, 1500] st st_20 := by rw [est_20]; exact hB_sv16.up (show (29 : Nat) ∈ _ from by decide) (show (0 : Int) ≤ (sv16 0 0 30).toInt from by omega) (show (sv16 0 0 30).toInt ≤ (20 : Int) from by omega)
          refine lv_iconst (v := 0) hx hb dX10_rights_97 (by decide) ?_
          refine lv_istore_n (lv' := [(3, .int 0), (2, .int y16_0), (1, .int (st 0 0 28)), (0, .ref (ad 0 0))]) hx hb dX10_rights_98 rfl hl (by decide) rfl (fun ls hl => ?_)
          have lp21 : ∀ (n21 : Nat) (sv21 : gS) (y21_0 : Int32) (H : Heap) (locs : List Loc) (ls : Array Slot), (6 - y21_0.toInt).toNat < n21 → gBN bM kM [0, 9, 10, 11, 12, 13, 14, 15, 16, 17, 18, 19, 28, 29, 30, 59, 600, 800, 900, 1000, 1100, 1200, 1300, 1400, 1500] st sv21 → (0 ≤ y21_0.toInt) → (mTdR (sv21 13 0) (sv21 15 0)) → (mActR (sv21 8 0) (sv21 13 0) (sv21 0 0 28).toInt (sv21 0 0 29).toInt) → ((sv21 0 0 9).toInt = 0) → gM G (shM cy ad) cnM ad sv21 H → va_S A s.heap H locs → lv_has ls 5 [(3, .int y21_0), (2, .int y16_0), (1, .int (st 0 0 28)), (0, .ref (ad 0 0))] → W p l e ({ frames := 5, cells := 0, slots := 0, locals := 113 } : Room) s m [.ref (ad 0 0)].toArray below meth c H locs 0 0 Q (F0 m 99 ls []) := by
            intro n21
            induction n21 with
            | zero => intro sv21 y21_0 H locs ls h9; exact absurd h9 (Nat.not_lt_zero _)
            | succ n21 ih_21 =>
              intro sv21 y21_0 H locs ls hme21 hB_sv21 hv21_0 hv21_1 hv21_2 hv21_3 hM hS hl
              have hb21_0 : (0 : Int) ≤ (sv21 0 0 28).toInt ∧ (sv21 0 0 28).toInt ≤ (1 : Int) := hB_sv21.1 0 0 28
              have hb21_1 : (0 : Int) ≤ (sv21 0 0 29).toInt ∧ (sv21 0 0 29).toInt ≤ (20 : Int) := hB_sv21.1 0 0 29
              have hb21_2 : (0 : Int) ≤ (sv21 0 0 9).toInt ∧ (sv21 0 0 9).toInt ≤ (800 : Int) := hB_sv21.1 0 0 9
              refine lv_iload_n hx hb dX10_rights_99 rfl (lv_at hl 0 rfl) ?_
              refine lv_bipush (v := 6) hx hb dX10_rights_100 (by decide) ?_
              refine lv_icmp_ge (tgt := 151) hx hb dX10_rights_102 (by decide) (fun c_22 => ?_) (fun c_22 => ?_)
              · have ic_22 := gz_le (by decide : (6 : Int32).toInt = 6) (rfl : y21_0.toInt = y21_0.toInt) c_22
                refine lv_aload_n hx hb dX10_rights_151 rfl (lv_at hl 3 rfl) ?_
                refine gs_callv (va_runV (As := []) (rest := []) ⟨hx, hb, hml, hown, hts⟩ (m_droughts l G cy sK sV ad H.size sv21 hB_sv21.1  ) ⟨(gz_cb (n := 0) hts gm_1177 gm_12 gm_1180 ⟨by decide +kernel, by decide +kernel, by decide +kernel⟩ ⟨Nat.le_of_ble_eq_true rfl, Nat.le_of_ble_eq_true rfl⟩), hts _ gm_1179, hts _ gs_48⟩ (gs_preV hK hov hE hI hM hm hS hA 0 0 (by decide) rfl rfl) rfl rfl hl.1 rfl (lv_room (Nat.le_of_ble_eq_true rfl)) dX10_rights_152 ⟨Nat.le_of_ble_eq_true rfl, Nat.le_of_ble_eq_true rfl⟩) hm hS hA (fun st_23 H locs hw_23 hM hS => ?_)
                obtain ⟨n_23, hw_23⟩ := hw_23
                have hB_st_23 : gBN bM kM [0, 9, 10, 11, 12, 13, 14, 15, 16, 17, 18, 19, 28, 29, 30, 59, 600, 800, 900, 1000, 1100, 1200, 1300, 1400, 1500] st st_23 := hB_sv21.call n_23 (by decide)
                refine lv_aload_n hx hb dX10_rights_155 rfl (lv_at hl 3 rfl) ?_
                refine gs_get (C := RX10) (T := TX10) (N := 59) hx hb hts inX10 hown hK hM 0 0 29 (by decide) rfl rfl (by decide) (hts _ gm_926) (fun _ h9 => h9) rfl dX10_rights_156 ?_
                refine lv_topi (fun x_24 ex_24 => ?_)
                have ex_24 : (sv21 0 0 29) = x_24 := Eq.symm (ex_24.trans (n_23.2 0 0 29 (show (29 : Nat) ∉ _ from by decide)))
                subst ex_24
                have bf_25 : (0 : Int) ≤ (sv21 0 0 29).toInt ∧ (sv21 0 0 29).toInt ≤ (20 : Int) := hB_sv21.1 0 0 29
                rw [← hQe]
                exact gs_iret hx hb hr hlocks hM hS rfl ⟨hB_st_23, (by rw [show st_23 13 0 = (sv21 13 0) from ((funext (fun j9 => n_23.2 13 0 j9 (show (1300 : Nat) ∉ _ from by decide))).trans rfl), show st_23 15 0 = (sv21 15 0) from ((funext (fun j9 => n_23.2 15 0 j9 (show (1500 : Nat) ∉ _ from by decide))).trans rfl)]; exact hv21_1), (by rw [show st_23 8 0 = (sv21 8 0) from ((funext (fun j9 => n_23.2 8 0 j9 (show (800 : Nat) ∉ _ from by decide))).trans rfl), show st_23 13 0 = (sv21 13 0) from ((funext (fun j9 => n_23.2 13 0 j9 (show (1300 : Nat) ∉ _ from by decide))).trans rfl)]; rw [show (st_23 0 0 28).toInt = (sv21 0 0 28).toInt from (congrArg Int32.toInt ((n_23.2 0 0 28 (show (28 : Nat) ∉ _ from by decide)))), show (st_23 0 0 29).toInt = (sv21 0 0 29).toInt from (congrArg Int32.toInt ((n_23.2 0 0 29 (show (29 : Nat) ∉ _ from by decide))))]; exact hv21_2), (by have hq0 : (st_23 0 0 9).toInt = ((sv21 0 0 9) : Int32).toInt := congrArg Int32.toInt ((n_23.2 0 0 9 (show (9 : Nat) ∉ _ from by decide))); have hb1 : (0 : Int) ≤ (st_23 0 0 9).toInt ∧ (st_23 0 0 9).toInt ≤ (800 : Int) := hB_st_23.1 0 0 9; omega)⟩ (by exact Nat.le_refl _) (by exact Nat.le_refl _) dX10_rights_159
              · have ic_22 := gz_nle (by decide : (6 : Int32).toInt = 6) (rfl : y21_0.toInt = y21_0.toInt) c_22
                refine lv_aload_n hx hb dX10_rights_105 rfl (lv_at hl 3 rfl) ?_
                refine gs_get (C := RX10) (T := TX10) (N := 59) hx hb hts inX10 hown hK hM 0 0 7 (by decide) rfl rfl (by decide) (hts _ gm_904) (fun _ h9 => h9) rfl dX10_rights_106 ?_
                refine lv_topi (fun x_26 ex_26 => ?_)
                have ex_26 : (st 0 0 7) = x_26 := Eq.symm (ex_26.trans (hB_sv21.2 0 0 7 (show (7 : Nat) ∉ _ from by decide)))
                subst ex_26
                have bf_27 : (0 : Int) ≤ (st 0 0 7).toInt ∧ (st 0 0 7).toInt ≤ (199 : Int) := hB_st.1 0 0 7
                refine lv_istore (lv' := [(4, .int (st 0 0 7)), (3, .int y21_0), (2, .int y16_0), (1, .int (st 0 0 28)), (0, .ref (ad 0 0))]) hx hb dX10_rights_109 hl (by decide) rfl (fun ls hl => ?_)
                have lp28 : ∀ (n28 : Nat) (sv28 : gS) (y28_0 : Int32) (H : Heap) (locs : List Loc) (ls : Array Slot), (200 - y28_0.toInt).toNat < n28 → gBN bM kM [0, 9, 10, 11, 12, 13, 14, 15, 16, 17, 18, 19, 28, 29, 30, 59, 600, 800, 900, 1000, 1100, 1200, 1300, 1400, 1500] st sv28 → (0 ≤ y28_0.toInt) → (mTdR (sv28 13 0) (sv28 15 0)) → (mActR (sv28 8 0) (sv28 13 0) (sv28 0 0 28).toInt (sv28 0 0 29).toInt) → ((sv28 0 0 9).toInt = 0) → gM G (shM cy ad) cnM ad sv28 H → va_S A s.heap H locs → lv_has ls 5 [(4, .int y28_0), (3, .int y21_0), (2, .int y16_0), (1, .int (st 0 0 28)), (0, .ref (ad 0 0))] → W p l e ({ frames := 5, cells := 0, slots := 0, locals := 113 } : Room) s m [.ref (ad 0 0)].toArray below meth c H locs 0 0 Q (F0 m 111 ls []) := by
                  intro n28
                  induction n28 with
                  | zero => intro sv28 y28_0 H locs ls h9; exact absurd h9 (Nat.not_lt_zero _)
                  | succ n28 ih_28 =>
                    intro sv28 y28_0 H locs ls hme28 hB_sv28 hv28_0 hv28_1 hv28_2 hv28_3 hM hS hl
                    have hb28_0 : (0 : Int) ≤ (sv28 0 0 28).toInt ∧ (sv28 0 0 28).toInt ≤ (1 : Int) := hB_sv28.1 0 0 28
                    have hb28_1 : (0 : Int) ≤ (sv28 0 0 29).toInt ∧ (sv28 0 0 29).toInt ≤ (20 : Int) := hB_sv28.1 0 0 29
                    have hb28_2 : (0 : Int) ≤ (sv28 0 0 9).toInt ∧ (sv28 0 0 9).toInt ≤ (800 : Int) := hB_sv28.1 0 0 9
                    refine lv_iload hx hb dX10_rights_111 (lv_at hl 0 rfl) ?_
                    refine lv_sipush (v := 199) hx hb dX10_rights_113 (by decide) ?_
                    refine lv_icmp_gt (tgt := 145) hx hb dX10_rights_116 (by decide) (fun c_29 => ?_) (fun c_29 => ?_)
                    · have ic_29 := gz_lt (by decide : (199 : Int32).toInt = 199) (rfl : y28_0.toInt = y28_0.toInt) c_29
                      obtain ⟨x_30, ex_30⟩ : ∃ y : Int32, y = y21_0 + 1 := ⟨_, rfl⟩
                      try have tx_30 : x_30.toInt = y21_0.toInt + 1 := by rw [ex_30]; exact gz_addP (x := y21_0.toInt) (y := 1) rfl (by decide) (by omega) (by omega)
                      refine lv_iinc (v := (x_30)) (lv' := [(3, .int x_30), (4, .int y28_0), (2, .int y16_0), (1, .int (st 0 0 28)), (0, .ref (ad 0 0))]) hx hb dX10_rights_145 hl (k := 1) rfl (by rw [ex_30]; rfl) (by decide) rfl (fun ls hl => ?_)
                      refine lv_goto (tgt := 99) hx hb dX10_rights_148 (by decide) ?_
                      exact ih_21 sv28 (x_30 : Int32) H _ ls (by omega) hB_sv28 (by omega) (by exact hv28_1) (by exact hv28_2) (by have hb0 : (0 : Int) ≤ (sv28 0 0 9).toInt ∧ (sv28 0 0 9).toInt ≤ (800 : Int) := hB_sv28.1 0 0 9; omega) hM hS (lv_sub hl [0, 2, 3, 4] rfl)
                    · have ic_29 := gz_nlt (by decide : (199 : Int32).toInt = 199) (rfl : y28_0.toInt = y28_0.toInt) c_29
                      refine lv_aload_n hx hb dX10_rights_119 rfl (lv_at hl 4 rfl) ?_
                      refine gs_get (C := RX10) (T := TX10) (N := 59) hx hb hts inX10 hown hK hM 0 0 6 (by decide) rfl rfl (by decide) (hts _ gm_903) (fun _ h9 => h9) rfl dX10_rights_120 ?_
                      refine lv_sipush (v := 200) hx hb dX10_rights_123 (by decide) ?_
                      refine lv_iload_n hx hb dX10_rights_126 rfl (lv_at hl 1 rfl) ?_
                      refine lv_imul hx hb dX10_rights_127 ?_
                      refine lv_topi (fun x_31 ex_31 => ?_)
                      try have tx_31 : x_31.toInt = 200 * y21_0.toInt := by rw [ex_31]; exact gz_mulI (x := 200) (y := y21_0.toInt) (by decide) rfl (by omega) (by omega)
                      refine lv_iload hx hb dX10_rights_128 (lv_at hl 0 rfl) ?_
                      refine lv_iadd hx hb dX10_rights_130 ?_
                      refine lv_topi (fun x_32 ex_32 => ?_)
                      try have tx_32 : x_32.toInt = x_31.toInt + y28_0.toInt := by rw [ex_32]; exact gz_addI (x := x_31.toInt) (y := y28_0.toInt) rfl rfl (by omega) (by omega)
                      refine lv_aload_n hx hb dX10_rights_131 rfl (lv_at hl 4 rfl) ?_
                      refine lv_iload_n hx hb dX10_rights_132 rfl (lv_at hl 1 rfl) ?_
                      refine lv_iload hx hb dX10_rights_133 (lv_at hl 0 rfl) ?_
                      refine gs_calli (va_runV (As := [.int y21_0, .int y28_0]) (rest := [.int x_32, .ref (ad 6 0)]) ⟨hx, hb, hml, hown, hts⟩ (m_byTurns l G cy sK sV ad H.size sv28 hB_sv28.1 y21_0 y28_0 y21_0.toInt y28_0.toInt rfl rfl (by first | decide | omega) (by exact hv28_2) (by exact hv28_1)) ⟨(gz_cb (n := 2) hts gm_1173 gm_12 gm_1176 ⟨by decide +kernel, by decide +kernel, by decide +kernel⟩ ⟨Nat.le_of_ble_eq_true rfl, Nat.le_of_ble_eq_true rfl⟩), hts _ gm_1175, hts _ gs_47⟩ (gs_preV hK hov hE hI hM hm hS hA 0 0 (by decide) rfl rfl) rfl rfl hl.1 rfl (lv_room (Nat.le_of_ble_eq_true rfl)) dX10_rights_135 ⟨Nat.le_of_ble_eq_true rfl, Nat.le_of_ble_eq_true rfl⟩) hm hS hA (fun r_33 st_33 H locs hw_33 hM hS => ?_)
                      obtain ⟨n_33, hw_33⟩ := hw_33
                      have n_33 := gBN.nil n_33
                      subst n_33
                      refine gs_iast hx hb hK hI hm hM hS 6 0 (by decide) (fun _ => rfl) (vp_in_iff.mpr ⟨by omega, by omega⟩) dX10_rights_138 (fun st_34 H locs est_34 hM hS => ?_)
                      have hB_st_34 : gBN bM kM [0, 9, 10, 11, 12, 13, 14, 15, 16, 17, 18, 19, 28, 29, 30, 59, 600, 800, 900, 1000, 1100, 1200, 1300, 1400, 1500] st st_34 := by rw [est_34]; exact hB_sv28.up (show (600 : Nat) ∈ _ from by decide) (gi_lo _) (gi_hi _)
                      obtain ⟨x_35, ex_35⟩ : ∃ y : Int32, y = y28_0 + 1 := ⟨_, rfl⟩
                      try have tx_35 : x_35.toInt = y28_0.toInt + 1 := by rw [ex_35]; exact gz_addP (x := y28_0.toInt) (y := 1) rfl (by decide) (by omega) (by omega)
                      refine lv_iinc (v := (x_35)) (lv' := [(4, .int x_35), (3, .int y21_0), (2, .int y16_0), (1, .int (st 0 0 28)), (0, .ref (ad 0 0))]) hx hb dX10_rights_139 hl (k := 0) rfl (by rw [ex_35]; rfl) (by decide) rfl (fun ls hl => ?_)
                      refine lv_goto (tgt := 111) hx hb dX10_rights_142 (by decide) ?_
                      exact ih_28 st_34 (x_35 : Int32) H _ ls (by omega) hB_st_34 (by omega) (by rw [show st_34 13 0 = (sv28 13 0) from ((congrFun (congrFun est_34 13) 0).trans ((congrFun (gU_k (by decide)) 0).trans rfl)), show st_34 15 0 = (sv28 15 0) from ((congrFun (congrFun est_34 15) 0).trans ((congrFun (gU_k (by decide)) 0).trans rfl))]; exact hv28_1) (by rw [show st_34 8 0 = (sv28 8 0) from ((congrFun (congrFun est_34 8) 0).trans ((congrFun (gU_k (by decide)) 0).trans rfl)), show st_34 13 0 = (sv28 13 0) from ((congrFun (congrFun est_34 13) 0).trans ((congrFun (gU_k (by decide)) 0).trans rfl))]; rw [show (st_34 0 0 28).toInt = (sv28 0 0 28).toInt from (congrArg Int32.toInt (((congrFun (congrFun (congrFun est_34 0) 0) 28).trans (congrFun (congrFun (gU_k (by decide)) 0) 28)))), show (st_34 0 0 29).toInt = (sv28 0 0 29).toInt from (congrArg Int32.toInt (((congrFun (congrFun (congrFun est_34 0) 0) 29).trans (congrFun (congrFun (gU_k (by decide)) 0) 29))))]; exact hv28_2) (by have hq0 : (st_34 0 0 9).toInt = ((sv28 0 0 9) : Int32).toInt := congrArg Int32.toInt (((congrFun (congrFun (congrFun est_34 0) 0) 9).trans (congrFun (congrFun (gU_k (by decide)) 0) 9))); have hb1 : (0 : Int) ≤ (st_34 0 0 9).toInt ∧ (st_34 0 0 9).toInt ≤ (800 : Int) := hB_st_34.1 0 0 9; omega) hM hS (lv_sub hl [0, 1, 2, 3, 4] rfl)
                exact lp28 ((200 - ((st 0 0 7) : Int32).toInt).toNat + 1) sv21 ((st 0 0 7) : Int32) H _ ls (Nat.lt_succ_self _) hB_sv21 (by have hb0 : (0 : Int) ≤ (st 0 0 7).toInt ∧ (st 0 0 7).toInt ≤ (199 : Int) := hB_st.1 0 0 7; omega) (by exact hv21_1) (by exact hv21_2) (by have hb0 : (0 : Int) ≤ (sv21 0 0 9).toInt ∧ (sv21 0 0 9).toInt ≤ (800 : Int) := hB_sv21.1 0 0 9; omega) hM hS (lv_sub hl [0, 1, 2, 3, 4] rfl)
          exact lp21 ((6 - ((0 : Int32) : Int32).toInt).toNat + 1) st_20 ((0 : Int32) : Int32) H _ ls (Nat.lt_succ_self _) hB_st_20 (by have hl0 : (0 : Int32).toInt = 0 := (by decide); omega) (by rw [show st_20 13 0 = (sv16 13 0) from ((congrFun (congrFun est_20 13) 0).trans ((congrFun (gU_k (by decide)) 0).trans rfl)), show st_20 15 0 = (sv16 15 0) from ((congrFun (congrFun est_20 15) 0).trans ((congrFun (gU_k (by decide)) 0).trans rfl))]; exact hv16_4) (by rw [show (st_20 0 0 28).toInt = (sv16 0 0 28).toInt from (congrArg Int32.toInt (((congrFun (congrFun (congrFun est_20 0) 0) 28).trans (gU_other (by decide))))), show (st_20 0 0 29).toInt = (sv16 0 0 30).toInt from (congrArg Int32.toInt (((congrFun (congrFun (congrFun est_20 0) 0) 29).trans (gU_same _ _ _ _ _))))]; rw [show st_20 8 0 = (sv16 8 0) from ((congrFun (congrFun est_20 8) 0).trans ((congrFun (gU_k (by decide)) 0).trans rfl)), show st_20 13 0 = (sv16 13 0) from ((congrFun (congrFun est_20 13) 0).trans ((congrFun (gU_k (by decide)) 0).trans rfl))]; exact hv16_5) (by have hl0 : (0 : Int32).toInt = 0 := (by decide); have hq1 : (st_20 0 0 9).toInt = ((sv16 0 0 9) : Int32).toInt := congrArg Int32.toInt (((congrFun (congrFun (congrFun est_20 0) 0) 9).trans (gU_other (by decide)))); have hb2 : (0 : Int) ≤ (st_20 0 0 9).toInt ∧ (st_20 0 0 9).toInt ≤ (800 : Int) := hB_st_20.1 0 0 9; omega) hM hS (lv_sub hl [0, 1, 2, 3] rfl)
        · have ic_18 := gz_eqn (rfl : y16_0.toInt = y16_0.toInt) (by decide : (0 : Int32).toInt = 0) c_18
          refine lv_aload_n hx hb dX10_rights_77 rfl (lv_at hl 2 rfl) ?_
          refine lv_iload_n hx hb dX10_rights_78 rfl (lv_at hl 1 rfl) ?_
          refine gs_put (C := RX10) (T := TX10) (N := 59) (ty := .int) (val := .int (st 0 0 28)) hx hb hts inX10 tyX10 tyX10_ok nmX10 hown hK hI hm hM hS 0 0 28 (by decide) rfl rfl (by decide) (hts _ gm_925) (fun _ h9 => h9) rfl ((st 0 0 28) : Int32) rfl (by decide +kernel) rfl rfl (Nat.le_of_ble_eq_true rfl) dX10_rights_79 (fun st_36 H locs est_36 hM hS => ?_)
          have hB_st_36 : gBN bM kM [0, 9, 10, 11, 12, 13, 14, 15, 16, 17, 18, 19, 28, 29, 30, 59, 600, 800, 900, 1000, 1100, 1200, 1300, 1400, 1500] st st_36 := by rw [est_36]; exact hB_sv16.up (show (28 : Nat) ∈ _ from by decide) (show (0 : Int) ≤ (st 0 0 28).toInt from by omega) (show (st 0 0 28).toInt ≤ (1 : Int) from by omega)
          refine lv_iconst (v := (-1)) hx hb dX10_rights_82 (by decide) ?_
          refine lv_aload_n hx hb dX10_rights_83 rfl (lv_at hl 2 rfl) ?_
          refine gs_get (C := RX10) (T := TX10) (N := 59) hx hb hts inX10 hown hK hM 0 0 16 (by decide) rfl rfl (by decide) (hts _ gm_913) (fun _ h9 => h9) rfl dX10_rights_84 ?_
          refine lv_topi (fun x_37 ex_37 => ?_)
          have ex_37 : (sv16 0 0 16) = x_37 := Eq.symm (ex_37.trans ((congrFun (congrFun (congrFun est_36 0) 0) 16).trans (gU_other (by decide))))
          subst ex_37
          refine lv_isub hx hb dX10_rights_87 ?_
          refine lv_topi (fun x_39 ex_39 => ?_)
          rw [← hQe]
          exact gs_iret hx hb hr hlocks hM hS rfl ⟨hB_st_36, (by rw [show st_36 13 0 = (sv16 13 0) from ((congrFun (congrFun est_36 13) 0).trans ((congrFun (gU_k (by decide)) 0).trans rfl)), show st_36 15 0 = (sv16 15 0) from ((congrFun (congrFun est_36 15) 0).trans ((congrFun (gU_k (by decide)) 0).trans rfl))]; exact hv16_4), (by rw [show (st_36 0 0 28).toInt = 1 - (sv16 0 0 28).toInt from (by have h9 : (st_36 0 0 28).toInt = (st 0 0 28).toInt := (congrArg Int32.toInt (((congrFun (congrFun (congrFun est_36 0) 0) 28).trans (gU_same _ _ _ _ _)))); have h8 := hv16_2; omega), show (st_36 0 0 29).toInt = (sv16 0 0 29).toInt from (congrArg Int32.toInt (((congrFun (congrFun (congrFun est_36 0) 0) 29).trans (gU_other (by decide)))))]; rw [show st_36 8 0 = (sv16 8 0) from ((congrFun (congrFun est_36 8) 0).trans ((congrFun (gU_k (by decide)) 0).trans rfl)), show st_36 13 0 = (sv16 13 0) from ((congrFun (congrFun est_36 13) 0).trans ((congrFun (gU_k (by decide)) 0).trans rfl))]; exact hv16_6), (by have hq0 : (st_36 0 0 9).toInt = ((sv16 0 0 9) : Int32).toInt := congrArg Int32.toInt (((congrFun (congrFun (congrFun est_36 0) 0) 9).trans (gU_other (by decide)))); have hb1 : (0 : Int) ≤ (st_36 0 0 9).toInt ∧ (st_36 0 0 9).toInt ≤ (800 : Int) := hB_st_36.1 0 0 9; omega)⟩ (by exact Nat.le_refl _) (by exact Nat.le_refl _) dX10_rights_88
      · have ic_17 := gz_ne (rfl : y16_0.toInt = y16_0.toInt) (by decide : (0 : Int32).toInt = 0) c_17
        refine lv_aload_n hx hb dX10_rights_58 rfl (lv_at hl 2 rfl) ?_
        refine gs_get (C := RX10) (T := TX10) (N := 59) hx hb hts inX10 hown hK hM 0 0 12 (by decide) rfl rfl (by decide) (hts _ gm_909) (fun _ h9 => h9) rfl dX10_rights_59 ?_
        refine lv_if_eq (tgt := 73) hx hb dX10_rights_62 (by decide) (fun c_41 => ?_) (fun c_41 => ?_)
        · have ic_41 := gz_eq (rfl : (sv16 0 0 12).toInt = (sv16 0 0 12).toInt) (by decide : (0 : Int32).toInt = 0) c_41
          refine lv_iload_n hx hb dX10_rights_73 rfl (lv_at hl 0 rfl) ?_
          refine lv_if_ne (tgt := 89) hx hb dX10_rights_74 (by decide) (fun c_42 => ?_) (fun c_42 => ?_)
          · have ic_42 := gz_ne (rfl : y16_0.toInt = y16_0.toInt) (by decide : (0 : Int32).toInt = 0) c_42
            refine lv_aload_n hx hb dX10_rights_89 rfl (lv_at hl 2 rfl) ?_
            refine lv_aload_n hx hb dX10_rights_90 rfl (lv_at hl 2 rfl) ?_
            refine gs_get (C := RX10) (T := TX10) (N := 59) hx hb hts inX10 hown hK hM 0 0 30 (by decide) rfl rfl (by decide) (hts _ gm_927) (fun _ h9 => h9) rfl dX10_rights_91 ?_
            have bf_43 : (0 : Int) ≤ (sv16 0 0 30).toInt ∧ (sv16 0 0 30).toInt ≤ (20 : Int) := hB_sv16.1 0 0 30
            refine gs_put (C := RX10) (T := TX10) (N := 59) (ty := .int) (val := .int (sv16 0 0 30)) hx hb hts inX10 tyX10 tyX10_ok nmX10 hown hK hI hm hM hS 0 0 29 (by decide) rfl rfl (by decide) (hts _ gm_926) (fun _ h9 => h9) rfl ((sv16 0 0 30) : Int32) rfl (by decide +kernel) rfl rfl (Nat.le_of_ble_eq_true rfl) dX10_rights_94 (fun st_44 H locs est_44 hM hS => ?_)
            have hB_st_44 : gBN bM kM [0, 9, 10, 11, 12, 13, 14, 15, 16, 17, 18, 19, 28, 29, 30, 59, 600, 800, 900, 1000, 1100, 1200, 1300, 1400, 1500] st st_44 := by rw [est_44]; exact hB_sv16.up (show (29 : Nat) ∈ _ from by decide) (show (0 : Int) ≤ (sv16 0 0 30).toInt from by omega) (show (sv16 0 0 30).toInt ≤ (20 : Int) from by omega)
            refine lv_iconst (v := 0) hx hb dX10_rights_97 (by decide) ?_
            refine lv_istore_n (lv' := [(3, .int 0), (2, .int y16_0), (1, .int (st 0 0 28)), (0, .ref (ad 0 0))]) hx hb dX10_rights_98 rfl hl (by decide) rfl (fun ls hl => ?_)
            have lp45 : ∀ (n45 : Nat) (sv45 : gS) (y45_0 : Int32) (H : Heap) (locs : List Loc) (ls : Array Slot), (6 - y45_0.toInt).toNat < n45 → gBN bM kM [0, 9, 10, 11, 12, 13, 14, 15, 16, 17, 18, 19, 28, 29, 30, 59, 600, 800, 900, 1000, 1100, 1200, 1300, 1400, 1500] st sv45 → (0 ≤ y45_0.toInt) → (mTdR (sv45 13 0) (sv45 15 0)) → (mActR (sv45 8 0) (sv45 13 0) (sv45 0 0 28).toInt (sv45 0 0 29).toInt) → ((sv45 0 0 9).toInt = 0) → gM G (shM cy ad) cnM ad sv45 H → va_S A s.heap H locs → lv_has ls 5 [(3, .int y45_0), (2, .int y16_0), (1, .int (st 0 0 28)), (0, .ref (ad 0 0))] → W p l e ({ frames := 5, cells := 0, slots := 0, locals := 113 } : Room) s m [.ref (ad 0 0)].toArray below meth c H locs 0 0 Q (F0 m 99 ls []) := by
              intro n45
              induction n45 with
              | zero => intro sv45 y45_0 H locs ls h9; exact absurd h9 (Nat.not_lt_zero _)
              | succ n45 ih_45 =>
                intro sv45 y45_0 H locs ls hme45 hB_sv45 hv45_0 hv45_1 hv45_2 hv45_3 hM hS hl
                have hb45_0 : (0 : Int) ≤ (sv45 0 0 28).toInt ∧ (sv45 0 0 28).toInt ≤ (1 : Int) := hB_sv45.1 0 0 28
                have hb45_1 : (0 : Int) ≤ (sv45 0 0 29).toInt ∧ (sv45 0 0 29).toInt ≤ (20 : Int) := hB_sv45.1 0 0 29
                have hb45_2 : (0 : Int) ≤ (sv45 0 0 9).toInt ∧ (sv45 0 0 9).toInt ≤ (800 : Int) := hB_sv45.1 0 0 9
                refine lv_iload_n hx hb dX10_rights_99 rfl (lv_at hl 0 rfl) ?_
                refine lv_bipush (v := 6) hx hb dX10_rights_100 (by decide) ?_
                refine lv_icmp_ge (tgt := 151) hx hb dX10_rights_102 (by decide) (fun c_46 => ?_) (fun c_46 => ?_)
                · have ic_46 := gz_le (by decide : (6 : Int32).toInt = 6) (rfl : y45_0.toInt = y45_0.toInt) c_46
                  refine lv_aload_n hx hb dX10_rights_151 rfl (lv_at hl 3 rfl) ?_
                  refine gs_callv (va_runV (As := []) (rest := []) ⟨hx, hb, hml, hown, hts⟩ (m_droughts l G cy sK sV ad H.size sv45 hB_sv45.1  ) ⟨(gz_cb (n := 0) hts gm_1177 gm_12 gm_1180 ⟨by decide +kernel, by decide +kernel, by decide +kernel⟩ ⟨Nat.le_of_ble_eq_true rfl, Nat.le_of_ble_eq_true rfl⟩), hts _ gm_1179, hts _ gs_48⟩ (gs_preV hK hov hE hI hM hm hS hA 0 0 (by decide) rfl rfl) rfl rfl hl.1 rfl (lv_room (Nat.le_of_ble_eq_true rfl)) dX10_rights_152 ⟨Nat.le_of_ble_eq_true rfl, Nat.le_of_ble_eq_true rfl⟩) hm hS hA (fun st_47 H locs hw_47 hM hS => ?_)
                  obtain ⟨n_47, hw_47⟩ := hw_47
                  have hB_st_47 : gBN bM kM [0, 9, 10, 11, 12, 13, 14, 15, 16, 17, 18, 19, 28, 29, 30, 59, 600, 800, 900, 1000, 1100, 1200, 1300, 1400, 1500] st st_47 := hB_sv45.call n_47 (by decide)
                  refine lv_aload_n hx hb dX10_rights_155 rfl (lv_at hl 3 rfl) ?_
                  refine gs_get (C := RX10) (T := TX10) (N := 59) hx hb hts inX10 hown hK hM 0 0 29 (by decide) rfl rfl (by decide) (hts _ gm_926) (fun _ h9 => h9) rfl dX10_rights_156 ?_
                  refine lv_topi (fun x_48 ex_48 => ?_)
                  have ex_48 : (sv45 0 0 29) = x_48 := Eq.symm (ex_48.trans (n_47.2 0 0 29 (show (29 : Nat) ∉ _ from by decide)))
                  subst ex_48
                  have bf_49 : (0 : Int) ≤ (sv45 0 0 29).toInt ∧ (sv45 0 0 29).toInt ≤ (20 : Int) := hB_sv45.1 0 0 29
                  rw [← hQe]
                  exact gs_iret hx hb hr hlocks hM hS rfl ⟨hB_st_47, (by rw [show st_47 13 0 = (sv45 13 0) from ((funext (fun j9 => n_47.2 13 0 j9 (show (1300 : Nat) ∉ _ from by decide))).trans rfl), show st_47 15 0 = (sv45 15 0) from ((funext (fun j9 => n_47.2 15 0 j9 (show (1500 : Nat) ∉ _ from by decide))).trans rfl)]; exact hv45_1), (by rw [show st_47 8 0 = (sv45 8 0) from ((funext (fun j9 => n_47.2 8 0 j9 (show (800 : Nat) ∉ _ from by decide))).trans rfl), show st_47 13 0 = (sv45 13 0) from ((funext (fun j9 => n_47.2 13 0 j9 (show (1300 : Nat) ∉ _ from by decide))).trans rfl)]; rw [show (st_47 0 0 28).toInt = (sv45 0 0 28).toInt from (congrArg Int32.toInt ((n_47.2 0 0 28 (show (28 : Nat) ∉ _ from by decide)))), show (st_47 0 0 29).toInt = (sv45 0 0 29).toInt from (congrArg Int32.toInt ((n_47.2 0 0 29 (show (29 : Nat) ∉ _ from by decide))))]; exact hv45_2), (by have hq0 : (st_47 0 0 9).toInt = ((sv45 0 0 9) : Int32).toInt := congrArg Int32.toInt ((n_47.2 0 0 9 (show (9 : Nat) ∉ _ from by decide))); have hb1 : (0 : Int) ≤ (st_47 0 0 9).toInt ∧ (st_47 0 0 9).toInt ≤ (800 : Int) := hB_st_47.1 0 0 9; omega)⟩ (by exact Nat.le_refl _) (by exact Nat.le_refl _) dX10_rights_159
                · have ic_46 := gz_nle (by decide : (6 : Int32).toInt = 6) (rfl : y45_0.toInt = y45_0.toInt) c_46
                  refine lv_aload_n hx hb dX10_rights_105 rfl (lv_at hl 3 rfl) ?_
                  refine gs_get (C := RX10) (T := TX10) (N := 59) hx hb hts inX10 hown hK hM 0 0 7 (by decide) rfl rfl (by decide) (hts _ gm_904) (fun _ h9 => h9) rfl dX10_rights_106 ?_
                  refine lv_topi (fun x_50 ex_50 => ?_)
                  have ex_50 : (st 0 0 7) = x_50 := Eq.symm (ex_50.trans (hB_sv45.2 0 0 7 (show (7 : Nat) ∉ _ from by decide)))
                  subst ex_50
                  have bf_51 : (0 : Int) ≤ (st 0 0 7).toInt ∧ (st 0 0 7).toInt ≤ (199 : Int) := hB_st.1 0 0 7
                  refine lv_istore (lv' := [(4, .int (st 0 0 7)), (3, .int y45_0), (2, .int y16_0), (1, .int (st 0 0 28)), (0, .ref (ad 0 0))]) hx hb dX10_rights_109 hl (by decide) rfl (fun ls hl => ?_)
                  have lp52 : ∀ (n52 : Nat) (sv52 : gS) (y52_0 : Int32) (H : Heap) (locs : List Loc) (ls : Array Slot), (200 - y52_0.toInt).toNat < n52 → gBN bM kM [0, 9, 10, 11, 12, 13, 14, 15, 16, 17, 18, 19, 28, 29, 30, 59, 600, 800, 900, 1000, 1100, 1200, 1300, 1400, 1500] st sv52 → (0 ≤ y52_0.toInt) → (mTdR (sv52 13 0) (sv52 15 0)) → (mActR (sv52 8 0) (sv52 13 0) (sv52 0 0 28).toInt (sv52 0 0 29).toInt) → ((sv52 0 0 9).toInt = 0) → gM G (shM cy ad) cnM ad sv52 H → va_S A s.heap H locs → lv_has ls 5 [(4, .int y52_0), (3, .int y45_0), (2, .int y16_0), (1, .int (st 0 0 28)), (0, .ref (ad 0 0))] → W p l e ({ frames := 5, cells := 0, slots := 0, locals := 113 } : Room) s m [.ref (ad 0 0)].toArray below meth c H locs 0 0 Q (F0 m 111 ls []) := by
                    intro n52
                    induction n52 with
                    | zero => intro sv52 y52_0 H locs ls h9; exact absurd h9 (Nat.not_lt_zero _)
                    | succ n52 ih_52 =>
                      intro sv52 y52_0 H locs ls hme52 hB_sv52 hv52_0 hv52_1 hv52_2 hv52_3 hM hS hl
                      have hb52_0 : (0 : Int) ≤ (sv52 0 0 28).toInt ∧ (sv52 0 0 28).toInt ≤ (1 : Int) := hB_sv52.1 0 0 28
                      have hb52_1 : (0 : Int) ≤ (sv52 0 0 29).toInt ∧ (sv52 0 0 29).toInt ≤ (20 : Int) := hB_sv52.1 0 0 29
                      have hb52_2 : (0 : Int) ≤ (sv52 0 0 9).toInt ∧ (sv52 0 0 9).toInt ≤ (800 : Int) := hB_sv52.1 0 0 9
                      refine lv_iload hx hb dX10_rights_111 (lv_at hl 0 rfl) ?_
                      refine lv_sipush (v := 199) hx hb dX10_rights_113 (by decide) ?_
                      refine lv_icmp_gt (tgt := 145) hx hb dX10_rights_116 (by decide) (fun c_53 => ?_) (fun c_53 => ?_)
                      · have ic_53 := gz_lt (by decide : (199 : Int32).toInt = 199) (rfl : y52_0.toInt = y52_0.toInt) c_53
                        obtain ⟨x_54, ex_54⟩ : ∃ y : Int32, y = y45_0 + 1 := ⟨_, rfl⟩
                        try have tx_54 : x_54.toInt = y45_0.toInt + 1 := by rw [ex_54]; exact gz_addP (x := y45_0.toInt) (y := 1) rfl (by decide) (by omega) (by omega)
                        refine lv_iinc (v := (x_54)) (lv' := [(3, .int x_54), (4, .int y52_0), (2, .int y16_0), (1, .int (st 0 0 28)), (0, .ref (ad 0 0))]) hx hb dX10_rights_145 hl (k := 1) rfl (by rw [ex_54]; rfl) (by decide) rfl (fun ls hl => ?_)
                        refine lv_goto (tgt := 99) hx hb dX10_rights_148 (by decide) ?_
                        exact ih_45 sv52 (x_54 : Int32) H _ ls (by omega) hB_sv52 (by omega) (by exact hv52_1) (by exact hv52_2) (by have hb0 : (0 : Int) ≤ (sv52 0 0 9).toInt ∧ (sv52 0 0 9).toInt ≤ (800 : Int) := hB_sv52.1 0 0 9; omega) hM hS (lv_sub hl [0, 2, 3, 4] rfl)
                      · have ic_53 := gz_nlt (by decide : (199 : Int32).toInt = 199) (rfl : y52_0.toInt = y52_0.toInt) c_53
                        refine lv_aload_n hx hb dX10_rights_119 rfl (lv_at hl 4 rfl) ?_
                        refine gs_get (C := RX10) (T := TX10) (N := 59) hx hb hts inX10 hown hK hM 0 0 6 (by decide) rfl rfl (by decide) (hts _ gm_903) (fun _ h9 => h9) rfl dX10_rights_120 ?_
                        refine lv_sipush (v := 200) hx hb dX10_rights_123 (by decide) ?_
                        refine lv_iload_n hx hb dX10_rights_126 rfl (lv_at hl 1 rfl) ?_
                        refine lv_imul hx hb dX10_rights_127 ?_
                        refine lv_topi (fun x_55 ex_55 => ?_)
                        try have tx_55 : x_55.toInt = 200 * y45_0.toInt := by rw [ex_55]; exact gz_mulI (x := 200) (y := y45_0.toInt) (by decide) rfl (by omega) (by omega)
                        refine lv_iload hx hb dX10_rights_128 (lv_at hl 0 rfl) ?_
                        refine lv_iadd hx hb dX10_rights_130 ?_
                        refine lv_topi (fun x_56 ex_56 => ?_)
                        try have tx_56 : x_56.toInt = x_55.toInt + y52_0.toInt := by rw [ex_56]; exact gz_addI (x := x_55.toInt) (y := y52_0.toInt) rfl rfl (by omega) (by omega)
                        refine lv_aload_n hx hb dX10_rights_131 rfl (lv_at hl 4 rfl) ?_
                        refine lv_iload_n hx hb dX10_rights_132 rfl (lv_at hl 1 rfl) ?_
                        refine lv_iload hx hb dX10_rights_133 (lv_at hl 0 rfl) ?_
                        refine gs_calli (va_runV (As := [.int y45_0, .int y52_0]) (rest := [.int x_56, .ref (ad 6 0)]) ⟨hx, hb, hml, hown, hts⟩ (m_byTurns l G cy sK sV ad H.size sv52 hB_sv52.1 y45_0 y52_0 y45_0.toInt y52_0.toInt rfl rfl (by first | decide | omega) (by exact hv52_2) (by exact hv52_1)) ⟨(gz_cb (n := 2) hts gm_1173 gm_12 gm_1176 ⟨by decide +kernel, by decide +kernel, by decide +kernel⟩ ⟨Nat.le_of_ble_eq_true rfl, Nat.le_of_ble_eq_true rfl⟩), hts _ gm_1175, hts _ gs_47⟩ (gs_preV hK hov hE hI hM hm hS hA 0 0 (by decide) rfl rfl) rfl rfl hl.1 rfl (lv_room (Nat.le_of_ble_eq_true rfl)) dX10_rights_135 ⟨Nat.le_of_ble_eq_true rfl, Nat.le_of_ble_eq_true rfl⟩) hm hS hA (fun r_57 st_57 H locs hw_57 hM hS => ?_)
                        obtain ⟨n_57, hw_57⟩ := hw_57
                        have n_57 := gBN.nil n_57
                        subst n_57
                        refine gs_iast hx hb hK hI hm hM hS 6 0 (by decide) (fun _ => rfl) (vp_in_iff.mpr ⟨by omega, by omega⟩) dX10_rights_138 (fun st_58 H locs est_58 hM hS => ?_)
                        have hB_st_58 : gBN bM kM [0, 9, 10, 11, 12, 13, 14, 15, 16, 17, 18, 19, 28, 29, 30, 59, 600, 800, 900, 1000, 1100, 1200, 1300, 1400, 1500] st st_58 := by rw [est_58]; exact hB_sv52.up (show (600 : Nat) ∈ _ from by decide) (gi_lo _) (gi_hi _)
                        obtain ⟨x_59, ex_59⟩ : ∃ y : Int32, y = y52_0 + 1 := ⟨_, rfl⟩
                        try have tx_59 : x_59.toInt = y52_0.toInt + 1 := by rw [ex_59]; exact gz_addP (x := y52_0.toInt) (y := 1) rfl (by decide) (by omega) (by omega)
                        refine lv_iinc (v := (x_59)) (lv' := [(4, .int x_59), (3, .int y45_0), (2, .int y16_0), (1, .int (st 0 0 28)), (0, .ref (ad 0 0))]) hx hb dX10_rights_139 hl (k := 0) rfl (by rw [ex_59]; rfl) (by decide) rfl (fun ls hl => ?_)
                        refine lv_goto (tgt := 111) hx hb dX10_rights_142 (by decide) ?_
                        exact ih_52 st_58 (x_59 : Int32) H _ ls (by omega) hB_st_58 (by omega) (by rw [show st_58 13 0 = (sv52 13 0) from ((congrFun (congrFun est_58 13) 0).trans ((congrFun (gU_k (by decide)) 0).trans rfl)), show st_58 15 0 = (sv52 15 0) from ((congrFun (congrFun est_58 15) 0).trans ((congrFun (gU_k (by decide)) 0).trans rfl))]; exact hv52_1) (by rw [show st_58 8 0 = (sv52 8 0) from ((congrFun (congrFun est_58 8) 0).trans ((congrFun (gU_k (by decide)) 0).trans rfl)), show st_58 13 0 = (sv52 13 0) from ((congrFun (congrFun est_58 13) 0).trans ((congrFun (gU_k (by decide)) 0).trans rfl))]; rw [show (st_58 0 0 28).toInt = (sv52 0 0 28).toInt from (congrArg Int32.toInt (((congrFun (congrFun (congrFun est_58 0) 0) 28).trans (congrFun (congrFun (gU_k (by decide)) 0) 28)))), show (st_58 0 0 29).toInt = (sv52 0 0 29).toInt from (congrArg Int32.toInt (((congrFun (congrFun (congrFun est_58 0) 0) 29).trans (congrFun (congrFun (gU_k (by decide)) 0) 29))))]; exact hv52_2) (by have hq0 : (st_58 0 0 9).toInt = ((sv52 0 0 9) : Int32).toInt := congrArg Int32.toInt (((congrFun (congrFun (congrFun est_58 0) 0) 9).trans (congrFun (congrFun (gU_k (by decide)) 0) 9))); have hb1 : (0 : Int) ≤ (st_58 0 0 9).toInt ∧ (st_58 0 0 9).toInt ≤ (800 : Int) := hB_st_58.1 0 0 9; omega) hM hS (lv_sub hl [0, 1, 2, 3, 4] rfl)
                  exact lp52 ((200 - ((st 0 0 7) : Int32).toInt).toNat + 1) sv45 ((st 0 0 7) : Int32) H _ ls (Nat.lt_succ_self _) hB_sv45 (by have hb0 : (0 : Int) ≤ (st 0 0 7).toInt ∧ (st 0 0 7).toInt ≤ (199 : Int) := hB_st.1 0 0 7; omega) (by exact hv45_1) (by exact hv45_2) (by have hb0 : (0 : Int) ≤ (sv45 0 0 9).toInt ∧ (sv45 0 0 9).toInt ≤ (800 : Int) := hB_sv45.1 0 0 9; omega) hM hS (lv_sub hl [0, 1, 2, 3, 4] rfl)
            exact lp45 ((6 - ((0 : Int32) : Int32).toInt).toNat + 1) st_44 ((0 : Int32) : Int32) H _ ls (Nat.lt_succ_self _) hB_st_44 (by have hl0 : (0 : Int32).toInt = 0 := (by decide); omega) (by rw [show st_44 13 0 = (sv16 13 0) from ((congrFun (congrFun est_44 13) 0).trans ((congrFun (gU_k (by decide)) 0).trans rfl)), show st_44 15 0 = (sv16 15 0) from ((congrFun (congrFun est_44 15) 0).trans ((congrFun (gU_k (by decide)) 0).trans rfl))]; exact hv16_4) (by rw [show (st_44 0 0 28).toInt = (sv16 0 0 28).toInt from (congrArg Int32.toInt (((congrFun (congrFun (congrFun est_44 0) 0) 28).trans (gU_other (by decide))))), show (st_44 0 0 29).toInt = (sv16 0 0 30).toInt from (congrArg Int32.toInt (((congrFun (congrFun (congrFun est_44 0) 0) 29).trans (gU_same _ _ _ _ _))))]; rw [show st_44 8 0 = (sv16 8 0) from ((congrFun (congrFun est_44 8) 0).trans ((congrFun (gU_k (by decide)) 0).trans rfl)), show st_44 13 0 = (sv16 13 0) from ((congrFun (congrFun est_44 13) 0).trans ((congrFun (gU_k (by decide)) 0).trans rfl))]; exact hv16_5) (by have hl0 : (0 : Int32).toInt = 0 := (by decide); have hq1 : (st_44 0 0 9).toInt = ((sv16 0 0 9) : Int32).toInt := congrArg Int32.toInt (((congrFun (congrFun (congrFun est_44 0) 0) 9).trans (gU_other (by decide)))); have hb2 : (0 : Int) ≤ (st_44 0 0 9).toInt ∧ (st_44 0 0 9).toInt ≤ (800 : Int) := hB_st_44.1 0 0 9; omega) hM hS (lv_sub hl [0, 1, 2, 3] rfl)
          · have ic_42 := gz_eqn (rfl : y16_0.toInt = y16_0.toInt) (by decide : (0 : Int32).toInt = 0) c_42
            refine lv_aload_n hx hb dX10_rights_77 rfl (lv_at hl 2 rfl) ?_
            refine lv_iload_n hx hb dX10_rights_78 rfl (lv_at hl 1 rfl) ?_
            refine gs_put (C := RX10) (T := TX10) (N := 59) (ty := .int) (val := .int (st 0 0 28)) hx hb hts inX10 tyX10 tyX10_ok nmX10 hown hK hI hm hM hS 0 0 28 (by decide) rfl rfl (by decide) (hts _ gm_925) (fun _ h9 => h9) rfl ((st 0 0 28) : Int32) rfl (by decide +kernel) rfl rfl (Nat.le_of_ble_eq_true rfl) dX10_rights_79 (fun st_60 H locs est_60 hM hS => ?_)
            have hB_st_60 : gBN bM kM [0, 9, 10, 11, 12, 13, 14, 15, 16, 17, 18, 19, 28, 29, 30, 59, 600, 800, 900, 1000, 1100, 1200, 1300, 1400, 1500] st st_60 := by rw [est_60]; exact hB_sv16.up (show (28 : Nat) ∈ _ from by decide) (show (0 : Int) ≤ (st 0 0 28).toInt from by omega) (show (st 0 0 28).toInt ≤ (1 : Int) from by omega)
            refine lv_iconst (v := (-1)) hx hb dX10_rights_82 (by decide) ?_
            refine lv_aload_n hx hb dX10_rights_83 rfl (lv_at hl 2 rfl) ?_
            refine gs_get (C := RX10) (T := TX10) (N := 59) hx hb hts inX10 hown hK hM 0 0 16 (by decide) rfl rfl (by decide) (hts _ gm_913) (fun _ h9 => h9) rfl dX10_rights_84 ?_
            refine lv_topi (fun x_61 ex_61 => ?_)
            have ex_61 : (sv16 0 0 16) = x_61 := Eq.symm (ex_61.trans ((congrFun (congrFun (congrFun est_60 0) 0) 16).trans (gU_other (by decide))))
            subst ex_61
            refine lv_isub hx hb dX10_rights_87 ?_
            refine lv_topi (fun x_63 ex_63 => ?_)
            rw [← hQe]
            exact gs_iret hx hb hr hlocks hM hS rfl ⟨hB_st_60, (by rw [show st_60 13 0 = (sv16 13 0) from ((congrFun (congrFun est_60 13) 0).trans ((congrFun (gU_k (by decide)) 0).trans rfl)), show st_60 15 0 = (sv16 15 0) from ((congrFun (congrFun est_60 15) 0).trans ((congrFun (gU_k (by decide)) 0).trans rfl))]; exact hv16_4), (by rw [show (st_60 0 0 28).toInt = 1 - (sv16 0 0 28).toInt from (by have h9 : (st_60 0 0 28).toInt = (st 0 0 28).toInt := (congrArg Int32.toInt (((congrFun (congrFun (congrFun est_60 0) 0) 28).trans (gU_same _ _ _ _ _)))); have h8 := hv16_2; omega), show (st_60 0 0 29).toInt = (sv16 0 0 29).toInt from (congrArg Int32.toInt (((congrFun (congrFun (congrFun est_60 0) 0) 29).trans (gU_other (by decide)))))]; rw [show st_60 8 0 = (sv16 8 0) from ((congrFun (congrFun est_60 8) 0).trans ((congrFun (gU_k (by decide)) 0).trans rfl)), show st_60 13 0 = (sv16 13 0) from ((congrFun (congrFun est_60 13) 0).trans ((congrFun (gU_k (by decide)) 0).trans rfl))]; exact hv16_6), (by have hq0 : (st_60 0 0 9).toInt = ((sv16 0 0 9) : Int32).toInt := congrArg Int32.toInt (((congrFun (congrFun (congrFun est_60 0) 0) 9).trans (gU_other (by decide)))); have hb1 : (0 : Int) ≤ (st_60 0 0 9).toInt ∧ (st_60 0 0 9).toInt ≤ (800 : Int) := hB_st_60.1 0 0 9; omega)⟩ (by exact Nat.le_refl _) (by exact Nat.le_refl _) dX10_rights_88
        · have ic_41 := gz_ne (rfl : (sv16 0 0 12).toInt = (sv16 0 0 12).toInt) (by decide : (0 : Int32).toInt = 0) c_41
          refine lv_aload_n hx hb dX10_rights_65 rfl (lv_at hl 2 rfl) ?_
          refine gs_calli (va_runV (As := []) (rest := []) ⟨hx, hb, hml, hown, hts⟩ (m_rule l G cy sK sV ad H.size sv16 hB_sv16.1  hv16_4 hv16_5 hv16_6) ⟨(gz_cb (n := 0) hts gm_1110 gm_12 gm_1113 ⟨by decide +kernel, by decide +kernel, by decide +kernel⟩ ⟨Nat.le_of_ble_eq_true rfl, Nat.le_of_ble_eq_true rfl⟩), hts _ gm_1112, hts _ gs_34⟩ (gs_preV hK hov hE hI hM hm hS hA 0 0 (by decide) rfl rfl) rfl rfl hl.1 rfl (lv_room (Nat.le_of_ble_eq_true rfl)) dX10_rights_66 ⟨Nat.le_of_ble_eq_true rfl, Nat.le_of_ble_eq_true rfl⟩) hm hS hA (fun r_64 st_64 H locs hw_64 hM hS => ?_)
          obtain ⟨n_64, hw_64⟩ := hw_64
          have hB_st_64 : gBN bM kM [0, 9, 10, 11, 12, 13, 14, 15, 16, 17, 18, 19, 28, 29, 30, 59, 600, 800, 900, 1000, 1100, 1200, 1300, 1400, 1500] st st_64 := hB_sv16.call n_64 (by decide)
          have hbhw_640 : (0 : Int) ≤ (sv16 0 0 30).toInt ∧ (sv16 0 0 30).toInt ≤ (20 : Int) := hB_sv16.1 0 0 30
          have hbhw_641 : (0 : Int) ≤ (sv16 0 0 28).toInt ∧ (sv16 0 0 28).toInt ≤ (1 : Int) := hB_sv16.1 0 0 28
          have hbhw_642 : (0 : Int) ≤ (sv16 0 0 29).toInt ∧ (sv16 0 0 29).toInt ≤ (20 : Int) := hB_sv16.1 0 0 29
          rcases hw_64 with ⟨rfl, hw_64_0, hw_64_1, hw_64_2, hw_64_3⟩ | ⟨rfl, hw_64_0, hw_64_1, hw_64_2, hw_64_3⟩
          · skip
            refine lv_istore_n (lv' := [(2, .int 1), (1, .int (st 0 0 28)), (0, .ref (ad 0 0))]) hx hb dX10_rights_69 rfl hl (by decide) rfl (fun ls hl => ?_)
            refine lv_goto (tgt := 54) hx hb dX10_rights_70 (by decide) ?_
            have hz9 : (1 : Int32).toInt = 1 := (by decide)
            exact ih_16 st_64 ((1 : Int32) : Int32) H _ ls (by have hl0 : (1 : Int32).toInt = 1 := (by decide); have hb1 : (0 : Int) ≤ (st_64 0 0 30).toInt ∧ (st_64 0 0 30).toInt ≤ (20 : Int) := hB_st_64.1 0 0 30; omega) hB_st_64 (by have hl0 : (1 : Int32).toInt = 1 := (by decide); omega) (by have hl0 : (1 : Int32).toInt = 1 := (by decide); omega) (by have hl0 : (1 : Int32).toInt = 1 := (by decide); have hq1 : (st_64 0 0 28).toInt = ((sv16 0 0 28) : Int32).toInt := congrArg Int32.toInt ((n_64.2 0 0 28 (show (28 : Nat) ∉ _ from by decide))); have hb2 : (0 : Int) ≤ (st_64 0 0 28).toInt ∧ (st_64 0 0 28).toInt ≤ (1 : Int) := hB_st_64.1 0 0 28; have hb3 : (0 : Int) ≤ (st 0 0 28).toInt ∧ (st 0 0 28).toInt ≤ (1 : Int) := hB_st.1 0 0 28; omega) (by have hl0 : (1 : Int32).toInt = 1 := (by decide); have hq1 : (st_64 0 0 29).toInt = ((sv16 0 0 29) : Int32).toInt := congrArg Int32.toInt ((n_64.2 0 0 29 (show (29 : Nat) ∉ _ from by decide))); have hb2 : (0 : Int) ≤ (st_64 0 0 29).toInt ∧ (st_64 0 0 29).toInt ≤ (20 : Int) := hB_st_64.1 0 0 29; have hb3 : (0 : Int) ≤ (st 0 0 29).toInt ∧ (st 0 0 29).toInt ≤ (20 : Int) := hB_st.1 0 0 29; omega) hw_64_1 (by rw [show (st_64 0 0 28).toInt = (sv16 0 0 28).toInt from (congrArg Int32.toInt ((n_64.2 0 0 28 (show (28 : Nat) ∉ _ from by decide)))), show (st_64 0 0 30).toInt = (sv16 0 0 30).toInt + 1 from hw_64_0]; exact hw_64_2) (by rw [show (st_64 0 0 28).toInt = (sv16 0 0 28).toInt from (congrArg Int32.toInt ((n_64.2 0 0 28 (show (28 : Nat) ∉ _ from by decide)))), show (st_64 0 0 29).toInt = (sv16 0 0 29).toInt from (congrArg Int32.toInt ((n_64.2 0 0 29 (show (29 : Nat) ∉ _ from by decide))))]; exact hw_64_3) (by have hl0 : (1 : Int32).toInt = 1 := (by decide); have hq1 : (st_64 0 0 9).toInt = ((sv16 0 0 9) : Int32).toInt := congrArg Int32.toInt ((n_64.2 0 0 9 (show (9 : Nat) ∉ _ from by decide))); have hb2 : (0 : Int) ≤ (st_64 0 0 9).toInt ∧ (st_64 0 0 9).toInt ≤ (800 : Int) := hB_st_64.1 0 0 9; omega) hM hS (lv_sub hl [0, 1, 2] rfl)
          · skip
            refine lv_istore_n (lv' := [(2, .int 0), (1, .int (st 0 0 28)), (0, .ref (ad 0 0))]) hx hb dX10_rights_69 rfl hl (by decide) rfl (fun ls hl => ?_)
            refine lv_goto (tgt := 54) hx hb dX10_rights_70 (by decide) ?_
            have hz9 : (0 : Int32).toInt = 0 := (by decide)
            exact ih_16 st_64 ((0 : Int32) : Int32) H _ ls (by have hl0 : (0 : Int32).toInt = 0 := (by decide); have hb1 : (0 : Int) ≤ (st_64 0 0 30).toInt ∧ (st_64 0 0 30).toInt ≤ (20 : Int) := hB_st_64.1 0 0 30; omega) hB_st_64 (by have hl0 : (0 : Int32).toInt = 0 := (by decide); omega) (by have hl0 : (0 : Int32).toInt = 0 := (by decide); omega) (by have hl0 : (0 : Int32).toInt = 0 := (by decide); have hq1 : (st_64 0 0 28).toInt = ((sv16 0 0 28) : Int32).toInt := congrArg Int32.toInt ((n_64.2 0 0 28 (show (28 : Nat) ∉ _ from by decide))); have hb2 : (0 : Int) ≤ (st_64 0 0 28).toInt ∧ (st_64 0 0 28).toInt ≤ (1 : Int) := hB_st_64.1 0 0 28; have hb3 : (0 : Int) ≤ (st 0 0 28).toInt ∧ (st 0 0 28).toInt ≤ (1 : Int) := hB_st.1 0 0 28; omega) (by have hl0 : (0 : Int32).toInt = 0 := (by decide); have hq1 : (st_64 0 0 29).toInt = ((sv16 0 0 29) : Int32).toInt := congrArg Int32.toInt ((n_64.2 0 0 29 (show (29 : Nat) ∉ _ from by decide))); have hb2 : (0 : Int) ≤ (st_64 0 0 29).toInt ∧ (st_64 0 0 29).toInt ≤ (20 : Int) := hB_st_64.1 0 0 29; have hb3 : (0 : Int) ≤ (st 0 0 29).toInt ∧ (st 0 0 29).toInt ≤ (20 : Int) := hB_st.1 0 0 29; omega) hw_64_1 (by rw [show (st_64 0 0 28).toInt = (sv16 0 0 28).toInt from (congrArg Int32.toInt ((n_64.2 0 0 28 (show (28 : Nat) ∉ _ from by decide)))), show (st_64 0 0 30).toInt = (sv16 0 0 30).toInt from hw_64_0]; exact hw_64_2) (by rw [show (st_64 0 0 28).toInt = (sv16 0 0 28).toInt from (congrArg Int32.toInt ((n_64.2 0 0 28 (show (28 : Nat) ∉ _ from by decide)))), show (st_64 0 0 29).toInt = (sv16 0 0 29).toInt from (congrArg Int32.toInt ((n_64.2 0 0 29 (show (29 : Nat) ∉ _ from by decide))))]; exact hw_64_3) (by have hl0 : (0 : Int32).toInt = 0 := (by decide); have hq1 : (st_64 0 0 9).toInt = ((sv16 0 0 9) : Int32).toInt := congrArg Int32.toInt ((n_64.2 0 0 9 (show (9 : Nat) ∉ _ from by decide))); have hb2 : (0 : Int) ≤ (st_64 0 0 9).toInt ∧ (st_64 0 0 9).toInt ≤ (800 : Int) := hB_st_64.1 0 0 9; omega) hM hS (lv_sub hl [0, 1, 2] rfl)
  exact lp16 ((21 - (st_15 0 0 30).toInt).toNat + ((1 : Int32) : Int32).toInt.toNat + 1) st_15 ((1 : Int32) : Int32) H _ ls (Nat.lt_succ_self _) hB_st_15 (by have hl0 : (1 : Int32).toInt = 1 := (by decide); omega) (by have hl0 : (1 : Int32).toInt = 1 := (by decide); omega) (by have hl0 : (1 : Int32).toInt = 1 := (by decide); have hq1 : (st_15 0 0 28).toInt = (x_12 : Int32).toInt := congrArg Int32.toInt (((n_15.2 0 0 28 (show (28 : Nat) ∉ _ from by decide)).trans (((congrFun (congrFun (congrFun est_14 0) 0) 28).trans (gU_other (by decide))).trans ((congrFun (congrFun (congrFun est_13 0) 0) 28).trans (gU_same _ _ _ _ _))))); have hb2 : (0 : Int) ≤ (st_15 0 0 28).toInt ∧ (st_15 0 0 28).toInt ≤ (1 : Int) := hB_st_15.1 0 0 28; have hb3 : (0 : Int) ≤ (st 0 0 28).toInt ∧ (st 0 0 28).toInt ≤ (1 : Int) := hB_st.1 0 0 28; omega) (by have hl0 : (1 : Int32).toInt = 1 := (by decide); have hq1 : (st_15 0 0 29).toInt = ((st 0 0 29) : Int32).toInt := congrArg Int32.toInt (((n_15.2 0 0 29 (show (29 : Nat) ∉ _ from by decide)).trans (((congrFun (congrFun (congrFun est_14 0) 0) 29).trans (gU_other (by decide))).trans (((congrFun (congrFun (congrFun est_13 0) 0) 29).trans (gU_other (by decide))).trans (((congrFun (congrFun (congrFun est_7 0) 0) 29).trans (gU_other (by decide))).trans (((congrFun (congrFun (congrFun est_6 0) 0) 29).trans (gU_other (by decide))).trans (((congrFun (congrFun (congrFun est_5 0) 0) 29).trans (gU_other (by decide))).trans (((congrFun (congrFun (congrFun est_4 0) 0) 29).trans (gU_other (by decide))).trans ((congrFun (congrFun (congrFun est_1 0) 0) 29).trans (gU_other (by decide))))))))))); have hb2 : (0 : Int) ≤ (st_15 0 0 29).toInt ∧ (st_15 0 0 29).toInt ≤ (20 : Int) := hB_st_15.1 0 0 29; have hb3 : (0 : Int) ≤ (st 0 0 29).toInt ∧ (st 0 0 29).toInt ≤ (20 : Int) := hB_st.1 0 0 29; omega) (by rw [show st_15 13 0 = (st 13 0) from ((funext (fun j9 => n_15.2 13 0 j9 (show (1300 : Nat) ∉ _ from by decide))).trans ((congrFun (congrFun est_14 13) 0).trans ((congrFun (gU_k (by decide)) 0).trans ((congrFun (congrFun est_13 13) 0).trans ((congrFun (gU_k (by decide)) 0).trans ((congrFun (congrFun est_7 13) 0).trans ((congrFun (gU_k (by decide)) 0).trans ((congrFun (congrFun est_6 13) 0).trans ((congrFun (gU_k (by decide)) 0).trans ((congrFun (congrFun est_5 13) 0).trans ((congrFun (gU_k (by decide)) 0).trans ((congrFun (congrFun est_4 13) 0).trans ((congrFun (gU_k (by decide)) 0).trans ((congrFun (congrFun est_1 13) 0).trans ((congrFun (gU_k (by decide)) 0).trans rfl))))))))))))))), show st_15 15 0 = (st 15 0) from ((funext (fun j9 => n_15.2 15 0 j9 (show (1500 : Nat) ∉ _ from by decide))).trans ((congrFun (congrFun est_14 15) 0).trans ((congrFun (gU_k (by decide)) 0).trans ((congrFun (congrFun est_13 15) 0).trans ((congrFun (gU_k (by decide)) 0).trans ((congrFun (congrFun est_7 15) 0).trans ((congrFun (gU_k (by decide)) 0).trans ((congrFun (congrFun est_6 15) 0).trans ((congrFun (gU_k (by decide)) 0).trans ((congrFun (congrFun est_5 15) 0).trans ((congrFun (gU_k (by decide)) 0).trans ((congrFun (congrFun est_4 15) 0).trans ((congrFun (gU_k (by decide)) 0).trans ((congrFun (congrFun est_1 15) 0).trans ((congrFun (gU_k (by decide)) 0).trans rfl)))))))))))))))]; exact htd) (by rw [show (st_15 0 0 30).toInt = 0 from ((congrArg Int32.toInt (((n_15.2 0 0 30 (show (30 : Nat) ∉ _ from by decide)).trans ((congrFun (congrFun (congrFun est_14 0) 0) 30).trans (gU_same _ _ _ _ _))))).trans (by decide))]; exact mAct_nil) (by rw [show 1 - (st_15 0 0 28).toInt = (st 0 0 28).toInt from (by have h9 : (st_15 0 0 28).toInt = x_12.toInt := (congrArg Int32.toInt (((n_15.2 0 0 28 (show (28 : Nat) ∉ _ from by decide)).trans (((congrFun (congrFun (congrFun est_14 0) 0) 28).trans (gU_other (by decide))).trans ((congrFun (congrFun (congrFun est_13 0) 0) 28).trans (gU_same _ _ _ _ _)))))); omega), show (st_15 0 0 29).toInt = (st 0 0 29).toInt from (congrArg Int32.toInt (((n_15.2 0 0 29 (show (29 : Nat) ∉ _ from by decide)).trans (((congrFun (congrFun (congrFun est_14 0) 0) 29).trans (gU_other (by decide))).trans (((congrFun (congrFun (congrFun est_13 0) 0) 29).trans (gU_other (by decide))).trans (((congrFun (congrFun (congrFun est_7 0) 0) 29).trans (gU_other (by decide))).trans (((congrFun (congrFun (congrFun est_6 0) 0) 29).trans (gU_other (by decide))).trans (((congrFun (congrFun (congrFun est_5 0) 0) 29).trans (gU_other (by decide))).trans (((congrFun (congrFun (congrFun est_4 0) 0) 29).trans (gU_other (by decide))).trans ((congrFun (congrFun (congrFun est_1 0) 0) 29).trans (gU_other (by decide))))))))))))]; rw [show st_15 8 0 = (st 8 0) from ((funext (fun j9 => n_15.2 8 0 j9 (show (800 : Nat) ∉ _ from by decide))).trans ((congrFun (congrFun est_14 8) 0).trans ((congrFun (gU_k (by decide)) 0).trans ((congrFun (congrFun est_13 8) 0).trans ((congrFun (gU_k (by decide)) 0).trans ((congrFun (congrFun est_7 8) 0).trans ((congrFun (gU_k (by decide)) 0).trans ((congrFun (congrFun est_6 8) 0).trans ((congrFun (gU_k (by decide)) 0).trans ((congrFun (congrFun est_5 8) 0).trans ((congrFun (gU_k (by decide)) 0).trans ((congrFun (congrFun est_4 8) 0).trans ((congrFun (gU_k (by decide)) 0).trans ((congrFun (congrFun est_1 8) 0).trans ((congrFun (gU_k (by decide)) 0).trans rfl))))))))))))))), show st_15 13 0 = (st 13 0) from ((funext (fun j9 => n_15.2 13 0 j9 (show (1300 : Nat) ∉ _ from by decide))).trans ((congrFun (congrFun est_14 13) 0).trans ((congrFun (gU_k (by decide)) 0).trans ((congrFun (congrFun est_13 13) 0).trans ((congrFun (gU_k (by decide)) 0).trans ((congrFun (congrFun est_7 13) 0).trans ((congrFun (gU_k (by decide)) 0).trans ((congrFun (congrFun est_6 13) 0).trans ((congrFun (gU_k (by decide)) 0).trans ((congrFun (congrFun est_5 13) 0).trans ((congrFun (gU_k (by decide)) 0).trans ((congrFun (congrFun est_4 13) 0).trans ((congrFun (gU_k (by decide)) 0).trans ((congrFun (congrFun est_1 13) 0).trans ((congrFun (gU_k (by decide)) 0).trans rfl)))))))))))))))]; exact hact) (by have hl0 : (1 : Int32).toInt = 1 := (by decide); have hq1 : (st_15 0 0 9).toInt = 0 := (congrArg Int32.toInt (((n_15.2 0 0 9 (show (9 : Nat) ∉ _ from by decide)).trans (((congrFun (congrFun (congrFun est_14 0) 0) 9).trans (gU_other (by decide))).trans (((congrFun (congrFun (congrFun est_13 0) 0) 9).trans (gU_other (by decide))).trans (((congrFun (congrFun (congrFun est_7 0) 0) 9).trans (gU_other (by decide))).trans (((congrFun (congrFun (congrFun est_6 0) 0) 9).trans (gU_other (by decide))).trans ((congrFun (congrFun (congrFun est_5 0) 0) 9).trans (gU_same _ _ _ _ _))))))))).trans (by decide); omega) hM hS (lv_sub hl [0, 1, 2] rfl)
