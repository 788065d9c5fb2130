theorem gm_928 : (Jvm.Cond.fieldLink "WellCourtModel" (61 : Nat) "WellCourtModel" "dDay" "[I") ∈ gz_T := gz_at 928 (by decide +kernel) rfl
theorem gm_929 : (Jvm.Cond.fieldLink "WellCourtModel" (64 : Nat) "WellCourtModel" "dWell" "[I") ∈ gz_T := gz_at 929 (by decide +kernel) rfl
theorem gm_930 : (Jvm.Cond.fieldLink "WellCourtModel" (67 : Nat) "WellCourtModel" "dClan" "[I") ∈ gz_T := gz_at 930 (by decide +kernel) rfl
theorem gm_931 : (Jvm.Cond.fieldLink "WellCourtModel" (70 : Nat) "WellCourtModel" "dAmount" "[I") ∈ gz_T := gz_at 931 (by decide +kernel) rfl
theorem gm_932 : (Jvm.Cond.fieldLink "WellCourtModel" (73 : Nat) "WellCourtModel" "dRight" "[I") ∈ gz_T := gz_at 932 (by decide +kernel) rfl
theorem gm_933 : (Jvm.Cond.fieldLink "WellCourtModel" (76 : Nat) "WellCourtModel" "dKnown" "[I") ∈ gz_T := gz_at 933 (by decide +kernel) rfl
theorem gm_934 : (Jvm.Cond.fieldLink "WellCourtModel" (287 : Nat) "WellCourtModel" "draws" "I") ∈ gz_T := gz_at 934 (by decide +kernel) rfl
theorem gm_1197 : (Jvm.Cond.methodLink "WellCourtModel" (271 : Nat) ({ cls := "WellCourtModel", name := "hasWell", desc := "(I)Z" } : Jvm.MethodName)) ∈ gz_T := gz_at 1197 (by decide +kernel) rfl
theorem gm_1199 : (Jvm.Cond.instanceMethod ({ cls := "WellCourtModel", name := "hasWell", desc := "(I)Z" } : Jvm.MethodName)) ∈ gz_T := gz_at 1199 (by decide +kernel) rfl
theorem gm_1200 : (Jvm.Cond.code ({ cls := "WellCourtModel", name := "hasWell", desc := "(I)Z" } : Jvm.MethodName) prog_12_method_3_code (2 : Nat) (Option.some Jvm.ClassFile.FieldType.boolean)) ∈ gz_T := gz_at 1200 (by decide +kernel) rfl
theorem gm_1209 : (Jvm.Cond.methodLink "WellCourtModel" (278 : Nat) ({ cls := "WellCourtModel", name := "isClan", desc := "(I)Z" } : Jvm.MethodName)) ∈ gz_T := gz_at 1209 (by decide +kernel) rfl
theorem gm_1210 : (Jvm.Cond.static ({ cls := "WellCourtModel", name := "isClan", desc := "(I)Z" } : Jvm.MethodName)) ∈ gz_T := gz_at 1210 (by decide +kernel) rfl
theorem gm_1211 : (Jvm.Cond.code ({ cls := "WellCourtModel", name := "isClan", desc := "(I)Z" } : Jvm.MethodName) prog_12_method_33_code (1 : Nat) (Option.some Jvm.ClassFile.FieldType.boolean)) ∈ gz_T := gz_at 1211 (by decide +kernel) rfl
theorem gm_1212 : (Jvm.Cond.methodLink "WellCourtModel" (281 : Nat) ({ cls := "WellCourtModel", name := "isRightNow", desc := "(II)Z" } : Jvm.MethodName)) ∈ gz_T := gz_at 1212 (by decide +kernel) rfl
theorem gm_1214 : (Jvm.Cond.instanceMethod ({ cls := "WellCourtModel", name := "isRightNow", desc := "(II)Z" } : Jvm.MethodName)) ∈ gz_T := gz_at 1214 (by decide +kernel) rfl
theorem gm_1215 : (Jvm.Cond.code ({ cls := "WellCourtModel", name := "isRightNow", desc := "(II)Z" } : Jvm.MethodName) prog_12_method_35_code (3 : Nat) (Option.some Jvm.ClassFile.FieldType.boolean)) ∈ gz_T := gz_at 1215 (by decide +kernel) rfl
theorem gm_1216 : (Jvm.Cond.methodLink "WellCourtModel" (274 : Nat) ({ cls := "WellCourtModel", name := "isRight", desc := "(II[III[II)Z" } : Jvm.MethodName)) ∈ gz_T := gz_at 1216 (by decide +kernel) rfl
theorem gm_1218 : (Jvm.Cond.instanceMethod ({ cls := "WellCourtModel", name := "isRight", desc := "(II[III[II)Z" } : Jvm.MethodName)) ∈ gz_T := gz_at 1218 (by decide +kernel) rfl
theorem gm_1219 : (Jvm.Cond.code ({ cls := "WellCourtModel", name := "isRight", desc := "(II[III[II)Z" } : Jvm.MethodName) prog_12_method_34_code (10 : Nat) (Option.some Jvm.ClassFile.FieldType.boolean)) ∈ gz_T := gz_at 1219 (by decide +kernel) rfl
theorem gm_1220 : (Jvm.Cond.methodLink "WellCourtModel" (284 : Nat) ({ cls := "WellCourtModel", name := "guestRule", desc := "(II)I" } : Jvm.MethodName)) ∈ gz_T := gz_at 1220 (by decide +kernel) rfl
theorem gm_1222 : (Jvm.Cond.instanceMethod ({ cls := "WellCourtModel", name := "guestRule", desc := "(II)I" } : Jvm.MethodName)) ∈ gz_T := gz_at 1222 (by decide +kernel) rfl
theorem gm_1223 : (Jvm.Cond.code ({ cls := "WellCourtModel", name := "guestRule", desc := "(II)I" } : Jvm.MethodName) prog_12_method_36_code (5 : Nat) (Option.some Jvm.ClassFile.FieldType.int)) ∈ gz_T := gz_at 1223 (by decide +kernel) rfl
theorem gm_1232 : (Jvm.Cond.methodLink "WellCourtModel" (290 : Nat) ({ cls := "WellCourtModel", name := "cantDraw", desc := "(III)Z" } : Jvm.MethodName)) ∈ gz_T := gz_at 1232 (by decide +kernel) rfl
theorem gm_1234 : (Jvm.Cond.instanceMethod ({ cls := "WellCourtModel", name := "cantDraw", desc := "(III)Z" } : Jvm.MethodName)) ∈ gz_T := gz_at 1234 (by decide +kernel) rfl
theorem gm_1235 : (Jvm.Cond.code ({ cls := "WellCourtModel", name := "cantDraw", desc := "(III)Z" } : Jvm.MethodName) prog_12_method_39_code (4 : Nat) (Option.some Jvm.ClassFile.FieldType.boolean)) ∈ gz_T := gz_at 1235 (by decide +kernel) rfl
theorem gm_1236 : (Jvm.Cond.methodLink "WellCourtModel" (294 : Nat) ({ cls := "WellCourtModel", name := "drawn", desc := "(IIIZ)I" } : Jvm.MethodName)) ∈ gz_T := gz_at 1236 (by decide +kernel) rfl
theorem gm_1238 : (Jvm.Cond.instanceMethod ({ cls := "WellCourtModel", name := "drawn", desc := "(IIIZ)I" } : Jvm.MethodName)) ∈ gz_T := gz_at 1238 (by decide +kernel) rfl
theorem gm_1239 : (Jvm.Cond.code ({ cls := "WellCourtModel", name := "drawn", desc := "(IIIZ)I" } : Jvm.MethodName) prog_12_method_40_code (5 : Nat) (Option.some Jvm.ClassFile.FieldType.int)) ∈ gz_T := gz_at 1239 (by decide +kernel) rfl
theorem gs_50 : (Jvm.Cond.selects "WellCourtModel" ({ cls := "WellCourtModel", name := "hasWell", desc := "(I)Z" } : Jvm.MethodName) ({ cls := "WellCourtModel", name := "hasWell", desc := "(I)Z" } : Jvm.MethodName)) ∈ gz_T := gz_sel 50 (by decide +kernel) rfl
theorem gs_51 : (Jvm.Cond.selects "WellCourtModel" ({ cls := "WellCourtModel", name := "isRightNow", desc := "(II)Z" } : Jvm.MethodName) ({ cls := "WellCourtModel", name := "isRightNow", desc := "(II)Z" } : Jvm.MethodName)) ∈ gz_T := gz_sel 51 (by decide +kernel) rfl
theorem gs_52 : (Jvm.Cond.selects "WellCourtModel" ({ cls := "WellCourtModel", name := "isRight", desc := "(II[III[II)Z" } : Jvm.MethodName) ({ cls := "WellCourtModel", name := "isRight", desc := "(II[III[II)Z" } : Jvm.MethodName)) ∈ gz_T := gz_sel 52 (by decide +kernel) rfl
theorem gs_53 : (Jvm.Cond.selects "WellCourtModel" ({ cls := "WellCourtModel", name := "guestRule", desc := "(II)I" } : Jvm.MethodName) ({ cls := "WellCourtModel", name := "guestRule", desc := "(II)I" } : Jvm.MethodName)) ∈ gz_T := gz_sel 53 (by decide +kernel) rfl
theorem gs_54 : (Jvm.Cond.selects "WellCourtModel" ({ cls := "WellCourtModel", name := "cantDraw", desc := "(III)Z" } : Jvm.MethodName) ({ cls := "WellCourtModel", name := "cantDraw", desc := "(III)Z" } : Jvm.MethodName)) ∈ gz_T := gz_sel 54 (by decide +kernel) rfl
theorem gs_55 : (Jvm.Cond.selects "WellCourtModel" ({ cls := "WellCourtModel", name := "drawn", desc := "(IIIZ)I" } : Jvm.MethodName) ({ cls := "WellCourtModel", name := "drawn", desc := "(IIIZ)I" } : Jvm.MethodName)) ∈ gz_T := gz_sel 55 (by decide +kernel) rfl
theorem dX10_cantDraw_0 : decode cX10_cantDraw 0 = .ok (.aload_n 0, 1) := by decide +kernel
theorem dX10_cantDraw_1 : decode cX10_cantDraw 1 = .ok (.iload_n 1, 1) := by decide +kernel
theorem dX10_cantDraw_2 : decode cX10_cantDraw 2 = .ok (.invokevirtual 271, 3) := by decide +kernel
theorem dX10_cantDraw_5 : decode cX10_cantDraw 5 = .ok (.ifCond .eq 32, 3) := by decide +kernel
theorem dX10_cantDraw_8 : decode cX10_cantDraw 8 = .ok (.iload_n 2, 1) := by decide +kernel
theorem dX10_cantDraw_9 : decode cX10_cantDraw 9 = .ok (.invokestatic 278, 3) := by decide +kernel
theorem dX10_cantDraw_12 : decode cX10_cantDraw 12 = .ok (.ifCond .eq 25, 3) := by decide +kernel
theorem dX10_cantDraw_15 : decode cX10_cantDraw 15 = .ok (.iload_n 3, 1) := by decide +kernel
theorem dX10_cantDraw_16 : decode cX10_cantDraw 16 = .ok (.iconst 1, 1) := by decide +kernel
theorem dX10_cantDraw_17 : decode cX10_cantDraw 17 = .ok (.if_icmp .lt 20, 3) := by decide +kernel
theorem dX10_cantDraw_20 : decode cX10_cantDraw 20 = .ok (.iload_n 3, 1) := by decide +kernel
theorem dX10_cantDraw_21 : decode cX10_cantDraw 21 = .ok (.sipush 1000, 3) := by decide +kernel
theorem dX10_cantDraw_24 : decode cX10_cantDraw 24 = .ok (.if_icmp .gt 13, 3) := by decide +kernel
theorem dX10_cantDraw_27 : decode cX10_cantDraw 27 = .ok (.aload_n 0, 1) := by decide +kernel
theorem dX10_cantDraw_28 : decode cX10_cantDraw 28 = .ok (.getfield 287, 3) := by decide +kernel
theorem dX10_cantDraw_31 : decode cX10_cantDraw 31 = .ok (.sipush 300, 3) := by decide +kernel
theorem dX10_cantDraw_34 : decode cX10_cantDraw 34 = .ok (.if_icmp .ne 7, 3) := by decide +kernel
theorem dX10_cantDraw_37 : decode cX10_cantDraw 37 = .ok (.iconst 1, 1) := by decide +kernel
theorem dX10_cantDraw_38 : decode cX10_cantDraw 38 = .ok (.goto 4, 3) := by decide +kernel
theorem dX10_cantDraw_41 : decode cX10_cantDraw 41 = .ok (.iconst 0, 1) := by decide +kernel
theorem dX10_cantDraw_42 : decode cX10_cantDraw 42 = .ok (.ireturn, 1) := by decide +kernel
theorem dX10_draw_0 : decode cX10_draw 0 = .ok (.aload_n 0, 1) := by decide +kernel
theorem dX10_draw_1 : decode cX10_draw 1 = .ok (.iconst 0, 1) := by decide +kernel
theorem dX10_draw_2 : decode cX10_draw 2 = .ok (.putfield 1, 3) := by decide +kernel
theorem dX10_draw_5 : decode cX10_draw 5 = .ok (.aload_n 0, 1) := by decide +kernel
theorem dX10_draw_6 : decode cX10_draw 6 = .ok (.iload_n 1, 1) := by decide +kernel
theorem dX10_draw_7 : decode cX10_draw 7 = .ok (.iload_n 2, 1) := by decide +kernel
theorem dX10_draw_8 : decode cX10_draw 8 = .ok (.iload_n 3, 1) := by decide +kernel
theorem dX10_draw_9 : decode cX10_draw 9 = .ok (.invokevirtual 290, 3) := by decide +kernel
theorem dX10_draw_12 : decode cX10_draw 12 = .ok (.ifCond .eq 5, 3) := by decide +kernel
theorem dX10_draw_15 : decode cX10_draw 15 = .ok (.iconst 1, 1) := by decide +kernel
theorem dX10_draw_16 : decode cX10_draw 16 = .ok (.ireturn, 1) := by decide +kernel
theorem dX10_draw_17 : decode cX10_draw 17 = .ok (.aload_n 0, 1) := by decide +kernel
theorem dX10_draw_18 : decode cX10_draw 18 = .ok (.iload_n 1, 1) := by decide +kernel
theorem dX10_draw_19 : decode cX10_draw 19 = .ok (.iload_n 2, 1) := by decide +kernel
theorem dX10_draw_20 : decode cX10_draw 20 = .ok (.invokevirtual 281, 3) := by decide +kernel
theorem dX10_draw_23 : decode cX10_draw 23 = .ok (.ifCond .ne 116, 3) := by decide +kernel
theorem dX10_draw_26 : decode cX10_draw 26 = .ok (.aload_n 0, 1) := by decide +kernel
theorem dX10_draw_27 : decode cX10_draw 27 = .ok (.iload_n 1, 1) := by decide +kernel
theorem dX10_draw_28 : decode cX10_draw 28 = .ok (.iload_n 2, 1) := by decide +kernel
theorem dX10_draw_29 : decode cX10_draw 29 = .ok (.invokevirtual 284, 3) := by decide +kernel
theorem dX10_draw_32 : decode cX10_draw 32 = .ok (.istore 4, 2) := by decide +kernel
theorem dX10_draw_34 : decode cX10_draw 34 = .ok (.iload 4, 2) := by decide +kernel
theorem dX10_draw_36 : decode cX10_draw 36 = .ok (.ifCond .ge 5, 3) := by decide +kernel
theorem dX10_draw_39 : decode cX10_draw 39 = .ok (.iconst 2, 1) := by decide +kernel
theorem dX10_draw_40 : decode cX10_draw 40 = .ok (.ireturn, 1) := by decide +kernel
theorem dX10_draw_41 : decode cX10_draw 41 = .ok (.iload_n 3, 1) := by decide +kernel
theorem dX10_draw_42 : decode cX10_draw 42 = .ok (.istore 5, 2) := by decide +kernel
theorem dX10_draw_44 : decode cX10_draw 44 = .ok (.iconst 0, 1) := by decide +kernel
theorem dX10_draw_45 : decode cX10_draw 45 = .ok (.istore 6, 2) := by decide +kernel
theorem dX10_draw_47 : decode cX10_draw 47 = .ok (.iload 6, 2) := by decide +kernel
theorem dX10_draw_49 : decode cX10_draw 49 = .ok (.aload_n 0, 1) := by decide +kernel
theorem dX10_draw_50 : decode cX10_draw 50 = .ok (.getfield 287, 3) := by decide +kernel
theorem dX10_draw_53 : decode cX10_draw 53 = .ok (.if_icmp .ge 72, 3) := by decide +kernel
theorem dX10_draw_56 : decode cX10_draw 56 = .ok (.iload 5, 2) := by decide +kernel
theorem dX10_draw_58 : decode cX10_draw 58 = .ok (.aload_n 0, 1) := by decide +kernel
theorem dX10_draw_59 : decode cX10_draw 59 = .ok (.getfield 61, 3) := by decide +kernel
theorem dX10_draw_62 : decode cX10_draw 62 = .ok (.iload 6, 2) := by decide +kernel
theorem dX10_draw_64 : decode cX10_draw 64 = .ok (.iaload, 1) := by decide +kernel
theorem dX10_draw_65 : decode cX10_draw 65 = .ok (.aload_n 0, 1) := by decide +kernel
theorem dX10_draw_66 : decode cX10_draw 66 = .ok (.getfield 213, 3) := by decide +kernel
theorem dX10_draw_69 : decode cX10_draw 69 = .ok (.if_icmp .ne 46, 3) := by decide +kernel
theorem dX10_draw_72 : decode cX10_draw 72 = .ok (.aload_n 0, 1) := by decide +kernel
theorem dX10_draw_73 : decode cX10_draw 73 = .ok (.getfield 64, 3) := by decide +kernel
theorem dX10_draw_76 : decode cX10_draw 76 = .ok (.iload 6, 2) := by decide +kernel
theorem dX10_draw_78 : decode cX10_draw 78 = .ok (.iaload, 1) := by decide +kernel
theorem dX10_draw_79 : decode cX10_draw 79 = .ok (.iload_n 1, 1) := by decide +kernel
theorem dX10_draw_80 : decode cX10_draw 80 = .ok (.if_icmp .ne 35, 3) := by decide +kernel
theorem dX10_draw_83 : decode cX10_draw 83 = .ok (.aload_n 0, 1) := by decide +kernel
theorem dX10_draw_84 : decode cX10_draw 84 = .ok (.getfield 67, 3) := by decide +kernel
theorem dX10_draw_87 : decode cX10_draw 87 = .ok (.iload 6, 2) := by decide +kernel
theorem dX10_draw_89 : decode cX10_draw 89 = .ok (.iaload, 1) := by decide +kernel
theorem dX10_draw_90 : decode cX10_draw 90 = .ok (.iload_n 2, 1) := by decide +kernel
theorem dX10_draw_91 : decode cX10_draw 91 = .ok (.if_icmp .ne 24, 3) := by decide +kernel
theorem dX10_draw_94 : decode cX10_draw 94 = .ok (.aload_n 0, 1) := by decide +kernel
theorem dX10_draw_95 : decode cX10_draw 95 = .ok (.getfield 73, 3) := by decide +kernel
theorem dX10_draw_98 : decode cX10_draw 98 = .ok (.iload 6, 2) := by decide +kernel
theorem dX10_draw_100 : decode cX10_draw 100 = .ok (.iaload, 1) := by decide +kernel
theorem dX10_draw_101 : decode cX10_draw 101 = .ok (.iconst 1, 1) := by decide +kernel
theorem dX10_draw_102 : decode cX10_draw 102 = .ok (.if_icmp .ne 13, 3) := by decide +kernel
theorem dX10_draw_105 : decode cX10_draw 105 = .ok (.aload_n 0, 1) := by decide +kernel
theorem dX10_draw_106 : decode cX10_draw 106 = .ok (.getfield 70, 3) := by decide +kernel
theorem dX10_draw_109 : decode cX10_draw 109 = .ok (.iload 6, 2) := by decide +kernel
theorem dX10_draw_111 : decode cX10_draw 111 = .ok (.iaload, 1) := by decide +kernel
theorem dX10_draw_112 : decode cX10_draw 112 = .ok (.goto 4, 3) := by decide +kernel
theorem dX10_draw_115 : decode cX10_draw 115 = .ok (.iconst 0, 1) := by decide +kernel
theorem dX10_draw_116 : decode cX10_draw 116 = .ok (.iadd, 1) := by decide +kernel
theorem dX10_draw_117 : decode cX10_draw 117 = .ok (.istore 5, 2) := by decide +kernel
theorem dX10_draw_119 : decode cX10_draw 119 = .ok (.iinc 6 1, 3) := by decide +kernel
theorem dX10_draw_122 : decode cX10_draw 122 = .ok (.goto (-75), 3) := by decide +kernel
theorem dX10_draw_125 : decode cX10_draw 125 = .ok (.iload 5, 2) := by decide +kernel
theorem dX10_draw_127 : decode cX10_draw 127 = .ok (.aload_n 0, 1) := by decide +kernel
theorem dX10_draw_128 : decode cX10_draw 128 = .ok (.getfield 49, 3) := by decide +kernel
theorem dX10_draw_131 : decode cX10_draw 131 = .ok (.iload 4, 2) := by decide +kernel
theorem dX10_draw_133 : decode cX10_draw 133 = .ok (.iaload, 1) := by decide +kernel
theorem dX10_draw_134 : decode cX10_draw 134 = .ok (.if_icmp .le 5, 3) := by decide +kernel
theorem dX10_draw_137 : decode cX10_draw 137 = .ok (.iconst 3, 1) := by decide +kernel
theorem dX10_draw_138 : decode cX10_draw 138 = .ok (.ireturn, 1) := by decide +kernel
theorem dX10_draw_139 : decode cX10_draw 139 = .ok (.aload_n 0, 1) := by decide +kernel
theorem dX10_draw_140 : decode cX10_draw 140 = .ok (.iload_n 1, 1) := by decide +kernel
theorem dX10_draw_141 : decode cX10_draw 141 = .ok (.iload_n 2, 1) := by decide +kernel
theorem dX10_draw_142 : decode cX10_draw 142 = .ok (.iload_n 3, 1) := by decide +kernel
theorem dX10_draw_143 : decode cX10_draw 143 = .ok (.iconst 1, 1) := by decide +kernel
theorem dX10_draw_144 : decode cX10_draw 144 = .ok (.invokevirtual 294, 3) := by decide +kernel
theorem dX10_draw_147 : decode cX10_draw 147 = .ok (.ireturn, 1) := by decide +kernel
theorem dX10_drawn_0 : decode cX10_drawn 0 = .ok (.iload_n 3, 1) := by decide +kernel
theorem dX10_drawn_1 : decode cX10_drawn 1 = .ok (.aload_n 0, 1) := by decide +kernel
theorem dX10_drawn_2 : decode cX10_drawn 2 = .ok (.getfield 24, 3) := by decide +kernel
theorem dX10_drawn_5 : decode cX10_drawn 5 = .ok (.iload_n 1, 1) := by decide +kernel
theorem dX10_drawn_6 : decode cX10_drawn 6 = .ok (.iaload, 1) := by decide +kernel
theorem dX10_drawn_7 : decode cX10_drawn 7 = .ok (.if_icmp .le 5, 3) := by decide +kernel
theorem dX10_drawn_10 : decode cX10_drawn 10 = .ok (.iconst 4, 1) := by decide +kernel
theorem dX10_drawn_11 : decode cX10_drawn 11 = .ok (.ireturn, 1) := by decide +kernel
theorem dX10_drawn_12 : decode cX10_drawn 12 = .ok (.aload_n 0, 1) := by decide +kernel
theorem dX10_drawn_13 : decode cX10_drawn 13 = .ok (.getfield 24, 3) := by decide +kernel
theorem dX10_drawn_16 : decode cX10_drawn 16 = .ok (.iload_n 1, 1) := by decide +kernel
theorem dX10_drawn_17 : decode cX10_drawn 17 = .ok (.dup2, 1) := by decide +kernel
theorem dX10_drawn_18 : decode cX10_drawn 18 = .ok (.iaload, 1) := by decide +kernel
theorem dX10_drawn_19 : decode cX10_drawn 19 = .ok (.iload_n 3, 1) := by decide +kernel
theorem dX10_drawn_20 : decode cX10_drawn 20 = .ok (.isub, 1) := by decide +kernel
theorem dX10_drawn_21 : decode cX10_drawn 21 = .ok (.iastore, 1) := by decide +kernel
theorem dX10_drawn_22 : decode cX10_drawn 22 = .ok (.aload_n 0, 1) := by decide +kernel
theorem dX10_drawn_23 : decode cX10_drawn 23 = .ok (.getfield 61, 3) := by decide +kernel
theorem dX10_drawn_26 : decode cX10_drawn 26 = .ok (.aload_n 0, 1) := by decide +kernel
theorem dX10_drawn_27 : decode cX10_drawn 27 = .ok (.getfield 287, 3) := by decide +kernel
theorem dX10_drawn_30 : decode cX10_drawn 30 = .ok (.aload_n 0, 1) := by decide +kernel
theorem dX10_drawn_31 : decode cX10_drawn 31 = .ok (.getfield 213, 3) := by decide +kernel
theorem dX10_drawn_34 : decode cX10_drawn 34 = .ok (.iastore, 1) := by decide +kernel
theorem dX10_drawn_35 : decode cX10_drawn 35 = .ok (.aload_n 0, 1) := by decide +kernel
theorem dX10_drawn_36 : decode cX10_drawn 36 = .ok (.getfield 64, 3) := by decide +kernel
theorem dX10_drawn_39 : decode cX10_drawn 39 = .ok (.aload_n 0, 1) := by decide +kernel
theorem dX10_drawn_40 : decode cX10_drawn 40 = .ok (.getfield 287, 3) := by decide +kernel
theorem dX10_drawn_43 : decode cX10_drawn 43 = .ok (.iload_n 1, 1) := by decide +kernel
theorem dX10_drawn_44 : decode cX10_drawn 44 = .ok (.iastore, 1) := by decide +kernel
theorem dX10_drawn_45 : decode cX10_drawn 45 = .ok (.aload_n 0, 1) := by decide +kernel
theorem dX10_drawn_46 : decode cX10_drawn 46 = .ok (.getfield 67, 3) := by decide +kernel
theorem dX10_drawn_49 : decode cX10_drawn 49 = .ok (.aload_n 0, 1) := by decide +kernel
theorem dX10_drawn_50 : decode cX10_drawn 50 = .ok (.getfield 287, 3) := by decide +kernel
theorem dX10_drawn_53 : decode cX10_drawn 53 = .ok (.iload_n 2, 1) := by decide +kernel
theorem dX10_drawn_54 : decode cX10_drawn 54 = .ok (.iastore, 1) := by decide +kernel
theorem dX10_drawn_55 : decode cX10_drawn 55 = .ok (.aload_n 0, 1) := by decide +kernel
theorem dX10_drawn_56 : decode cX10_drawn 56 = .ok (.getfield 70, 3) := by decide +kernel
theorem dX10_drawn_59 : decode cX10_drawn 59 = .ok (.aload_n 0, 1) := by decide +kernel
theorem dX10_drawn_60 : decode cX10_drawn 60 = .ok (.getfield 287, 3) := by decide +kernel
theorem dX10_drawn_63 : decode cX10_drawn 63 = .ok (.iload_n 3, 1) := by decide +kernel
theorem dX10_drawn_64 : decode cX10_drawn 64 = .ok (.iastore, 1) := by decide +kernel
theorem dX10_drawn_65 : decode cX10_drawn 65 = .ok (.aload_n 0, 1) := by decide +kernel
theorem dX10_drawn_66 : decode cX10_drawn 66 = .ok (.getfield 73, 3) := by decide +kernel
theorem dX10_drawn_69 : decode cX10_drawn 69 = .ok (.aload_n 0, 1) := by decide +kernel
theorem dX10_drawn_70 : decode cX10_drawn 70 = .ok (.getfield 287, 3) := by decide +kernel
theorem dX10_drawn_73 : decode cX10_drawn 73 = .ok (.iload 4, 2) := by decide +kernel
theorem dX10_drawn_75 : decode cX10_drawn 75 = .ok (.ifCond .eq 7, 3) := by decide +kernel
theorem dX10_drawn_78 : decode cX10_drawn 78 = .ok (.iconst 1, 1) := by decide +kernel
theorem dX10_drawn_79 : decode cX10_drawn 79 = .ok (.goto 4, 3) := by decide +kernel
theorem dX10_drawn_82 : decode cX10_drawn 82 = .ok (.iconst 0, 1) := by decide +kernel
theorem dX10_drawn_83 : decode cX10_drawn 83 = .ok (.iastore, 1) := by decide +kernel
theorem dX10_drawn_84 : decode cX10_drawn 84 = .ok (.aload_n 0, 1) := by decide +kernel
theorem dX10_drawn_85 : decode cX10_drawn 85 = .ok (.getfield 76, 3) := by decide +kernel
theorem dX10_drawn_88 : decode cX10_drawn 88 = .ok (.aload_n 0, 1) := by decide +kernel
theorem dX10_drawn_89 : decode cX10_drawn 89 = .ok (.getfield 287, 3) := by decide +kernel
theorem dX10_drawn_92 : decode cX10_drawn 92 = .ok (.iload 4, 2) := by decide +kernel
theorem dX10_drawn_94 : decode cX10_drawn 94 = .ok (.ifCond .eq 10, 3) := by decide +kernel
theorem dX10_drawn_97 : decode cX10_drawn 97 = .ok (.aload_n 0, 1) := by decide +kernel
theorem dX10_drawn_98 : decode cX10_drawn 98 = .ok (.getfield 213, 3) := by decide +kernel
theorem dX10_drawn_101 : decode cX10_drawn 101 = .ok (.goto 4, 3) := by decide +kernel
theorem dX10_drawn_104 : decode cX10_drawn 104 = .ok (.iconst (-1), 1) := by decide +kernel
theorem dX10_drawn_105 : decode cX10_drawn 105 = .ok (.iastore, 1) := by decide +kernel
theorem dX10_drawn_106 : decode cX10_drawn 106 = .ok (.aload_n 0, 1) := by decide +kernel
theorem dX10_drawn_107 : decode cX10_drawn 107 = .ok (.dup, 1) := by decide +kernel
theorem dX10_drawn_108 : decode cX10_drawn 108 = .ok (.getfield 287, 3) := by decide +kernel
theorem dX10_drawn_111 : decode cX10_drawn 111 = .ok (.iconst 1, 1) := by decide +kernel
theorem dX10_drawn_112 : decode cX10_drawn 112 = .ok (.iadd, 1) := by decide +kernel
theorem dX10_drawn_113 : decode cX10_drawn 113 = .ok (.putfield 287, 3) := by decide +kernel
theorem dX10_drawn_116 : decode cX10_drawn 116 = .ok (.iconst 0, 1) := by decide +kernel
theorem dX10_drawn_117 : decode cX10_drawn 117 = .ok (.ireturn, 1) := by decide +kernel
theorem dX10_drawn__0 : decode cX10_drawn_ 0 = .ok (.aload_n 0, 1) := by decide +kernel
theorem dX10_drawn__1 : decode cX10_drawn_ 1 = .ok (.iload_n 1, 1) := by decide +kernel
theorem dX10_drawn__2 : decode cX10_drawn_ 2 = .ok (.ifCond .lt 20, 3) := by decide +kernel
theorem dX10_drawn__5 : decode cX10_drawn_ 5 = .ok (.iload_n 1, 1) := by decide +kernel
theorem dX10_drawn__6 : decode cX10_drawn_ 6 = .ok (.aload_n 0, 1) := by decide +kernel
theorem dX10_drawn__7 : decode cX10_drawn_ 7 = .ok (.getfield 287, 3) := by decide +kernel
theorem dX10_drawn__10 : decode cX10_drawn_ 10 = .ok (.if_icmp .ge 12, 3) := by decide +kernel
theorem dX10_drawn__13 : decode cX10_drawn_ 13 = .ok (.iload_n 2, 1) := by decide +kernel
theorem dX10_drawn__14 : decode cX10_drawn_ 14 = .ok (.ifCond .lt 8, 3) := by decide +kernel
theorem dX10_drawn__17 : decode cX10_drawn_ 17 = .ok (.iload_n 2, 1) := by decide +kernel
theorem dX10_drawn__18 : decode cX10_drawn_ 18 = .ok (.iconst 5, 1) := by decide +kernel
theorem dX10_drawn__19 : decode cX10_drawn_ 19 = .ok (.if_icmp .le 7, 3) := by decide +kernel
theorem dX10_drawn__22 : decode cX10_drawn_ 22 = .ok (.iconst 1, 1) := by decide +kernel
theorem dX10_drawn__23 : decode cX10_drawn_ 23 = .ok (.goto 4, 3) := by decide +kernel
theorem dX10_drawn__26 : decode cX10_drawn_ 26 = .ok (.iconst 0, 1) := by decide +kernel
theorem dX10_drawn__27 : decode cX10_drawn_ 27 = .ok (.putfield 1, 3) := by decide +kernel
theorem dX10_drawn__30 : decode cX10_drawn_ 30 = .ok (.aload_n 0, 1) := by decide +kernel
theorem dX10_drawn__31 : decode cX10_drawn_ 31 = .ok (.getfield 1, 3) := by decide +kernel
theorem dX10_drawn__34 : decode cX10_drawn_ 34 = .ok (.iconst 1, 1) := by decide +kernel
theorem dX10_drawn__35 : decode cX10_drawn_ 35 = .ok (.if_icmp .ne 5, 3) := by decide +kernel
theorem dX10_drawn__38 : decode cX10_drawn_ 38 = .ok (.iconst 0, 1) := by decide +kernel
theorem dX10_drawn__39 : decode cX10_drawn_ 39 = .ok (.ireturn, 1) := by decide +kernel
theorem dX10_drawn__40 : decode cX10_drawn_ 40 = .ok (.iload_n 2, 1) := by decide +kernel
theorem dX10_drawn__41 : decode cX10_drawn_ 41 = .ok (.ifCond .ne 12, 3) := by decide +kernel
theorem dX10_drawn__44 : decode cX10_drawn_ 44 = .ok (.aload_n 0, 1) := by decide +kernel
theorem dX10_drawn__45 : decode cX10_drawn_ 45 = .ok (.getfield 61, 3) := by decide +kernel
theorem dX10_drawn__48 : decode cX10_drawn_ 48 = .ok (.iload_n 1, 1) := by decide +kernel
theorem dX10_drawn__49 : decode cX10_drawn_ 49 = .ok (.iaload, 1) := by decide +kernel
theorem dX10_drawn__50 : decode cX10_drawn_ 50 = .ok (.goto 65, 3) := by decide +kernel
theorem dX10_drawn__53 : decode cX10_drawn_ 53 = .ok (.iload_n 2, 1) := by decide +kernel
theorem dX10_drawn__54 : decode cX10_drawn_ 54 = .ok (.iconst 1, 1) := by decide +kernel
theorem dX10_drawn__55 : decode cX10_drawn_ 55 = .ok (.if_icmp .ne 12, 3) := by decide +kernel
theorem dX10_drawn__58 : decode cX10_drawn_ 58 = .ok (.aload_n 0, 1) := by decide +kernel
theorem dX10_drawn__59 : decode cX10_drawn_ 59 = .ok (.getfield 64, 3) := by decide +kernel
theorem dX10_drawn__62 : decode cX10_drawn_ 62 = .ok (.iload_n 1, 1) := by decide +kernel
theorem dX10_drawn__63 : decode cX10_drawn_ 63 = .ok (.iaload, 1) := by decide +kernel
theorem dX10_drawn__64 : decode cX10_drawn_ 64 = .ok (.goto 51, 3) := by decide +kernel
theorem dX10_drawn__67 : decode cX10_drawn_ 67 = .ok (.iload_n 2, 1) := by decide +kernel
theorem dX10_drawn__68 : decode cX10_drawn_ 68 = .ok (.iconst 2, 1) := by decide +kernel
theorem dX10_drawn__69 : decode cX10_drawn_ 69 = .ok (.if_icmp .ne 12, 3) := by decide +kernel
theorem dX10_drawn__72 : decode cX10_drawn_ 72 = .ok (.aload_n 0, 1) := by decide +kernel
theorem dX10_drawn__73 : decode cX10_drawn_ 73 = .ok (.getfield 67, 3) := by decide +kernel
theorem dX10_drawn__76 : decode cX10_drawn_ 76 = .ok (.iload_n 1, 1) := by decide +kernel
theorem dX10_drawn__77 : decode cX10_drawn_ 77 = .ok (.iaload, 1) := by decide +kernel
theorem dX10_drawn__78 : decode cX10_drawn_ 78 = .ok (.goto 37, 3) := by decide +kernel
theorem dX10_drawn__81 : decode cX10_drawn_ 81 = .ok (.iload_n 2, 1) := by decide +kernel
theorem dX10_drawn__82 : decode cX10_drawn_ 82 = .ok (.iconst 3, 1) := by decide +kernel
theorem dX10_drawn__83 : decode cX10_drawn_ 83 = .ok (.if_icmp .ne 12, 3) := by decide +kernel
theorem dX10_drawn__86 : decode cX10_drawn_ 86 = .ok (.aload_n 0, 1) := by decide +kernel
theorem dX10_drawn__87 : decode cX10_drawn_ 87 = .ok (.getfield 70, 3) := by decide +kernel
theorem dX10_drawn__90 : decode cX10_drawn_ 90 = .ok (.iload_n 1, 1) := by decide +kernel
theorem dX10_drawn__91 : decode cX10_drawn_ 91 = .ok (.iaload, 1) := by decide +kernel
theorem dX10_drawn__92 : decode cX10_drawn_ 92 = .ok (.goto 23, 3) := by decide +kernel
theorem dX10_drawn__95 : decode cX10_drawn_ 95 = .ok (.iload_n 2, 1) := by decide +kernel
theorem dX10_drawn__96 : decode cX10_drawn_ 96 = .ok (.iconst 4, 1) := by decide +kernel
theorem dX10_drawn__97 : decode cX10_drawn_ 97 = .ok (.if_icmp .ne 12, 3) := by decide +kernel
theorem dX10_drawn__100 : decode cX10_drawn_ 100 = .ok (.aload_n 0, 1) := by decide +kernel
theorem dX10_drawn__101 : decode cX10_drawn_ 101 = .ok (.getfield 73, 3) := by decide +kernel
theorem dX10_drawn__104 : decode cX10_drawn_ 104 = .ok (.iload_n 1, 1) := by decide +kernel
theorem dX10_drawn__105 : decode cX10_drawn_ 105 = .ok (.iaload, 1) := by decide +kernel
theorem dX10_drawn__106 : decode cX10_drawn_ 106 = .ok (.goto 9, 3) := by decide +kernel
theorem dX10_drawn__109 : decode cX10_drawn_ 109 = .ok (.aload_n 0, 1) := by decide +kernel
theorem dX10_drawn__110 : decode cX10_drawn_ 110 = .ok (.getfield 76, 3) := by decide +kernel
theorem dX10_drawn__113 : decode cX10_drawn_ 113 = .ok (.iload_n 1, 1) := by decide +kernel
theorem dX10_drawn__114 : decode cX10_drawn_ 114 = .ok (.iaload, 1) := by decide +kernel
theorem dX10_drawn__115 : decode cX10_drawn_ 115 = .ok (.ireturn, 1) := by decide +kernel
theorem dX10_fault_0 : decode cX10_fault 0 = .ok (.aload_n 0, 1) := by decide +kernel
theorem dX10_fault_1 : decode cX10_fault 1 = .ok (.iconst 0, 1) := by decide +kernel
theorem dX10_fault_2 : decode cX10_fault 2 = .ok (.putfield 1, 3) := by decide +kernel
theorem dX10_fault_5 : decode cX10_fault 5 = .ok (.aload_n 0, 1) := by decide +kernel
theorem dX10_fault_6 : decode cX10_fault 6 = .ok (.getfield 170, 3) := by decide +kernel
theorem dX10_fault_9 : decode cX10_fault 9 = .ok (.ireturn, 1) := by decide +kernel
theorem dX10_guestRule_0 : decode cX10_guestRule 0 = .ok (.aload_n 0, 1) := by decide +kernel
theorem dX10_guestRule_1 : decode cX10_guestRule 1 = .ok (.getfield 30, 3) := by decide +kernel
theorem dX10_guestRule_4 : decode cX10_guestRule 4 = .ok (.sipush 200, 3) := by decide +kernel
theorem dX10_guestRule_7 : decode cX10_guestRule 7 = .ok (.iload_n 1, 1) := by decide +kernel
theorem dX10_guestRule_8 : decode cX10_guestRule 8 = .ok (.imul, 1) := by decide +kernel
theorem dX10_guestRule_9 : decode cX10_guestRule 9 = .ok (.aload_n 0, 1) := by decide +kernel
theorem dX10_guestRule_10 : decode cX10_guestRule 10 = .ok (.getfield 213, 3) := by decide +kernel
theorem dX10_guestRule_13 : decode cX10_guestRule 13 = .ok (.iadd, 1) := by decide +kernel
theorem dX10_guestRule_14 : decode cX10_guestRule 14 = .ok (.iaload, 1) := by decide +kernel
theorem dX10_guestRule_15 : decode cX10_guestRule 15 = .ok (.istore_n 3, 1) := by decide +kernel
theorem dX10_guestRule_16 : decode cX10_guestRule 16 = .ok (.bipush 24, 2) := by decide +kernel
theorem dX10_guestRule_18 : decode cX10_guestRule 18 = .ok (.aload_n 0, 1) := by decide +kernel
theorem dX10_guestRule_19 : decode cX10_guestRule 19 = .ok (.getfield 201, 3) := by decide +kernel
theorem dX10_guestRule_22 : decode cX10_guestRule 22 = .ok (.imul, 1) := by decide +kernel
theorem dX10_guestRule_23 : decode cX10_guestRule 23 = .ok (.istore 4, 2) := by decide +kernel
theorem dX10_guestRule_25 : decode cX10_guestRule 25 = .ok (.iload 4, 2) := by decide +kernel
theorem dX10_guestRule_27 : decode cX10_guestRule 27 = .ok (.bipush 24, 2) := by decide +kernel
theorem dX10_guestRule_29 : decode cX10_guestRule 29 = .ok (.aload_n 0, 1) := by decide +kernel
theorem dX10_guestRule_30 : decode cX10_guestRule 30 = .ok (.getfield 201, 3) := by decide +kernel
theorem dX10_guestRule_33 : decode cX10_guestRule 33 = .ok (.imul, 1) := by decide +kernel
theorem dX10_guestRule_34 : decode cX10_guestRule 34 = .ok (.aload_n 0, 1) := by decide +kernel
theorem dX10_guestRule_35 : decode cX10_guestRule 35 = .ok (.getfield 210, 3) := by decide +kernel
theorem dX10_guestRule_38 : decode cX10_guestRule 38 = .ok (.iadd, 1) := by decide +kernel
theorem dX10_guestRule_39 : decode cX10_guestRule 39 = .ok (.if_icmp .ge 56, 3) := by decide +kernel
theorem dX10_guestRule_42 : decode cX10_guestRule 42 = .ok (.aload_n 0, 1) := by decide +kernel
theorem dX10_guestRule_43 : decode cX10_guestRule 43 = .ok (.getfield 37, 3) := by decide +kernel
theorem dX10_guestRule_46 : decode cX10_guestRule 46 = .ok (.iload 4, 2) := by decide +kernel
theorem dX10_guestRule_48 : decode cX10_guestRule 48 = .ok (.iaload, 1) := by decide +kernel
theorem dX10_guestRule_49 : decode cX10_guestRule 49 = .ok (.iconst 1, 1) := by decide +kernel
theorem dX10_guestRule_50 : decode cX10_guestRule 50 = .ok (.if_icmp .ne 39, 3) := by decide +kernel
theorem dX10_guestRule_53 : decode cX10_guestRule 53 = .ok (.aload_n 0, 1) := by decide +kernel
theorem dX10_guestRule_54 : decode cX10_guestRule 54 = .ok (.getfield 40, 3) := by decide +kernel
theorem dX10_guestRule_57 : decode cX10_guestRule 57 = .ok (.iload 4, 2) := by decide +kernel
theorem dX10_guestRule_59 : decode cX10_guestRule 59 = .ok (.iaload, 1) := by decide +kernel
theorem dX10_guestRule_60 : decode cX10_guestRule 60 = .ok (.iload_n 2, 1) := by decide +kernel
theorem dX10_guestRule_61 : decode cX10_guestRule 61 = .ok (.if_icmp .ne 28, 3) := by decide +kernel
theorem dX10_guestRule_64 : decode cX10_guestRule 64 = .ok (.aload_n 0, 1) := by decide +kernel
theorem dX10_guestRule_65 : decode cX10_guestRule 65 = .ok (.getfield 43, 3) := by decide +kernel
theorem dX10_guestRule_68 : decode cX10_guestRule 68 = .ok (.iload 4, 2) := by decide +kernel
theorem dX10_guestRule_70 : decode cX10_guestRule 70 = .ok (.iaload, 1) := by decide +kernel
theorem dX10_guestRule_71 : decode cX10_guestRule 71 = .ok (.iload_n 1, 1) := by decide +kernel
theorem dX10_guestRule_72 : decode cX10_guestRule 72 = .ok (.if_icmp .ne 17, 3) := by decide +kernel
theorem dX10_guestRule_75 : decode cX10_guestRule 75 = .ok (.aload_n 0, 1) := by decide +kernel
theorem dX10_guestRule_76 : decode cX10_guestRule 76 = .ok (.getfield 46, 3) := by decide +kernel
theorem dX10_guestRule_79 : decode cX10_guestRule 79 = .ok (.iload 4, 2) := by decide +kernel
theorem dX10_guestRule_81 : decode cX10_guestRule 81 = .ok (.iaload, 1) := by decide +kernel
theorem dX10_guestRule_82 : decode cX10_guestRule 82 = .ok (.iload_n 3, 1) := by decide +kernel
theorem dX10_guestRule_83 : decode cX10_guestRule 83 = .ok (.if_icmp .ne 6, 3) := by decide +kernel
theorem dX10_guestRule_86 : decode cX10_guestRule 86 = .ok (.iload 4, 2) := by decide +kernel
theorem dX10_guestRule_88 : decode cX10_guestRule 88 = .ok (.ireturn, 1) := by decide +kernel
theorem dX10_guestRule_89 : decode cX10_guestRule 89 = .ok (.iinc 4 1, 3) := by decide +kernel
theorem dX10_guestRule_92 : decode cX10_guestRule 92 = .ok (.goto (-67), 3) := by decide +kernel
theorem dX10_guestRule_95 : decode cX10_guestRule 95 = .ok (.iconst (-1), 1) := by decide +kernel
theorem dX10_guestRule_96 : decode cX10_guestRule 96 = .ok (.ireturn, 1) := by decide +kernel
theorem dX10_isClan_0 : decode cX10_isClan 0 = .ok (.iload_n 0, 1) := by decide +kernel
theorem dX10_isClan_1 : decode cX10_isClan 1 = .ok (.ifCond .lt 13, 3) := by decide +kernel
theorem dX10_isClan_4 : decode cX10_isClan 4 = .ok (.iload_n 0, 1) := by decide +kernel
theorem dX10_isClan_5 : decode cX10_isClan 5 = .ok (.bipush 6, 2) := by decide +kernel
theorem dX10_isClan_7 : decode cX10_isClan 7 = .ok (.if_icmp .ge 7, 3) := by decide +kernel
theorem dX10_isClan_10 : decode cX10_isClan 10 = .ok (.iconst 1, 1) := by decide +kernel
theorem dX10_isClan_11 : decode cX10_isClan 11 = .ok (.goto 4, 3) := by decide +kernel
theorem dX10_isClan_14 : decode cX10_isClan 14 = .ok (.iconst 0, 1) := by decide +kernel
theorem dX10_isClan_15 : decode cX10_isClan 15 = .ok (.ireturn, 1) := by decide +kernel
theorem dX10_isRight_0 : decode cX10_isRight 0 = .ok (.aload_n 3, 1) := by decide +kernel
theorem dX10_isRight_1 : decode cX10_isRight 1 = .ok (.iload 4, 2) := by decide +kernel
theorem dX10_isRight_3 : decode cX10_isRight 3 = .ok (.iload 5, 2) := by decide +kernel
theorem dX10_isRight_5 : decode cX10_isRight 5 = .ok (.iload_n 1, 1) := by decide +kernel
theorem dX10_isRight_6 : decode cX10_isRight 6 = .ok (.imul, 1) := by decide +kernel
theorem dX10_isRight_7 : decode cX10_isRight 7 = .ok (.iadd, 1) := by decide +kernel
theorem dX10_isRight_8 : decode cX10_isRight 8 = .ok (.iaload, 1) := by decide +kernel
theorem dX10_isRight_9 : decode cX10_isRight 9 = .ok (.istore 8, 2) := by decide +kernel
theorem dX10_isRight_11 : decode cX10_isRight 11 = .ok (.iload 8, 2) := by decide +kernel
theorem dX10_isRight_13 : decode cX10_isRight 13 = .ok (.iload_n 2, 1) := by decide +kernel
theorem dX10_isRight_14 : decode cX10_isRight 14 = .ok (.if_icmp .ne 5, 3) := by decide +kernel
theorem dX10_isRight_17 : decode cX10_isRight 17 = .ok (.iconst 1, 1) := by decide +kernel
theorem dX10_isRight_18 : decode cX10_isRight 18 = .ok (.ireturn, 1) := by decide +kernel
theorem dX10_isRight_19 : decode cX10_isRight 19 = .ok (.bipush 24, 2) := by decide +kernel
theorem dX10_isRight_21 : decode cX10_isRight 21 = .ok (.aload_n 0, 1) := by decide +kernel
theorem dX10_isRight_22 : decode cX10_isRight 22 = .ok (.getfield 201, 3) := by decide +kernel
theorem dX10_isRight_25 : decode cX10_isRight 25 = .ok (.imul, 1) := by decide +kernel
theorem dX10_isRight_26 : decode cX10_isRight 26 = .ok (.istore 9, 2) := by decide +kernel
theorem dX10_isRight_28 : decode cX10_isRight 28 = .ok (.iload 9, 2) := by decide +kernel
theorem dX10_isRight_30 : decode cX10_isRight 30 = .ok (.bipush 24, 2) := by decide +kernel
theorem dX10_isRight_32 : decode cX10_isRight 32 = .ok (.aload_n 0, 1) := by decide +kernel
theorem dX10_isRight_33 : decode cX10_isRight 33 = .ok (.getfield 201, 3) := by decide +kernel
theorem dX10_isRight_36 : decode cX10_isRight 36 = .ok (.imul, 1) := by decide +kernel
theorem dX10_isRight_37 : decode cX10_isRight 37 = .ok (.aload_n 0, 1) := by decide +kernel
theorem dX10_isRight_38 : decode cX10_isRight 38 = .ok (.getfield 210, 3) := by decide +kernel
theorem dX10_isRight_41 : decode cX10_isRight 41 = .ok (.iadd, 1) := by decide +kernel
theorem dX10_isRight_42 : decode cX10_isRight 42 = .ok (.if_icmp .ge 147, 3) := by decide +kernel
theorem dX10_isRight_45 : decode cX10_isRight 45 = .ok (.aload_n 0, 1) := by decide +kernel
theorem dX10_isRight_46 : decode cX10_isRight 46 = .ok (.getfield 37, 3) := by decide +kernel
theorem dX10_isRight_49 : decode cX10_isRight 49 = .ok (.iload 9, 2) := by decide +kernel
theorem dX10_isRight_51 : decode cX10_isRight 51 = .ok (.iaload, 1) := by decide +kernel
theorem dX10_isRight_52 : decode cX10_isRight 52 = .ok (.iconst 2, 1) := by decide +kernel
theorem dX10_isRight_53 : decode cX10_isRight 53 = .ok (.if_icmp .ne 56, 3) := by decide +kernel
theorem dX10_isRight_56 : decode cX10_isRight 56 = .ok (.iload 8, 2) := by decide +kernel
theorem dX10_isRight_58 : decode cX10_isRight 58 = .ok (.ifCond .lt 51, 3) := by decide +kernel
theorem dX10_isRight_61 : decode cX10_isRight 61 = .ok (.aload_n 0, 1) := by decide +kernel
theorem dX10_isRight_62 : decode cX10_isRight 62 = .ok (.getfield 40, 3) := by decide +kernel
theorem dX10_isRight_65 : decode cX10_isRight 65 = .ok (.iload 9, 2) := by decide +kernel
theorem dX10_isRight_67 : decode cX10_isRight 67 = .ok (.iaload, 1) := by decide +kernel
theorem dX10_isRight_68 : decode cX10_isRight 68 = .ok (.iload_n 2, 1) := by decide +kernel
theorem dX10_isRight_69 : decode cX10_isRight 69 = .ok (.if_icmp .ne 15, 3) := by decide +kernel
theorem dX10_isRight_72 : decode cX10_isRight 72 = .ok (.aload_n 0, 1) := by decide +kernel
theorem dX10_isRight_73 : decode cX10_isRight 73 = .ok (.getfield 43, 3) := by decide +kernel
theorem dX10_isRight_76 : decode cX10_isRight 76 = .ok (.iload 9, 2) := by decide +kernel
theorem dX10_isRight_78 : decode cX10_isRight 78 = .ok (.iaload, 1) := by decide +kernel
theorem dX10_isRight_79 : decode cX10_isRight 79 = .ok (.iload 8, 2) := by decide +kernel
theorem dX10_isRight_81 : decode cX10_isRight 81 = .ok (.if_icmp .eq 26, 3) := by decide +kernel
theorem dX10_isRight_84 : decode cX10_isRight 84 = .ok (.aload_n 0, 1) := by decide +kernel
theorem dX10_isRight_85 : decode cX10_isRight 85 = .ok (.getfield 43, 3) := by decide +kernel
theorem dX10_isRight_88 : decode cX10_isRight 88 = .ok (.iload 9, 2) := by decide +kernel
theorem dX10_isRight_90 : decode cX10_isRight 90 = .ok (.iaload, 1) := by decide +kernel
theorem dX10_isRight_91 : decode cX10_isRight 91 = .ok (.iload_n 2, 1) := by decide +kernel
theorem dX10_isRight_92 : decode cX10_isRight 92 = .ok (.if_icmp .ne 17, 3) := by decide +kernel
theorem dX10_isRight_95 : decode cX10_isRight 95 = .ok (.aload_n 0, 1) := by decide +kernel
theorem dX10_isRight_96 : decode cX10_isRight 96 = .ok (.getfield 40, 3) := by decide +kernel
theorem dX10_isRight_99 : decode cX10_isRight 99 = .ok (.iload 9, 2) := by decide +kernel
theorem dX10_isRight_101 : decode cX10_isRight 101 = .ok (.iaload, 1) := by decide +kernel
theorem dX10_isRight_102 : decode cX10_isRight 102 = .ok (.iload 8, 2) := by decide +kernel
theorem dX10_isRight_104 : decode cX10_isRight 104 = .ok (.if_icmp .ne 5, 3) := by decide +kernel
theorem dX10_isRight_107 : decode cX10_isRight 107 = .ok (.iconst 1, 1) := by decide +kernel
theorem dX10_isRight_108 : decode cX10_isRight 108 = .ok (.ireturn, 1) := by decide +kernel
theorem dX10_isRight_109 : decode cX10_isRight 109 = .ok (.aload_n 0, 1) := by decide +kernel
theorem dX10_isRight_110 : decode cX10_isRight 110 = .ok (.getfield 37, 3) := by decide +kernel
theorem dX10_isRight_113 : decode cX10_isRight 113 = .ok (.iload 9, 2) := by decide +kernel
theorem dX10_isRight_115 : decode cX10_isRight 115 = .ok (.iaload, 1) := by decide +kernel
theorem dX10_isRight_116 : decode cX10_isRight 116 = .ok (.iconst 4, 1) := by decide +kernel
theorem dX10_isRight_117 : decode cX10_isRight 117 = .ok (.if_icmp .ne 66, 3) := by decide +kernel
theorem dX10_isRight_120 : decode cX10_isRight 120 = .ok (.aload_n 0, 1) := by decide +kernel
theorem dX10_isRight_121 : decode cX10_isRight 121 = .ok (.getfield 43, 3) := by decide +kernel
theorem dX10_isRight_124 : decode cX10_isRight 124 = .ok (.iload 9, 2) := by decide +kernel
theorem dX10_isRight_126 : decode cX10_isRight 126 = .ok (.iaload, 1) := by decide +kernel
theorem dX10_isRight_127 : decode cX10_isRight 127 = .ok (.iload_n 1, 1) := by decide +kernel
theorem dX10_isRight_128 : decode cX10_isRight 128 = .ok (.if_icmp .ne 55, 3) := by decide +kernel
theorem dX10_isRight_131 : decode cX10_isRight 131 = .ok (.aload_n 0, 1) := by decide +kernel
theorem dX10_isRight_132 : decode cX10_isRight 132 = .ok (.getfield 13, 3) := by decide +kernel
theorem dX10_isRight_135 : decode cX10_isRight 135 = .ok (.aload_n 0, 1) := by decide +kernel
theorem dX10_isRight_136 : decode cX10_isRight 136 = .ok (.getfield 40, 3) := by decide +kernel
theorem dX10_isRight_139 : decode cX10_isRight 139 = .ok (.iload 9, 2) := by decide +kernel
theorem dX10_isRight_141 : decode cX10_isRight 141 = .ok (.iaload, 1) := by decide +kernel
theorem dX10_isRight_142 : decode cX10_isRight 142 = .ok (.baload, 1) := by decide +kernel
theorem dX10_isRight_143 : decode cX10_isRight 143 = .ok (.ifCond .eq 40, 3) := by decide +kernel
theorem dX10_isRight_146 : decode cX10_isRight 146 = .ok (.aload 6, 2) := by decide +kernel
theorem dX10_isRight_148 : decode cX10_isRight 148 = .ok (.iload 7, 2) := by decide +kernel
theorem dX10_isRight_150 : decode cX10_isRight 150 = .ok (.aload_n 0, 1) := by decide +kernel
theorem dX10_isRight_151 : decode cX10_isRight 151 = .ok (.getfield 40, 3) := by decide +kernel
theorem dX10_isRight_154 : decode cX10_isRight 154 = .ok (.iload 9, 2) := by decide +kernel
theorem dX10_isRight_156 : decode cX10_isRight 156 = .ok (.iaload, 1) := by decide +kernel
theorem dX10_isRight_157 : decode cX10_isRight 157 = .ok (.iadd, 1) := by decide +kernel
theorem dX10_isRight_158 : decode cX10_isRight 158 = .ok (.iaload, 1) := by decide +kernel
theorem dX10_isRight_159 : decode cX10_isRight 159 = .ok (.ifCond .ne 24, 3) := by decide +kernel
theorem dX10_isRight_162 : decode cX10_isRight 162 = .ok (.aload_n 3, 1) := by decide +kernel
theorem dX10_isRight_163 : decode cX10_isRight 163 = .ok (.iload 4, 2) := by decide +kernel
theorem dX10_isRight_165 : decode cX10_isRight 165 = .ok (.iload 5, 2) := by decide +kernel
theorem dX10_isRight_167 : decode cX10_isRight 167 = .ok (.aload_n 0, 1) := by decide +kernel
theorem dX10_isRight_168 : decode cX10_isRight 168 = .ok (.getfield 40, 3) := by decide +kernel
theorem dX10_isRight_171 : decode cX10_isRight 171 = .ok (.iload 9, 2) := by decide +kernel
theorem dX10_isRight_173 : decode cX10_isRight 173 = .ok (.iaload, 1) := by decide +kernel
theorem dX10_isRight_174 : decode cX10_isRight 174 = .ok (.imul, 1) := by decide +kernel
theorem dX10_isRight_175 : decode cX10_isRight 175 = .ok (.iadd, 1) := by decide +kernel
theorem dX10_isRight_176 : decode cX10_isRight 176 = .ok (.iaload, 1) := by decide +kernel
theorem dX10_isRight_177 : decode cX10_isRight 177 = .ok (.iload_n 2, 1) := by decide +kernel
theorem dX10_isRight_178 : decode cX10_isRight 178 = .ok (.if_icmp .ne 5, 3) := by decide +kernel
theorem dX10_isRight_181 : decode cX10_isRight 181 = .ok (.iconst 1, 1) := by decide +kernel
theorem dX10_isRight_182 : decode cX10_isRight 182 = .ok (.ireturn, 1) := by decide +kernel
theorem dX10_isRight_183 : decode cX10_isRight 183 = .ok (.iinc 9 1, 3) := by decide +kernel
theorem dX10_isRight_186 : decode cX10_isRight 186 = .ok (.goto (-158), 3) := by decide +kernel
theorem dX10_isRight_189 : decode cX10_isRight 189 = .ok (.iconst 0, 1) := by decide +kernel
theorem dX10_isRight_190 : decode cX10_isRight 190 = .ok (.ireturn, 1) := by decide +kernel
theorem dX10_isRightNow_0 : decode cX10_isRightNow 0 = .ok (.aload_n 0, 1) := by decide +kernel
theorem dX10_isRightNow_1 : decode cX10_isRightNow 1 = .ok (.iload_n 1, 1) := by decide +kernel
theorem dX10_isRightNow_2 : decode cX10_isRightNow 2 = .ok (.iload_n 2, 1) := by decide +kernel
theorem dX10_isRightNow_3 : decode cX10_isRightNow 3 = .ok (.aload_n 0, 1) := by decide +kernel
theorem dX10_isRightNow_4 : decode cX10_isRightNow 4 = .ok (.getfield 30, 3) := by decide +kernel
theorem dX10_isRightNow_7 : decode cX10_isRightNow 7 = .ok (.aload_n 0, 1) := by decide +kernel
theorem dX10_isRightNow_8 : decode cX10_isRightNow 8 = .ok (.getfield 213, 3) := by decide +kernel
theorem dX10_isRightNow_11 : decode cX10_isRightNow 11 = .ok (.sipush 200, 3) := by decide +kernel
theorem dX10_isRightNow_14 : decode cX10_isRightNow 14 = .ok (.aload_n 0, 1) := by decide +kernel
theorem dX10_isRightNow_15 : decode cX10_isRightNow 15 = .ok (.getfield 27, 3) := by decide +kernel
theorem dX10_isRightNow_18 : decode cX10_isRightNow 18 = .ok (.iconst 0, 1) := by decide +kernel
theorem dX10_isRightNow_19 : decode cX10_isRightNow 19 = .ok (.invokevirtual 274, 3) := by decide +kernel
theorem dX10_isRightNow_22 : decode cX10_isRightNow 22 = .ok (.ireturn, 1) := by decide +kernel
theorem dX10_lend_0 : decode cX10_lend 0 = .ok (.aload_n 0, 1) := by decide +kernel
theorem dX10_lend_1 : decode cX10_lend 1 = .ok (.iconst 0, 1) := by decide +kernel
theorem dX10_lend_2 : decode cX10_lend 2 = .ok (.putfield 1, 3) := by decide +kernel
theorem dX10_lend_5 : decode cX10_lend 5 = .ok (.iload_n 1, 1) := by decide +kernel
theorem dX10_lend_6 : decode cX10_lend 6 = .ok (.ifCond .lt 62, 3) := by decide +kernel
theorem dX10_lend_9 : decode cX10_lend 9 = .ok (.iload_n 1, 1) := by decide +kernel
theorem dX10_lend_10 : decode cX10_lend 10 = .ok (.bipush 6, 2) := by decide +kernel
theorem dX10_lend_12 : decode cX10_lend 12 = .ok (.if_icmp .ge 56, 3) := by decide +kernel
theorem dX10_lend_15 : decode cX10_lend 15 = .ok (.iload_n 3, 1) := by decide +kernel
theorem dX10_lend_16 : decode cX10_lend 16 = .ok (.invokestatic 278, 3) := by decide +kernel
theorem dX10_lend_19 : decode cX10_lend 19 = .ok (.ifCond .eq 49, 3) := by decide +kernel
theorem dX10_lend_22 : decode cX10_lend 22 = .ok (.iload_n 2, 1) := by decide +kernel
theorem dX10_lend_23 : decode cX10_lend 23 = .ok (.aload_n 0, 1) := by decide +kernel
theorem dX10_lend_24 : decode cX10_lend 24 = .ok (.getfield 213, 3) := by decide +kernel
theorem dX10_lend_27 : decode cX10_lend 27 = .ok (.if_icmp .le 41, 3) := by decide +kernel
theorem dX10_lend_30 : decode cX10_lend 30 = .ok (.iload_n 2, 1) := by decide +kernel
theorem dX10_lend_31 : decode cX10_lend 31 = .ok (.sipush 199, 3) := by decide +kernel
theorem dX10_lend_34 : decode cX10_lend 34 = .ok (.if_icmp .gt 34, 3) := by decide +kernel
theorem dX10_lend_37 : decode cX10_lend 37 = .ok (.aload_n 0, 1) := by decide +kernel
theorem dX10_lend_38 : decode cX10_lend 38 = .ok (.getfield 30, 3) := by decide +kernel
theorem dX10_lend_41 : decode cX10_lend 41 = .ok (.sipush 200, 3) := by decide +kernel
theorem dX10_lend_44 : decode cX10_lend 44 = .ok (.iload_n 1, 1) := by decide +kernel
theorem dX10_lend_45 : decode cX10_lend 45 = .ok (.imul, 1) := by decide +kernel
theorem dX10_lend_46 : decode cX10_lend 46 = .ok (.iload_n 2, 1) := by decide +kernel
theorem dX10_lend_47 : decode cX10_lend 47 = .ok (.iadd, 1) := by decide +kernel
theorem dX10_lend_48 : decode cX10_lend 48 = .ok (.iaload, 1) := by decide +kernel
theorem dX10_lend_49 : decode cX10_lend 49 = .ok (.ifCond .lt 19, 3) := by decide +kernel
theorem dX10_lend_52 : decode cX10_lend 52 = .ok (.aload_n 0, 1) := by decide +kernel
theorem dX10_lend_53 : decode cX10_lend 53 = .ok (.getfield 30, 3) := by decide +kernel
theorem dX10_lend_56 : decode cX10_lend 56 = .ok (.sipush 200, 3) := by decide +kernel
theorem dX10_lend_59 : decode cX10_lend 59 = .ok (.iload_n 1, 1) := by decide +kernel
theorem dX10_lend_60 : decode cX10_lend 60 = .ok (.imul, 1) := by decide +kernel
theorem dX10_lend_61 : decode cX10_lend 61 = .ok (.iload_n 2, 1) := by decide +kernel
theorem dX10_lend_62 : decode cX10_lend 62 = .ok (.iadd, 1) := by decide +kernel
theorem dX10_lend_63 : decode cX10_lend 63 = .ok (.iaload, 1) := by decide +kernel
theorem dX10_lend_64 : decode cX10_lend 64 = .ok (.iload_n 3, 1) := by decide +kernel
theorem dX10_lend_65 : decode cX10_lend 65 = .ok (.if_icmp .ne 5, 3) := by decide +kernel
theorem dX10_lend_68 : decode cX10_lend 68 = .ok (.iconst (-1), 1) := by decide +kernel
theorem dX10_lend_69 : decode cX10_lend 69 = .ok (.ireturn, 1) := by decide +kernel
theorem dX10_lend_70 : decode cX10_lend 70 = .ok (.iload_n 2, 1) := by decide +kernel
theorem dX10_lend_71 : decode cX10_lend 71 = .ok (.iconst 1, 1) := by decide +kernel
theorem dX10_lend_72 : decode cX10_lend 72 = .ok (.iadd, 1) := by decide +kernel
theorem dX10_lend_73 : decode cX10_lend 73 = .ok (.istore 4, 2) := by decide +kernel
theorem dX10_lend_75 : decode cX10_lend 75 = .ok (.iload 4, 2) := by decide +kernel
theorem dX10_lend_77 : decode cX10_lend 77 = .ok (.sipush 199, 3) := by decide +kernel
theorem dX10_lend_80 : decode cX10_lend 80 = .ok (.if_icmp .gt 26, 3) := by decide +kernel
theorem dX10_lend_83 : decode cX10_lend 83 = .ok (.aload_n 0, 1) := by decide +kernel
theorem dX10_lend_84 : decode cX10_lend 84 = .ok (.getfield 30, 3) := by decide +kernel
theorem dX10_lend_87 : decode cX10_lend 87 = .ok (.sipush 200, 3) := by decide +kernel
theorem dX10_lend_90 : decode cX10_lend 90 = .ok (.iload_n 1, 1) := by decide +kernel
theorem dX10_lend_91 : decode cX10_lend 91 = .ok (.imul, 1) := by decide +kernel
theorem dX10_lend_92 : decode cX10_lend 92 = .ok (.iload 4, 2) := by decide +kernel
theorem dX10_lend_94 : decode cX10_lend 94 = .ok (.iadd, 1) := by decide +kernel
theorem dX10_lend_95 : decode cX10_lend 95 = .ok (.iaload, 1) := by decide +kernel
theorem dX10_lend_96 : decode cX10_lend 96 = .ok (.iload_n 3, 1) := by decide +kernel
theorem dX10_lend_97 : decode cX10_lend 97 = .ok (.if_icmp .eq 9, 3) := by decide +kernel
theorem dX10_lend_100 : decode cX10_lend 100 = .ok (.iinc 4 1, 3) := by decide +kernel
theorem dX10_lend_103 : decode cX10_lend 103 = .ok (.goto (-28), 3) := by decide +kernel
theorem dX10_lend_106 : decode cX10_lend 106 = .ok (.iload 4, 2) := by decide +kernel
theorem dX10_lend_108 : decode cX10_lend 108 = .ok (.sipush 199, 3) := by decide +kernel
theorem dX10_lend_111 : decode cX10_lend 111 = .ok (.if_icmp .le 5, 3) := by decide +kernel
theorem dX10_lend_114 : decode cX10_lend 114 = .ok (.iconst (-1), 1) := by decide +kernel
theorem dX10_lend_115 : decode cX10_lend 115 = .ok (.ireturn, 1) := by decide +kernel
theorem dX10_lend_116 : decode cX10_lend 116 = .ok (.aload_n 0, 1) := by decide +kernel
theorem dX10_lend_117 : decode cX10_lend 117 = .ok (.getfield 30, 3) := by decide +kernel
theorem dX10_lend_120 : decode cX10_lend 120 = .ok (.sipush 200, 3) := by decide +kernel
theorem dX10_lend_123 : decode cX10_lend 123 = .ok (.iload_n 1, 1) := by decide +kernel
theorem dX10_lend_124 : decode cX10_lend 124 = .ok (.imul, 1) := by decide +kernel
theorem dX10_lend_125 : decode cX10_lend 125 = .ok (.iload 4, 2) := by decide +kernel
theorem dX10_lend_127 : decode cX10_lend 127 = .ok (.iadd, 1) := by decide +kernel
theorem dX10_lend_128 : decode cX10_lend 128 = .ok (.aload_n 0, 1) := by decide +kernel
theorem dX10_lend_129 : decode cX10_lend 129 = .ok (.getfield 30, 3) := by decide +kernel
theorem dX10_lend_132 : decode cX10_lend 132 = .ok (.sipush 200, 3) := by decide +kernel
theorem dX10_lend_135 : decode cX10_lend 135 = .ok (.iload_n 1, 1) := by decide +kernel
theorem dX10_lend_136 : decode cX10_lend 136 = .ok (.imul, 1) := by decide +kernel
theorem dX10_lend_137 : decode cX10_lend 137 = .ok (.iload_n 2, 1) := by decide +kernel
theorem dX10_lend_138 : decode cX10_lend 138 = .ok (.iadd, 1) := by decide +kernel
theorem dX10_lend_139 : decode cX10_lend 139 = .ok (.iaload, 1) := by decide +kernel
theorem dX10_lend_140 : decode cX10_lend 140 = .ok (.iastore, 1) := by decide +kernel
theorem dX10_lend_141 : decode cX10_lend 141 = .ok (.aload_n 0, 1) := by decide +kernel
theorem dX10_lend_142 : decode cX10_lend 142 = .ok (.getfield 30, 3) := by decide +kernel
theorem dX10_lend_145 : decode cX10_lend 145 = .ok (.sipush 200, 3) := by decide +kernel
theorem dX10_lend_148 : decode cX10_lend 148 = .ok (.iload_n 1, 1) := by decide +kernel
theorem dX10_lend_149 : decode cX10_lend 149 = .ok (.imul, 1) := by decide +kernel
theorem dX10_lend_150 : decode cX10_lend 150 = .ok (.iload_n 2, 1) := by decide +kernel
theorem dX10_lend_151 : decode cX10_lend 151 = .ok (.iadd, 1) := by decide +kernel
theorem dX10_lend_152 : decode cX10_lend 152 = .ok (.iload_n 3, 1) := by decide +kernel
theorem dX10_lend_153 : decode cX10_lend 153 = .ok (.iastore, 1) := by decide +kernel
theorem dX10_lend_154 : decode cX10_lend 154 = .ok (.iload 4, 2) := by decide +kernel
theorem dX10_lend_156 : decode cX10_lend 156 = .ok (.ireturn, 1) := by decide +kernel
theorem dX10_may_0 : decode cX10_may 0 = .ok (.aload_n 0, 1) := by decide +kernel
theorem dX10_may_1 : decode cX10_may 1 = .ok (.iconst 0, 1) := by decide +kernel
theorem dX10_may_2 : decode cX10_may 2 = .ok (.putfield 1, 3) := by decide +kernel
theorem dX10_may_5 : decode cX10_may 5 = .ok (.aload_n 0, 1) := by decide +kernel
theorem dX10_may_6 : decode cX10_may 6 = .ok (.iload_n 1, 1) := by decide +kernel
theorem dX10_may_7 : decode cX10_may 7 = .ok (.invokevirtual 271, 3) := by decide +kernel
theorem dX10_may_10 : decode cX10_may 10 = .ok (.ifCond .eq 10, 3) := by decide +kernel
theorem dX10_may_13 : decode cX10_may 13 = .ok (.iload_n 2, 1) := by decide +kernel
theorem dX10_may_14 : decode cX10_may 14 = .ok (.invokestatic 278, 3) := by decide +kernel
theorem dX10_may_17 : decode cX10_may 17 = .ok (.ifCond .ne 5, 3) := by decide +kernel
theorem dX10_may_20 : decode cX10_may 20 = .ok (.iconst (-1), 1) := by decide +kernel
theorem dX10_may_21 : decode cX10_may 21 = .ok (.ireturn, 1) := by decide +kernel
theorem dX10_may_22 : decode cX10_may 22 = .ok (.aload_n 0, 1) := by decide +kernel
theorem dX10_may_23 : decode cX10_may 23 = .ok (.iload_n 1, 1) := by decide +kernel
theorem dX10_may_24 : decode cX10_may 24 = .ok (.iload_n 2, 1) := by decide +kernel
theorem dX10_may_25 : decode cX10_may 25 = .ok (.invokevirtual 281, 3) := by decide +kernel
theorem dX10_may_28 : decode cX10_may 28 = .ok (.ifCond .eq 7, 3) := by decide +kernel
theorem dX10_may_31 : decode cX10_may 31 = .ok (.iconst 1, 1) := by decide +kernel
theorem dX10_may_32 : decode cX10_may 32 = .ok (.goto 17, 3) := by decide +kernel
theorem dX10_may_35 : decode cX10_may 35 = .ok (.aload_n 0, 1) := by decide +kernel
theorem dX10_may_36 : decode cX10_may 36 = .ok (.iload_n 1, 1) := by decide +kernel
theorem dX10_may_37 : decode cX10_may 37 = .ok (.iload_n 2, 1) := by decide +kernel
theorem dX10_may_38 : decode cX10_may 38 = .ok (.invokevirtual 284, 3) := by decide +kernel
theorem dX10_may_41 : decode cX10_may 41 = .ok (.ifCond .lt 7, 3) := by decide +kernel
theorem dX10_may_44 : decode cX10_may 44 = .ok (.iconst 2, 1) := by decide +kernel
theorem dX10_may_45 : decode cX10_may 45 = .ok (.goto 4, 3) := by decide +kernel
theorem dX10_may_48 : decode cX10_may 48 = .ok (.iconst 0, 1) := by decide +kernel
theorem dX10_may_49 : decode cX10_may 49 = .ok (.ireturn, 1) := by decide +kernel
theorem dX10_next_0 : decode cX10_next 0 = .ok (.aload_n 0, 1) := by decide +kernel
theorem dX10_next_1 : decode cX10_next 1 = .ok (.iconst 0, 1) := by decide +kernel
theorem dX10_next_2 : decode cX10_next 2 = .ok (.putfield 1, 3) := by decide +kernel
theorem dX10_next_5 : decode cX10_next 5 = .ok (.aload_n 0, 1) := by decide +kernel
theorem dX10_next_6 : decode cX10_next 6 = .ok (.getfield 213, 3) := by decide +kernel
theorem dX10_next_9 : decode cX10_next 9 = .ok (.sipush 199, 3) := by decide +kernel
theorem dX10_next_12 : decode cX10_next 12 = .ok (.if_icmp .ne 5, 3) := by decide +kernel
theorem dX10_next_15 : decode cX10_next 15 = .ok (.iconst 0, 1) := by decide +kernel
theorem dX10_next_16 : decode cX10_next 16 = .ok (.ireturn, 1) := by decide +kernel
theorem dX10_next_17 : decode cX10_next 17 = .ok (.aload_n 0, 1) := by decide +kernel
theorem dX10_next_18 : decode cX10_next 18 = .ok (.dup, 1) := by decide +kernel
theorem dX10_next_19 : decode cX10_next 19 = .ok (.getfield 213, 3) := by decide +kernel
theorem dX10_next_22 : decode cX10_next 22 = .ok (.iconst 1, 1) := by decide +kernel
theorem dX10_next_23 : decode cX10_next 23 = .ok (.iadd, 1) := by decide +kernel
theorem dX10_next_24 : decode cX10_next 24 = .ok (.putfield 213, 3) := by decide +kernel
theorem dX10_next_27 : decode cX10_next 27 = .ok (.iconst 0, 1) := by decide +kernel
theorem dX10_next_28 : decode cX10_next 28 = .ok (.istore_n 1, 1) := by decide +kernel
theorem dX10_next_29 : decode cX10_next 29 = .ok (.iload_n 1, 1) := by decide +kernel
theorem dX10_next_30 : decode cX10_next 30 = .ok (.bipush 6, 2) := by decide +kernel
theorem dX10_next_32 : decode cX10_next 32 = .ok (.if_icmp .ge 83, 3) := by decide +kernel
theorem dX10_next_35 : decode cX10_next 35 = .ok (.aload_n 0, 1) := by decide +kernel
theorem dX10_next_36 : decode cX10_next 36 = .ok (.getfield 13, 3) := by decide +kernel
theorem dX10_next_39 : decode cX10_next 39 = .ok (.iload_n 1, 1) := by decide +kernel
theorem dX10_next_40 : decode cX10_next 40 = .ok (.baload, 1) := by decide +kernel
theorem dX10_next_41 : decode cX10_next 41 = .ok (.ifCond .ne 6, 3) := by decide +kernel
theorem dX10_next_44 : decode cX10_next 44 = .ok (.goto 65, 3) := by decide +kernel
theorem dX10_next_47 : decode cX10_next 47 = .ok (.aload_n 0, 1) := by decide +kernel
theorem dX10_next_48 : decode cX10_next 48 = .ok (.getfield 24, 3) := by decide +kernel
theorem dX10_next_51 : decode cX10_next 51 = .ok (.iload_n 1, 1) := by decide +kernel
theorem dX10_next_52 : decode cX10_next 52 = .ok (.aload_n 0, 1) := by decide +kernel
theorem dX10_next_53 : decode cX10_next 53 = .ok (.getfield 24, 3) := by decide +kernel
theorem dX10_next_56 : decode cX10_next 56 = .ok (.iload_n 1, 1) := by decide +kernel
theorem dX10_next_57 : decode cX10_next 57 = .ok (.iaload, 1) := by decide +kernel
theorem dX10_next_58 : decode cX10_next 58 = .ok (.aload_n 0, 1) := by decide +kernel
theorem dX10_next_59 : decode cX10_next 59 = .ok (.getfield 21, 3) := by decide +kernel
theorem dX10_next_62 : decode cX10_next 62 = .ok (.iload_n 1, 1) := by decide +kernel
theorem dX10_next_63 : decode cX10_next 63 = .ok (.iaload, 1) := by decide +kernel
theorem dX10_next_64 : decode cX10_next 64 = .ok (.iadd, 1) := by decide +kernel
theorem dX10_next_65 : decode cX10_next 65 = .ok (.aload_n 0, 1) := by decide +kernel
theorem dX10_next_66 : decode cX10_next 66 = .ok (.getfield 17, 3) := by decide +kernel
theorem dX10_next_69 : decode cX10_next 69 = .ok (.iload_n 1, 1) := by decide +kernel
theorem dX10_next_70 : decode cX10_next 70 = .ok (.iaload, 1) := by decide +kernel
theorem dX10_next_71 : decode cX10_next 71 = .ok (.if_icmp .le 12, 3) := by decide +kernel
theorem dX10_next_74 : decode cX10_next 74 = .ok (.aload_n 0, 1) := by decide +kernel
theorem dX10_next_75 : decode cX10_next 75 = .ok (.getfield 17, 3) := by decide +kernel
theorem dX10_next_78 : decode cX10_next 78 = .ok (.iload_n 1, 1) := by decide +kernel
theorem dX10_next_79 : decode cX10_next 79 = .ok (.iaload, 1) := by decide +kernel
theorem dX10_next_80 : decode cX10_next 80 = .ok (.goto 16, 3) := by decide +kernel
theorem dX10_next_83 : decode cX10_next 83 = .ok (.aload_n 0, 1) := by decide +kernel
theorem dX10_next_84 : decode cX10_next 84 = .ok (.getfield 24, 3) := by decide +kernel
theorem dX10_next_87 : decode cX10_next 87 = .ok (.iload_n 1, 1) := by decide +kernel
theorem dX10_next_88 : decode cX10_next 88 = .ok (.iaload, 1) := by decide +kernel
theorem dX10_next_89 : decode cX10_next 89 = .ok (.aload_n 0, 1) := by decide +kernel
theorem dX10_next_90 : decode cX10_next 90 = .ok (.getfield 21, 3) := by decide +kernel
theorem dX10_next_93 : decode cX10_next 93 = .ok (.iload_n 1, 1) := by decide +kernel
theorem dX10_next_94 : decode cX10_next 94 = .ok (.iaload, 1) := by decide +kernel
theorem dX10_next_95 : decode cX10_next 95 = .ok (.iadd, 1) := by decide +kernel
theorem dX10_next_96 : decode cX10_next 96 = .ok (.iastore, 1) := by decide +kernel
theorem dX10_next_97 : decode cX10_next 97 = .ok (.aload_n 0, 1) := by decide +kernel
theorem dX10_next_98 : decode cX10_next 98 = .ok (.getfield 27, 3) := by decide +kernel
theorem dX10_next_101 : decode cX10_next 101 = .ok (.iload_n 1, 1) := by decide +kernel
theorem dX10_next_102 : decode cX10_next 102 = .ok (.aload_n 0, 1) := by decide +kernel
theorem dX10_next_103 : decode cX10_next 103 = .ok (.getfield 24, 3) := by decide +kernel
theorem dX10_next_106 : decode cX10_next 106 = .ok (.iload_n 1, 1) := by decide +kernel
theorem dX10_next_107 : decode cX10_next 107 = .ok (.iaload, 1) := by decide +kernel
theorem dX10_next_108 : decode cX10_next 108 = .ok (.iastore, 1) := by decide +kernel
theorem dX10_next_109 : decode cX10_next 109 = .ok (.iinc 1 1, 3) := by decide +kernel
theorem dX10_next_112 : decode cX10_next 112 = .ok (.goto (-83), 3) := by decide +kernel
theorem dX10_next_115 : decode cX10_next 115 = .ok (.aload_n 0, 1) := by decide +kernel
theorem dX10_next_116 : decode cX10_next 116 = .ok (.invokevirtual 220, 3) := by decide +kernel
theorem dX10_next_119 : decode cX10_next 119 = .ok (.iconst 1, 1) := by decide +kernel
theorem dX10_next_120 : decode cX10_next 120 = .ok (.ireturn, 1) := by decide +kernel
theorem dX10_owner_0 : decode cX10_owner 0 = .ok (.aload_n 0, 1) := by decide +kernel
theorem dX10_owner_1 : decode cX10_owner 1 = .ok (.iconst 0, 1) := by decide +kernel
theorem dX10_owner_2 : decode cX10_owner 2 = .ok (.putfield 1, 3) := by decide +kernel
theorem dX10_owner_5 : decode cX10_owner 5 = .ok (.iload_n 1, 1) := by decide +kernel
theorem dX10_owner_6 : decode cX10_owner 6 = .ok (.ifCond .lt 20, 3) := by decide +kernel
theorem dX10_owner_9 : decode cX10_owner 9 = .ok (.iload_n 1, 1) := by decide +kernel
theorem dX10_owner_10 : decode cX10_owner 10 = .ok (.bipush 6, 2) := by decide +kernel
theorem dX10_owner_12 : decode cX10_owner 12 = .ok (.if_icmp .ge 14, 3) := by decide +kernel
theorem dX10_owner_15 : decode cX10_owner 15 = .ok (.iload_n 2, 1) := by decide +kernel
theorem dX10_owner_16 : decode cX10_owner 16 = .ok (.ifCond .lt 10, 3) := by decide +kernel
theorem dX10_owner_19 : decode cX10_owner 19 = .ok (.iload_n 2, 1) := by decide +kernel
theorem dX10_owner_20 : decode cX10_owner 20 = .ok (.sipush 199, 3) := by decide +kernel
theorem dX10_owner_23 : decode cX10_owner 23 = .ok (.if_icmp .le 7, 3) := by decide +kernel
theorem dX10_owner_26 : decode cX10_owner 26 = .ok (.iconst (-1), 1) := by decide +kernel
theorem dX10_owner_27 : decode cX10_owner 27 = .ok (.goto 15, 3) := by decide +kernel
theorem dX10_owner_30 : decode cX10_owner 30 = .ok (.aload_n 0, 1) := by decide +kernel
theorem dX10_owner_31 : decode cX10_owner 31 = .ok (.getfield 30, 3) := by decide +kernel
theorem dX10_owner_34 : decode cX10_owner 34 = .ok (.sipush 200, 3) := by decide +kernel
theorem dX10_owner_37 : decode cX10_owner 37 = .ok (.iload_n 1, 1) := by decide +kernel
theorem dX10_owner_38 : decode cX10_owner 38 = .ok (.imul, 1) := by decide +kernel
theorem dX10_owner_39 : decode cX10_owner 39 = .ok (.iload_n 2, 1) := by decide +kernel
theorem dX10_owner_40 : decode cX10_owner 40 = .ok (.iadd, 1) := by decide +kernel
theorem dX10_owner_41 : decode cX10_owner 41 = .ok (.iaload, 1) := by decide +kernel
theorem dX10_owner_42 : decode cX10_owner 42 = .ok (.ireturn, 1) := by decide +kernel
theorem dX10_report_0 : decode cX10_report 0 = .ok (.aload_n 0, 1) := by decide +kernel
theorem dX10_report_1 : decode cX10_report 1 = .ok (.iconst 0, 1) := by decide +kernel
theorem dX10_report_2 : decode cX10_report 2 = .ok (.putfield 1, 3) := by decide +kernel
theorem dX10_report_5 : decode cX10_report 5 = .ok (.iload_n 1, 1) := by decide +kernel
theorem dX10_report_6 : decode cX10_report 6 = .ok (.ifCond .lt 20, 3) := by decide +kernel
theorem dX10_report_9 : decode cX10_report 9 = .ok (.iload_n 1, 1) := by decide +kernel
theorem dX10_report_10 : decode cX10_report 10 = .ok (.aload_n 0, 1) := by decide +kernel
theorem dX10_report_11 : decode cX10_report 11 = .ok (.getfield 287, 3) := by decide +kernel
theorem dX10_report_14 : decode cX10_report 14 = .ok (.if_icmp .ge 12, 3) := by decide +kernel
theorem dX10_report_17 : decode cX10_report 17 = .ok (.aload_n 0, 1) := by decide +kernel
theorem dX10_report_18 : decode cX10_report 18 = .ok (.getfield 76, 3) := by decide +kernel
theorem dX10_report_21 : decode cX10_report 21 = .ok (.iload_n 1, 1) := by decide +kernel
theorem dX10_report_22 : decode cX10_report 22 = .ok (.iaload, 1) := by decide +kernel
theorem dX10_report_23 : decode cX10_report 23 = .ok (.ifCond .lt 5, 3) := by decide +kernel
theorem dX10_report_26 : decode cX10_report 26 = .ok (.iconst 0, 1) := by decide +kernel
theorem dX10_report_27 : decode cX10_report 27 = .ok (.ireturn, 1) := by decide +kernel
theorem dX10_report_28 : decode cX10_report 28 = .ok (.aload_n 0, 1) := by decide +kernel
theorem dX10_report_29 : decode cX10_report 29 = .ok (.getfield 76, 3) := by decide +kernel
theorem dX10_report_32 : decode cX10_report 32 = .ok (.iload_n 1, 1) := by decide +kernel
theorem dX10_report_33 : decode cX10_report 33 = .ok (.aload_n 0, 1) := by decide +kernel
theorem dX10_report_34 : decode cX10_report 34 = .ok (.getfield 213, 3) := by decide +kernel
theorem dX10_report_37 : decode cX10_report 37 = .ok (.iastore, 1) := by decide +kernel
theorem dX10_report_38 : decode cX10_report 38 = .ok (.iconst 1, 1) := by decide +kernel
theorem dX10_report_39 : decode cX10_report 39 = .ok (.ireturn, 1) := by decide +kernel
theorem dX10_take_0 : decode cX10_take 0 = .ok (.aload_n 0, 1) := by decide +kernel
theorem dX10_take_1 : decode cX10_take 1 = .ok (.iconst 0, 1) := by decide +kernel
theorem dX10_take_2 : decode cX10_take 2 = .ok (.putfield 1, 3) := by decide +kernel
theorem dX10_take_5 : decode cX10_take 5 = .ok (.aload_n 0, 1) := by decide +kernel
theorem dX10_take_6 : decode cX10_take 6 = .ok (.iload_n 1, 1) := by decide +kernel
theorem dX10_take_7 : decode cX10_take 7 = .ok (.iload_n 2, 1) := by decide +kernel
theorem dX10_take_8 : decode cX10_take 8 = .ok (.iload_n 3, 1) := by decide +kernel
theorem dX10_take_9 : decode cX10_take 9 = .ok (.invokevirtual 290, 3) := by decide +kernel
theorem dX10_take_12 : decode cX10_take 12 = .ok (.ifCond .eq 5, 3) := by decide +kernel
theorem dX10_take_15 : decode cX10_take 15 = .ok (.iconst 1, 1) := by decide +kernel
theorem dX10_take_16 : decode cX10_take 16 = .ok (.ireturn, 1) := by decide +kernel
theorem dX10_take_17 : decode cX10_take 17 = .ok (.aload_n 0, 1) := by decide +kernel
theorem dX10_take_18 : decode cX10_take 18 = .ok (.iload_n 1, 1) := by decide +kernel
theorem dX10_take_19 : decode cX10_take 19 = .ok (.iload_n 2, 1) := by decide +kernel
theorem dX10_take_20 : decode cX10_take 20 = .ok (.invokevirtual 281, 3) := by decide +kernel
theorem dX10_take_23 : decode cX10_take 23 = .ok (.ifCond .eq 7, 3) := by decide +kernel
theorem dX10_take_26 : decode cX10_take 26 = .ok (.iconst 5, 1) := by decide +kernel
theorem dX10_take_27 : decode cX10_take 27 = .ok (.goto 11, 3) := by decide +kernel
theorem dX10_take_30 : decode cX10_take 30 = .ok (.aload_n 0, 1) := by decide +kernel
theorem dX10_take_31 : decode cX10_take 31 = .ok (.iload_n 1, 1) := by decide +kernel
theorem dX10_take_32 : decode cX10_take 32 = .ok (.iload_n 2, 1) := by decide +kernel
theorem dX10_take_33 : decode cX10_take 33 = .ok (.iload_n 3, 1) := by decide +kernel
theorem dX10_take_34 : decode cX10_take 34 = .ok (.iconst 0, 1) := by decide +kernel
theorem dX10_take_35 : decode cX10_take 35 = .ok (.invokevirtual 294, 3) := by decide +kernel
theorem dX10_take_38 : decode cX10_take 38 = .ok (.ireturn, 1) := by decide +kernel
theorem dX10_water_0 : decode cX10_water 0 = .ok (.aload_n 0, 1) := by decide +kernel
theorem dX10_water_1 : decode cX10_water 1 = .ok (.iconst 0, 1) := by decide +kernel
theorem dX10_water_2 : decode cX10_water 2 = .ok (.putfield 1, 3) := by decide +kernel
theorem dX10_water_5 : decode cX10_water 5 = .ok (.aload_n 0, 1) := by decide +kernel
theorem dX10_water_6 : decode cX10_water 6 = .ok (.iload_n 1, 1) := by decide +kernel
theorem dX10_water_7 : decode cX10_water 7 = .ok (.invokevirtual 271, 3) := by decide +kernel
theorem dX10_water_10 : decode cX10_water 10 = .ok (.ifCond .ne 5, 3) := by decide +kernel
theorem dX10_water_13 : decode cX10_water 13 = .ok (.iconst (-1), 1) := by decide +kernel
theorem dX10_water_14 : decode cX10_water 14 = .ok (.ireturn, 1) := by decide +kernel
theorem dX10_water_15 : decode cX10_water 15 = .ok (.iload_n 2, 1) := by decide +kernel
theorem dX10_water_16 : decode cX10_water 16 = .ok (.ifCond .ne 12, 3) := by decide +kernel
theorem dX10_water_19 : decode cX10_water 19 = .ok (.aload_n 0, 1) := by decide +kernel
theorem dX10_water_20 : decode cX10_water 20 = .ok (.getfield 24, 3) := by decide +kernel
theorem dX10_water_23 : decode cX10_water 23 = .ok (.iload_n 1, 1) := by decide +kernel
theorem dX10_water_24 : decode cX10_water 24 = .ok (.iaload, 1) := by decide +kernel
theorem dX10_water_25 : decode cX10_water 25 = .ok (.goto 46, 3) := by decide +kernel
theorem dX10_water_28 : decode cX10_water 28 = .ok (.iload_n 2, 1) := by decide +kernel
theorem dX10_water_29 : decode cX10_water 29 = .ok (.iconst 1, 1) := by decide +kernel
theorem dX10_water_30 : decode cX10_water 30 = .ok (.if_icmp .ne 12, 3) := by decide +kernel
theorem dX10_water_33 : decode cX10_water 33 = .ok (.aload_n 0, 1) := by decide +kernel
theorem dX10_water_34 : decode cX10_water 34 = .ok (.getfield 27, 3) := by decide +kernel
theorem dX10_water_37 : decode cX10_water 37 = .ok (.iload_n 1, 1) := by decide +kernel
theorem dX10_water_38 : decode cX10_water 38 = .ok (.iaload, 1) := by decide +kernel
theorem dX10_water_39 : decode cX10_water 39 = .ok (.goto 32, 3) := by decide +kernel
theorem dX10_water_42 : decode cX10_water 42 = .ok (.iload_n 2, 1) := by decide +kernel
theorem dX10_water_43 : decode cX10_water 43 = .ok (.iconst 2, 1) := by decide +kernel
theorem dX10_water_44 : decode cX10_water 44 = .ok (.if_icmp .ne 12, 3) := by decide +kernel
theorem dX10_water_47 : decode cX10_water 47 = .ok (.aload_n 0, 1) := by decide +kernel
theorem dX10_water_48 : decode cX10_water 48 = .ok (.getfield 17, 3) := by decide +kernel
theorem dX10_water_51 : decode cX10_water 51 = .ok (.iload_n 1, 1) := by decide +kernel
theorem dX10_water_52 : decode cX10_water 52 = .ok (.iaload, 1) := by decide +kernel
theorem dX10_water_53 : decode cX10_water 53 = .ok (.goto 18, 3) := by decide +kernel
theorem dX10_water_56 : decode cX10_water 56 = .ok (.iload_n 2, 1) := by decide +kernel
theorem dX10_water_57 : decode cX10_water 57 = .ok (.iconst 3, 1) := by decide +kernel
theorem dX10_water_58 : decode cX10_water 58 = .ok (.if_icmp .ne 12, 3) := by decide +kernel
theorem dX10_water_61 : decode cX10_water 61 = .ok (.aload_n 0, 1) := by decide +kernel
theorem dX10_water_62 : decode cX10_water 62 = .ok (.getfield 21, 3) := by decide +kernel
theorem dX10_water_65 : decode cX10_water 65 = .ok (.iload_n 1, 1) := by decide +kernel
theorem dX10_water_66 : decode cX10_water 66 = .ok (.iaload, 1) := by decide +kernel
theorem dX10_water_67 : decode cX10_water 67 = .ok (.goto 4, 3) := by decide +kernel
theorem dX10_water_70 : decode cX10_water 70 = .ok (.iconst (-1), 1) := by decide +kernel
theorem dX10_water_71 : decode cX10_water 71 = .ok (.ireturn, 1) := by decide +kernel
set_option maxHeartbeats 4000000 in
set_option maxRecDepth 100000 in
/-- WellCourtModel.next -/
theorem m_next (l : Launch) (G : va_G) (cy : Nat → ClassId) (sK sV : Nat → Nat) (ad : Nat → Nat → Nat) (sz : Nat) (st : gS) (hB : gBd bM st) : gsMi l yX10_next cX10_next 2 (some .boolean) ({ frames := 2, cells := 0, slots := 0, locals := 45 } : Room) G cy sK sV (shM cy ad) cnM ad sz [.ref (ad 0 0)] st (fun (r : Int32) (u : gS) => gBN bM kM [0, 7, 400, 500, 600] st u ∧ ((r = 1 ∧ ((st 0 0 7).toInt < 199) ∧ ((u 0 0 7).toInt = (st 0 0 7).toInt + 1)) ∨ (r = 0 ∧ ((st 0 0 7).toInt = 199) ∧ ((u 0 0 7).toInt = (st 0 0 7).toInt)))) := by
  refine gs_start (fun A => gsQi G (shM cy ad) cnM ad _ A) (by decide) (Nat.le_of_ble_eq_true rfl) ?_
  intro p e s m below meth c A ls H hx hb hr hml hlocks hown hts hK hov hE hI hM hm hS hA hl
  have hl : lv_has ls 2 [(0, .ref (ad 0 0))] := hl
  have hB_st : gBN bM kM [0, 7, 400, 500, 600] st st := gBN.rf hB
  generalize hQe : MQ below _ _ s _ _ A = Q
  refine lv_aload_n hx hb dX10_next_0 rfl (lv_at hl 0 rfl) ?_
  refine lv_iconst (v := 0) hx hb dX10_next_1 (by decide) ?_
  refine gs_put (C := RX10) (T := TX10) (N := 59) (ty := .int) (val := .int 0) hx hb hts inX10 tyX10 tyX10_ok nmX10 hown hK hI hm hM hS 0 0 0 (by decide) rfl rfl (by decide) (hts _ gm_897) (fun _ h9 => h9) rfl (0 : Int32) rfl (by decide +kernel) rfl rfl (Nat.le_of_ble_eq_true rfl) dX10_next_2 (fun st_1 H locs est_1 hM hS => ?_)
  have hB_st_1 : gBN bM kM [0, 7, 400, 500, 600] st st_1 := by rw [est_1]; exact hB_st.up (show (0 : Nat) ∈ _ from by decide) (gi_lo _) (gi_hi _)
  refine lv_aload_n hx hb dX10_next_5 rfl (lv_at hl 0 rfl) ?_
  refine gs_get (C := RX10) (T := TX10) (N := 59) hx hb hts inX10 hown hK hM 0 0 7 (by decide) rfl rfl (by decide) (hts _ gm_904) (fun _ h9 => h9) rfl dX10_next_6 ?_
  refine lv_topi (fun x_2 ex_2 => ?_)
  have ex_2 : (st 0 0 7) = x_2 := Eq.symm (ex_2.trans ((congrFun (congrFun (congrFun est_1 0) 0) 7).trans (gU_other (by decide))))
  subst ex_2
  have bf_3 : (0 : Int) ≤ (st 0 0 7).toInt ∧ (st 0 0 7).toInt ≤ (199 : Int) := hB_st.1 0 0 7
  refine lv_sipush (v := 199) hx hb dX10_next_9 (by decide) ?_
  refine lv_icmp_ne (tgt := 17) hx hb dX10_next_12 (by decide) (fun c_4 => ?_) (fun c_4 => ?_)
  · have ic_4 := gz_ne (rfl : (st 0 0 7).toInt = (st 0 0 7).toInt) (by decide : (199 : Int32).toInt = 199) c_4
    refine lv_aload_n hx hb dX10_next_17 rfl (lv_at hl 0 rfl) ?_
    refine lv_dup hx hb dX10_next_18 rfl ?_
    refine gs_get (C := RX10) (T := TX10) (N := 59) hx hb hts inX10 hown hK hM 0 0 7 (by decide) rfl rfl (by decide) (hts _ gm_904) (fun _ h9 => h9) rfl dX10_next_19 ?_
    refine lv_topi (fun x_5 ex_5 => ?_)
    have ex_5 : (st 0 0 7) = x_5 := Eq.symm (ex_5.trans ((congrFun (congrFun (congrFun est_1 0) 0) 7).trans (gU_other (by decide))))
    subst ex_5
    have bf_6 : (0 : Int) ≤ (st 0 0 7).toInt ∧ (st 0 0 7).toInt ≤ (199 : Int) := hB_st.1 0 0 7
    refine lv_iconst (v := 1) hx hb dX10_next_22 (by decide) ?_
    refine lv_iadd hx hb dX10_next_23 ?_
    refine lv_topi (fun x_7 ex_7 => ?_)
    try have tx_7 : x_7.toInt = (st 0 0 7).toInt + 1 := by rw [ex_7]; exact gz_addP (x := (st 0 0 7).toInt) (y := 1) rfl (by decide) (by omega) (by omega)
    refine gs_put (C := RX10) (T := TX10) (N := 59) (ty := .int) (val := .int x_7) hx hb hts inX10 tyX10 tyX10_ok nmX10 hown hK hI hm hM hS 0 0 7 (by decide) rfl rfl (by decide) (hts _ gm_904) (fun _ h9 => h9) rfl (x_7 : Int32) rfl (by decide +kernel) rfl rfl (Nat.le_of_ble_eq_true rfl) dX10_next_24 (fun st_8 H locs est_8 hM hS => ?_)
    have hB_st_8 : gBN bM kM [0, 7, 400, 500, 600] st st_8 := by rw [est_8]; exact hB_st_1.up (show (7 : Nat) ∈ _ from by decide) (show (0 : Int) ≤ x_7.toInt from by omega) (show x_7.toInt ≤ (199 : Int) from by omega)
    refine lv_iconst (v := 0) hx hb dX10_next_27 (by decide) ?_
    refine lv_istore_n (lv' := [(1, .int 0), (0, .ref (ad 0 0))]) hx hb dX10_next_28 rfl hl (by decide) rfl (fun ls hl => ?_)
    have lp9 : ∀ (n9 : Nat) (sv9 : gS) (y9_0 : Int32) (H : Heap) (locs : List Loc) (ls : Array Slot), (6 - y9_0.toInt).toNat < n9 → gBN bM kM [0, 7, 400, 500, 600] st sv9 → (0 ≤ y9_0.toInt) → ((sv9 0 0 7).toInt = (st 0 0 7).toInt + 1) → ((st 0 0 7).toInt < 199) → gM G (shM cy ad) cnM ad sv9 H → va_S A s.heap H locs → lv_has ls 2 [(1, .int y9_0), (0, .ref (ad 0 0))] → W p l e ({ frames := 2, cells := 0, slots := 0, locals := 45 } : Room) s m [.ref (ad 0 0)].toArray below meth c H locs 0 0 Q (F0 m 29 ls []) := by
      intro n9
      induction n9 with
      | zero => intro sv9 y9_0 H locs ls h9; exact absurd h9 (Nat.not_lt_zero _)
      | succ n9 ih_9 =>
        intro sv9 y9_0 H locs ls hme9 hB_sv9 hv9_0 hv9_1 hv9_2 hM hS hl
        have hb9_0 : (0 : Int) ≤ (sv9 0 0 7).toInt ∧ (sv9 0 0 7).toInt ≤ (199 : Int) := hB_sv9.1 0 0 7
        have hb9_1 : (0 : Int) ≤ (st 0 0 7).toInt ∧ (st 0 0 7).toInt ≤ (199 : Int) := hB_st.1 0 0 7
        refine lv_iload_n hx hb dX10_next_29 rfl (lv_at hl 0 rfl) ?_
        refine lv_bipush (v := 6) hx hb dX10_next_30 (by decide) ?_
        refine lv_icmp_ge (tgt := 115) hx hb dX10_next_32 (by decide) (fun c_10 => ?_) (fun c_10 => ?_)
        · have ic_10 := gz_le (by decide : (6 : Int32).toInt = 6) (rfl : y9_0.toInt = y9_0.toInt) c_10
          refine lv_aload_n hx hb dX10_next_115 rfl (lv_at hl 1 rfl) ?_
          refine gs_callv (va_runV (As := []) (rest := []) ⟨hx, hb, hml, hown, hts⟩ (m_droughts l G cy sK sV ad H.size sv9 hB_sv9.1  ) ⟨(gz_cb (n := 0) hts gm_1177 gm_12 gm_1180 ⟨by decide +kernel, by decide +kernel, by decide +kernel⟩ ⟨Nat.le_of_ble_eq_true rfl, Nat.le_of_ble_eq_true rfl⟩), hts _ gm_1179, hts _ gs_48⟩ (gs_preV hK hov hE hI hM hm hS hA 0 0 (by decide) rfl rfl) rfl rfl hl.1 rfl (lv_room (Nat.le_of_ble_eq_true rfl)) dX10_next_116 ⟨Nat.le_of_ble_eq_true rfl, Nat.le_of_ble_eq_true rfl⟩) hm hS hA (fun st_11 H locs hw_11 hM hS => ?_)
          obtain ⟨n_11, hw_11⟩ := hw_11
          have hB_st_11 : gBN bM kM [0, 7, 400, 500, 600] st st_11 := hB_sv9.call n_11 (by decide)
          refine lv_iconst (v := 1) hx hb dX10_next_119 (by decide) ?_
          rw [← hQe]
          exact gs_iret hx hb hr hlocks hM hS (by decide) ⟨hB_st_11, (Or.inl (⟨rfl, (by have hl0 : (1 : Int32).toInt = 1 := (by decide); have hb1 : (0 : Int) ≤ (st 0 0 7).toInt ∧ (st 0 0 7).toInt ≤ (199 : Int) := hB_st.1 0 0 7; omega), (by have hl0 : (1 : Int32).toInt = 1 := (by decide); have hq1 : (st_11 0 0 7).toInt = ((sv9 0 0 7) : Int32).toInt := congrArg Int32.toInt ((n_11.2 0 0 7 (show (7 : Nat) ∉ _ from by decide))); have hb2 : (0 : Int) ≤ (st_11 0 0 7).toInt ∧ (st_11 0 0 7).toInt ≤ (199 : Int) := hB_st_11.1 0 0 7; have hb3 : (0 : Int) ≤ (st 0 0 7).toInt ∧ (st 0 0 7).toInt ≤ (199 : Int) := hB_st.1 0 0 7; omega)⟩))⟩ (by exact Nat.le_refl _) (by exact Nat.le_refl _) dX10_next_120
        · have ic_10 := gz_nle (by decide : (6 : Int32).toInt = 6) (rfl : y9_0.toInt = y9_0.toInt) c_10
          refine lv_aload_n hx hb dX10_next_35 rfl (lv_at hl 1 rfl) ?_
          refine gs_get (C := RX10) (T := TX10) (N := 59) hx hb hts inX10 hown hK hM 0 0 1 (by decide) rfl rfl (by decide) (hts _ gm_898) (fun _ h9 => h9) rfl dX10_next_36 ?_
          refine lv_iload_n hx hb dX10_next_39 rfl (lv_at hl 0 rfl) ?_
          refine gs_zald hx hb hK hM 1 0 (by decide) rfl (vp_in_iff.mpr ⟨by omega, by omega⟩) dX10_next_40 ?_
          refine lv_topi (fun x_12 ex_12 => ?_)
          have qx_12 : x_12.toInt = (sv9 1 0 (y9_0.toNatClampNeg)).toInt := congrArg Int32.toInt ex_12
          have rx_12 : x_12.toInt = ((st 1 0 (y9_0.toNatClampNeg)) : Int32).toInt := by rw [ex_12]; exact congrArg Int32.toInt ((hB_sv9.2 1 0 (y9_0.toNatClampNeg) (show (100 : Nat) ∉ _ from by decide)))
          refine lv_if_ne (tgt := 47) hx hb dX10_next_41 (by decide) (fun c_13 => ?_) (fun c_13 => ?_)
          · have ic_13 := gz_ne (rfl : x_12.toInt = x_12.toInt) (by decide : (0 : Int32).toInt = 0) c_13
            refine lv_aload_n hx hb dX10_next_47 rfl (lv_at hl 1 rfl) ?_
            refine gs_get (C := RX10) (T := TX10) (N := 59) hx hb hts inX10 hown hK hM 0 0 4 (by decide) rfl rfl (by decide) (hts _ gm_901) (fun _ h9 => h9) rfl dX10_next_48 ?_
            refine lv_iload_n hx hb dX10_next_51 rfl (lv_at hl 0 rfl) ?_
            refine lv_aload_n hx hb dX10_next_52 rfl (lv_at hl 1 rfl) ?_
            refine gs_get (C := RX10) (T := TX10) (N := 59) hx hb hts inX10 hown hK hM 0 0 4 (by decide) rfl rfl (by decide) (hts _ gm_901) (fun _ h9 => h9) rfl dX10_next_53 ?_
            refine lv_iload_n hx hb dX10_next_56 rfl (lv_at hl 0 rfl) ?_
            refine gs_iald hx hb hK hM 4 0 (by decide) rfl (vp_in_iff.mpr ⟨by omega, by omega⟩) dX10_next_57 ?_
            refine lv_topi (fun x_14 ex_14 => ?_)
            have qx_14 : x_14.toInt = (sv9 4 0 (y9_0.toNatClampNeg)).toInt := congrArg Int32.toInt ex_14
            refine lv_aload_n hx hb dX10_next_58 rfl (lv_at hl 1 rfl) ?_
            refine gs_get (C := RX10) (T := TX10) (N := 59) hx hb hts inX10 hown hK hM 0 0 3 (by decide) rfl rfl (by decide) (hts _ gm_900) (fun _ h9 => h9) rfl dX10_next_59 ?_
            refine lv_iload_n hx hb dX10_next_62 rfl (lv_at hl 0 rfl) ?_
            refine gs_iald hx hb hK hM 3 0 (by decide) rfl (vp_in_iff.mpr ⟨by omega, by omega⟩) dX10_next_63 ?_
            refine lv_topi (fun x_15 ex_15 => ?_)
            have qx_15 : x_15.toInt = (sv9 3 0 (y9_0.toNatClampNeg)).toInt := congrArg Int32.toInt ex_15
            have rx_15 : x_15.toInt = ((st 3 0 (y9_0.toNatClampNeg)) : Int32).toInt := by rw [ex_15]; exact congrArg Int32.toInt ((hB_sv9.2 3 0 (y9_0.toNatClampNeg) (show (300 : Nat) ∉ _ from by decide)))
            refine lv_iadd hx hb dX10_next_64 ?_
            refine lv_topi (fun x_16 ex_16 => ?_)
            refine lv_aload_n hx hb dX10_next_65 rfl (lv_at hl 1 rfl) ?_
            refine gs_get (C := RX10) (T := TX10) (N := 59) hx hb hts inX10 hown hK hM 0 0 2 (by decide) rfl rfl (by decide) (hts _ gm_899) (fun _ h9 => h9) rfl dX10_next_66 ?_
            refine lv_iload_n hx hb dX10_next_69 rfl (lv_at hl 0 rfl) ?_
            refine gs_iald hx hb hK hM 2 0 (by decide) rfl (vp_in_iff.mpr ⟨by omega, by omega⟩) dX10_next_70 ?_
            refine lv_topi (fun x_17 ex_17 => ?_)
            have qx_17 : x_17.toInt = (sv9 2 0 (y9_0.toNatClampNeg)).toInt := congrArg Int32.toInt ex_17
            have rx_17 : x_17.toInt = ((st 2 0 (y9_0.toNatClampNeg)) : Int32).toInt := by rw [ex_17]; exact congrArg Int32.toInt ((hB_sv9.2 2 0 (y9_0.toNatClampNeg) (show (200 : Nat) ∉ _ from by decide)))
            refine lv_icmp_le (tgt := 83) hx hb dX10_next_71 (by decide) (fun c_18 => ?_) (fun c_18 => ?_)
            · have ic_18 := gz_le (rfl : x_16.toInt = x_16.toInt) (rfl : x_17.toInt = x_17.toInt) c_18
              refine lv_aload_n hx hb dX10_next_83 rfl (lv_at hl 1 rfl) ?_
              refine gs_get (C := RX10) (T := TX10) (N := 59) hx hb hts inX10 hown hK hM 0 0 4 (by decide) rfl rfl (by decide) (hts _ gm_901) (fun _ h9 => h9) rfl dX10_next_84 ?_
              refine lv_iload_n hx hb dX10_next_87 rfl (lv_at hl 0 rfl) ?_
              refine gs_iald hx hb hK hM 4 0 (by decide) rfl (vp_in_iff.mpr ⟨by omega, by omega⟩) dX10_next_88 ?_
              refine lv_topi (fun x_19 ex_19 => ?_)
              have qx_19 : x_19.toInt = (sv9 4 0 (y9_0.toNatClampNeg)).toInt := congrArg Int32.toInt ex_19
              refine lv_aload_n hx hb dX10_next_89 rfl (lv_at hl 1 rfl) ?_
              refine gs_get (C := RX10) (T := TX10) (N := 59) hx hb hts inX10 hown hK hM 0 0 3 (by decide) rfl rfl (by decide) (hts _ gm_900) (fun _ h9 => h9) rfl dX10_next_90 ?_
              refine lv_iload_n hx hb dX10_next_93 rfl (lv_at hl 0 rfl) ?_
              refine gs_iald hx hb hK hM 3 0 (by decide) rfl (vp_in_iff.mpr ⟨by omega, by omega⟩) dX10_next_94 ?_
              refine lv_topi (fun x_20 ex_20 => ?_)
              have qx_20 : x_20.toInt = (sv9 3 0 (y9_0.toNatClampNeg)).toInt := congrArg Int32.toInt ex_20
              have rx_20 : x_20.toInt = ((st 3 0 (y9_0.toNatClampNeg)) : Int32).toInt := by rw [ex_20]; exact congrArg Int32.toInt ((hB_sv9.2 3 0 (y9_0.toNatClampNeg) (show (300 : Nat) ∉ _ from by decide)))
              refine lv_iadd hx hb dX10_next_95 ?_
              refine lv_topi (fun x_21 ex_21 => ?_)
              refine gs_iast hx hb hK hI hm hM hS 4 0 (by decide) (fun _ => rfl) (vp_in_iff.mpr ⟨by omega, by omega⟩) dX10_next_96 (fun st_22 H locs est_22 hM hS => ?_)
              have hB_st_22 : gBN bM kM [0, 7, 400, 500, 600] st st_22 := by rw [est_22]; exact hB_sv9.up (show (400 : Nat) ∈ _ from by decide) (gi_lo _) (gi_hi _)
              refine lv_aload_n hx hb dX10_next_97 rfl (lv_at hl 1 rfl) ?_
              refine gs_get (C := RX10) (T := TX10) (N := 59) hx hb hts inX10 hown hK hM 0 0 5 (by decide) rfl rfl (by decide) (hts _ gm_902) (fun _ h9 => h9) rfl dX10_next_98 ?_
              refine lv_iload_n hx hb dX10_next_101 rfl (lv_at hl 0 rfl) ?_
              refine lv_aload_n hx hb dX10_next_102 rfl (lv_at hl 1 rfl) ?_
              refine gs_get (C := RX10) (T := TX10) (N := 59) hx hb hts inX10 hown hK hM 0 0 4 (by decide) rfl rfl (by decide) (hts _ gm_901) (fun _ h9 => h9) rfl dX10_next_103 ?_
              refine lv_iload_n hx hb dX10_next_106 rfl (lv_at hl 0 rfl) ?_
              refine gs_iald hx hb hK hM 4 0 (by decide) rfl (vp_in_iff.mpr ⟨by omega, by omega⟩) dX10_next_107 ?_
              refine lv_topi (fun x_23 ex_23 => ?_)
              have qx_23 : x_23.toInt = (st_22 4 0 (y9_0.toNatClampNeg)).toInt := congrArg Int32.toInt ex_23
              have rx_23 : x_23.toInt = (x_21 : Int32).toInt := by rw [ex_23]; exact congrArg Int32.toInt (((congrFun (congrFun (congrFun est_22 4) 0) (y9_0.toNatClampNeg)).trans (gU_same _ _ _ _ _)))
              refine gs_iast hx hb hK hI hm hM hS 5 0 (by decide) (fun _ => rfl) (vp_in_iff.mpr ⟨by omega, by omega⟩) dX10_next_108 (fun st_24 H locs est_24 hM hS => ?_)
              have hB_st_24 : gBN bM kM [0, 7, 400, 500, 600] st st_24 := by rw [est_24]; exact hB_st_22.up (show (500 : Nat) ∈ _ from by decide) (gi_lo _) (gi_hi _)
              obtain ⟨x_25, ex_25⟩ : ∃ y : Int32, y = y9_0 + 1 := ⟨_, rfl⟩
              try have tx_25 : x_25.toInt = y9_0.toInt + 1 := by rw [ex_25]; exact gz_addP (x := y9_0.toInt) (y := 1) rfl (by decide) (by omega) (by omega)
              refine lv_iinc (v := (x_25)) (lv' := [(1, .int x_25), (0, .ref (ad 0 0))]) hx hb dX10_next_109 hl (k := 0) rfl (by rw [ex_25]; rfl) (by decide) rfl (fun ls hl => ?_)
              refine lv_goto (tgt := 29) hx hb dX10_next_112 (by decide) ?_
              exact ih_9 st_24 (x_25 : Int32) H _ ls (by omega) hB_st_24 (by omega) (by have hq0 : (st_24 0 0 7).toInt = ((sv9 0 0 7) : Int32).toInt := congrArg Int32.toInt ((((congrFun (congrFun (congrFun est_24 0) 0) 7).trans (congrFun (congrFun (gU_k (by decide)) 0) 7)).trans ((congrFun (congrFun (congrFun est_22 0) 0) 7).trans (congrFun (congrFun (gU_k (by decide)) 0) 7)))); have hb1 : (0 : Int) ≤ (st_24 0 0 7).toInt ∧ (st_24 0 0 7).toInt ≤ (199 : Int) := hB_st_24.1 0 0 7; have hb2 : (0 : Int) ≤ (st 0 0 7).toInt ∧ (st 0 0 7).toInt ≤ (199 : Int) := hB_st.1 0 0 7; omega) (by have hb0 : (0 : Int) ≤ (st 0 0 7).toInt ∧ (st 0 0 7).toInt ≤ (199 : Int) := hB_st.1 0 0 7; omega) hM hS (lv_sub hl [0, 1] rfl)
            · have ic_18 := gz_nle (rfl : x_16.toInt = x_16.toInt) (rfl : x_17.toInt = x_17.toInt) c_18
              have lc_18 := gi_hi x_16
              refine lv_aload_n hx hb dX10_next_74 rfl (lv_at hl 1 rfl) ?_
              refine gs_get (C := RX10) (T := TX10) (N := 59) hx hb hts inX10 hown hK hM 0 0 2 (by decide) rfl rfl (by decide) (hts _ gm_899) (fun _ h9 => h9) rfl dX10_next_75 ?_
              refine lv_iload_n hx hb dX10_next_78 rfl (lv_at hl 0 rfl) ?_
              refine gs_iald hx hb hK hM 2 0 (by decide) rfl (vp_in_iff.mpr ⟨by omega, by omega⟩) dX10_next_79 ?_
              refine lv_topi (fun x_26 ex_26 => ?_)
              have qx_26 : x_26.toInt = (sv9 2 0 (y9_0.toNatClampNeg)).toInt := congrArg Int32.toInt ex_26
              have rx_26 : x_26.toInt = ((st 2 0 (y9_0.toNatClampNeg)) : Int32).toInt := by rw [ex_26]; exact congrArg Int32.toInt ((hB_sv9.2 2 0 (y9_0.toNatClampNeg) (show (200 : Nat) ∉ _ from by decide)))
              refine lv_goto (tgt := 96) hx hb dX10_next_80 (by decide) ?_
              refine gs_iast hx hb hK hI hm hM hS 4 0 (by decide) (fun _ => rfl) (vp_in_iff.mpr ⟨by omega, by omega⟩) dX10_next_96 (fun st_27 H locs est_27 hM hS => ?_)
              have hB_st_27 : gBN bM kM [0, 7, 400, 500, 600] st st_27 := by rw [est_27]; exact hB_sv9.up (show (400 : Nat) ∈ _ from by decide) (gi_lo _) (gi_hi _)
              refine lv_aload_n hx hb dX10_next_97 rfl (lv_at hl 1 rfl) ?_
              refine gs_get (C := RX10) (T := TX10) (N := 59) hx hb hts inX10 hown hK hM 0 0 5 (by decide) rfl rfl (by decide) (hts _ gm_902) (fun _ h9 => h9) rfl dX10_next_98 ?_
              refine lv_iload_n hx hb dX10_next_101 rfl (lv_at hl 0 rfl) ?_
              refine lv_aload_n hx hb dX10_next_102 rfl (lv_at hl 1 rfl) ?_
              refine gs_get (C := RX10) (T := TX10) (N := 59) hx hb hts inX10 hown hK hM 0 0 4 (by decide) rfl rfl (by decide) (hts _ gm_901) (fun _ h9 => h9) rfl dX10_next_103 ?_
              refine lv_iload_n hx hb dX10_next_106 rfl (lv_at hl 0 rfl) ?_
              refine gs_iald hx hb hK hM 4 0 (by decide) rfl (vp_in_iff.mpr ⟨by omega, by omega⟩) dX10_next_107 ?_
              refine lv_topi (fun x_28 ex_28 => ?_)
              have qx_28 : x_28.toInt = (st_27 4 0 (y9_0.toNatClampNeg)).toInt := congrArg Int32.toInt ex_28
              have rx_28 : x_28.toInt = (x_26 : Int32).toInt := by rw [ex_28]; exact congrArg Int32.toInt (((congrFun (congrFun (congrFun est_27 4) 0) (y9_0.toNatClampNeg)).trans (gU_same _ _ _ _ _)))
              refine gs_iast hx hb hK hI hm hM hS 5 0 (by decide) (fun _ => rfl) (vp_in_iff.mpr ⟨by omega, by omega⟩) dX10_next_108 (fun st_29 H locs est_29 hM hS => ?_)
              have hB_st_29 : gBN bM kM [0, 7, 400, 500, 600] st st_29 := by rw [est_29]; exact hB_st_27.up (show (500 : Nat) ∈ _ from by decide) (gi_lo _) (gi_hi _)
              obtain ⟨x_30, ex_30⟩ : ∃ y : Int32, y = y9_0 + 1 := ⟨_, rfl⟩
              try have tx_30 : x_30.toInt = y9_0.toInt + 1 := by rw [ex_30]; exact gz_addP (x := y9_0.toInt) (y := 1) rfl (by decide) (by omega) (by omega)
              refine lv_iinc (v := (x_30)) (lv' := [(1, .int x_30), (0, .ref (ad 0 0))]) hx hb dX10_next_109 hl (k := 0) rfl (by rw [ex_30]; rfl) (by decide) rfl (fun ls hl => ?_)
              refine lv_goto (tgt := 29) hx hb dX10_next_112 (by decide) ?_
              exact ih_9 st_29 (x_30 : Int32) H _ ls (by omega) hB_st_29 (by omega) (by have hq0 : (st_29 0 0 7).toInt = ((sv9 0 0 7) : Int32).toInt := congrArg Int32.toInt ((((congrFun (congrFun (congrFun est_29 0) 0) 7).trans (congrFun (congrFun (gU_k (by decide)) 0) 7)).trans ((congrFun (congrFun (congrFun est_27 0) 0) 7).trans (congrFun (congrFun (gU_k (by decide)) 0) 7)))); have hb1 : (0 : Int) ≤ (st_29 0 0 7).toInt ∧ (st_29 0 0 7).toInt ≤ (199 : Int) := hB_st_29.1 0 0 7; have hb2 : (0 : Int) ≤ (st 0 0 7).toInt ∧ (st 0 0 7).toInt ≤ (199 : Int) := hB_st.1 0 0 7; omega) (by have hb0 : (0 : Int) ≤ (st 0 0 7).toInt ∧ (st 0 0 7).toInt ≤ (199 : Int) := hB_st.1 0 0 7; omega) hM hS (lv_sub hl [0, 1] rfl)
          · have ic_13 := gz_eqn (rfl : x_12.toInt = x_12.toInt) (by decide : (0 : Int32).toInt = 0) c_13
            refine lv_goto (tgt := 109) hx hb dX10_next_44 (by decide) ?_
            obtain ⟨x_31, ex_31⟩ : ∃ y : Int32, y = y9_0 + 1 := ⟨_, rfl⟩
            try have tx_31 : x_31.toInt = y9_0.toInt + 1 := by rw [ex_31]; exact gz_addP (x := y9_0.toInt) (y := 1) rfl (by decide) (by omega) (by omega)
            refine lv_iinc (v := (x_31)) (lv' := [(1, .int x_31), (0, .ref (ad 0 0))]) hx hb dX10_next_109 hl (k := 0) rfl (by rw [ex_31]; rfl) (by decide) rfl (fun ls hl => ?_)
            refine lv_goto (tgt := 29) hx hb dX10_next_112 (by decide) ?_
            exact ih_9 sv9 (x_31 : Int32) H _ ls (by omega) hB_sv9 (by omega) (by have hb0 : (0 : Int) ≤ (sv9 0 0 7).toInt ∧ (sv9 0 0 7).toInt ≤ (199 : Int) := hB_sv9.1 0 0 7; have hb1 : (0 : Int) ≤ (st 0 0 7).toInt ∧ (st 0 0 7).toInt ≤ (199 : Int) := hB_st.1 0 0 7; omega) (by have hb0 : (0 : Int) ≤ (st 0 0 7).toInt ∧ (st 0 0 7).toInt ≤ (199 : Int) := hB_st.1 0 0 7; omega) hM hS (lv_sub hl [0, 1] rfl)
    exact lp9 ((6 - ((0 : Int32) : Int32).toInt).toNat + 1) st_8 ((0 : Int32) : Int32) H _ ls (Nat.lt_succ_self _) hB_st_8 (by have hl0 : (0 : Int32).toInt = 0 := (by decide); omega) (by have hl0 : (0 : Int32).toInt = 0 := (by decide); have hq1 : (st_8 0 0 7).toInt = (x_7 : Int32).toInt := congrArg Int32.toInt (((congrFun (congrFun (congrFun est_8 0) 0) 7).trans (gU_same _ _ _ _ _))); have hb2 : (0 : Int) ≤ (st_8 0 0 7).toInt ∧ (st_8 0 0 7).toInt ≤ (199 : Int) := hB_st_8.1 0 0 7; have hb3 : (0 : Int) ≤ (st 0 0 7).toInt ∧ (st 0 0 7).toInt ≤ (199 : Int) := hB_st.1 0 0 7; omega) (by have hl0 : (0 : Int32).toInt = 0 := (by decide); have hb1 : (0 : Int) ≤ (st 0 0 7).toInt ∧ (st 0 0 7).toInt ≤ (199 : Int) := hB_st.1 0 0 7; omega) hM hS (lv_sub hl [0, 1] rfl)
  · have ic_4 := gz_eqn (rfl : (st 0 0 7).toInt = (st 0 0 7).toInt) (by decide : (199 : Int32).toInt = 199) c_4
    refine lv_iconst (v := 0) hx hb dX10_next_15 (by decide) ?_
    rw [← hQe]
    exact gs_iret hx hb hr hlocks hM hS (by decide) ⟨hB_st_1, (Or.inr (⟨rfl, (by have hl0 : (0 : Int32).toInt = 0 := (by decide); have hb1 : (0 : Int) ≤ (st 0 0 7).toInt ∧ (st 0 0 7).toInt ≤ (199 : Int) := hB_st.1 0 0 7; omega), (by have hl0 : (0 : Int32).toInt = 0 := (by decide); have hq1 : (st_1 0 0 7).toInt = ((st 0 0 7) : Int32).toInt := congrArg Int32.toInt (((congrFun (congrFun (congrFun est_1 0) 0) 7).trans (gU_other (by decide)))); have hb2 : (0 : Int) ≤ (st_1 0 0 7).toInt ∧ (st_1 0 0 7).toInt ≤ (199 : Int) := hB_st_1.1 0 0 7; have hb3 : (0 : Int) ≤ (st 0 0 7).toInt ∧ (st 0 0 7).toInt ≤ (199 : Int) := hB_st.1 0 0 7; omega)⟩))⟩ (by exact Nat.le_refl _) (by exact Nat.le_refl _) dX10_next_16

set_option maxHeartbeats 4000000 in
set_option maxRecDepth 100000 in
/-- WellCourtModel.water -/
theorem m_water (l : Launch) (G : va_G) (cy : Nat → ClassId) (sK sV : Nat → Nat) (ad : Nat → Nat → Nat) (sz : Nat) (st : gS) (hB : gBd bM st) (x : Int32) (y : Int32) (Xx : Int) (Xy : Int) (kx : x.toInt = Xx) (ky : y.toInt = Xy) : gsMi l yX10_water cX10_water 3 (some .int) ({ frames := 1, cells := 0, slots := 0, locals := 21 } : Room) G cy sK sV (shM cy ad) cnM ad sz [.ref (ad 0 0), .int x, .int y] st (fun (r : Int32) (u : gS) => gBN bM kM [0] st u ∧ (True)) := by
  refine gs_start (fun A => gsQi G (shM cy ad) cnM ad _ A) (by decide) (Nat.le_of_ble_eq_true rfl) ?_
  intro p e s m below meth c A ls H hx hb hr hml hlocks hown hts hK hov hE hI hM hm hS hA hl
  have hl : lv_has ls 3 [(0, .ref (ad 0 0)), (1, .int x), (2, .int y)] := hl
  have hB_st : gBN bM kM [0] st st := gBN.rf hB
  refine lv_aload_n hx hb dX10_water_0 rfl (lv_at hl 0 rfl) ?_
  refine lv_iconst (v := 0) hx hb dX10_water_1 (by decide) ?_
  refine gs_put (C := RX10) (T := TX10) (N := 59) (ty := .int) (val := .int 0) hx hb hts inX10 tyX10 tyX10_ok nmX10 hown hK hI hm hM hS 0 0 0 (by decide) rfl rfl (by decide) (hts _ gm_897) (fun _ h9 => h9) rfl (0 : Int32) rfl (by decide +kernel) rfl rfl (Nat.le_of_ble_eq_true rfl) dX10_water_2 (fun st_1 H locs est_1 hM hS => ?_)
  have hB_st_1 : gBN bM kM [0] st st_1 := by rw [est_1]; exact hB_st.up (show (0 : Nat) ∈ _ from by decide) (gi_lo _) (gi_hi _)
  refine lv_aload_n hx hb dX10_water_5 rfl (lv_at hl 0 rfl) ?_
  refine lv_iload_n hx hb dX10_water_6 rfl (lv_at hl 1 rfl) ?_
  refine gs_calli (va_runV (As := [.int x]) (rest := []) ⟨hx, hb, hml, hown, hts⟩ (m_hasWell l G cy sK sV ad H.size st_1 hB_st_1.1 x x.toInt rfl ) ⟨(gz_cb (n := 1) hts gm_1197 gm_12 gm_1200 ⟨by decide +kernel, by decide +kernel, by decide +kernel⟩ ⟨Nat.le_of_ble_eq_true rfl, Nat.le_of_ble_eq_true rfl⟩), hts _ gm_1199, hts _ gs_50⟩ (gs_preV hK hov hE hI hM hm hS hA 0 0 (by decide) rfl rfl) rfl rfl hl.1 rfl (lv_room (Nat.le_of_ble_eq_true rfl)) dX10_water_7 ⟨Nat.le_of_ble_eq_true rfl, Nat.le_of_ble_eq_true rfl⟩) hm hS hA (fun r_2 st_2 H locs hw_2 hM hS => ?_)
  obtain ⟨n_2, hw_2⟩ := hw_2
  have n_2 := gBN.nil n_2
  subst n_2
  rcases hw_2 with ⟨rfl, hw_2_0, hw_2_1, hw_2_2⟩ | ⟨rfl, hw_2_0⟩
  · skip
    refine lv_if_ne (tgt := 15) hx hb dX10_water_10 (by decide) (fun _ => ?_) (fun h9 => absurd h9 (by decide))
    refine lv_iload_n hx hb dX10_water_15 rfl (lv_at hl 2 rfl) ?_
    refine lv_if_ne (tgt := 28) hx hb dX10_water_16 (by decide) (fun c_3 => ?_) (fun c_3 => ?_)
    · have ic_3 := gz_ne (rfl : y.toInt = y.toInt) (by decide : (0 : Int32).toInt = 0) c_3
      refine lv_iload_n hx hb dX10_water_28 rfl (lv_at hl 2 rfl) ?_
      refine lv_iconst (v := 1) hx hb dX10_water_29 (by decide) ?_
      refine lv_icmp_ne (tgt := 42) hx hb dX10_water_30 (by decide) (fun c_4 => ?_) (fun c_4 => ?_)
      · have ic_4 := gz_ne (rfl : y.toInt = y.toInt) (by decide : (1 : Int32).toInt = 1) c_4
        refine lv_iload_n hx hb dX10_water_42 rfl (lv_at hl 2 rfl) ?_
        refine lv_iconst (v := 2) hx hb dX10_water_43 (by decide) ?_
        refine lv_icmp_ne (tgt := 56) hx hb dX10_water_44 (by decide) (fun c_5 => ?_) (fun c_5 => ?_)
        · have ic_5 := gz_ne (rfl : y.toInt = y.toInt) (by decide : (2 : Int32).toInt = 2) c_5
          refine lv_iload_n hx hb dX10_water_56 rfl (lv_at hl 2 rfl) ?_
          refine lv_iconst (v := 3) hx hb dX10_water_57 (by decide) ?_
          refine lv_icmp_ne (tgt := 70) hx hb dX10_water_58 (by decide) (fun c_6 => ?_) (fun c_6 => ?_)
          · have ic_6 := gz_ne (rfl : y.toInt = y.toInt) (by decide : (3 : Int32).toInt = 3) c_6
            refine lv_iconst (v := (-1)) hx hb dX10_water_70 (by decide) ?_
            exact gs_iret hx hb hr hlocks hM hS rfl ⟨hB_st_1, trivial⟩ (by exact Nat.le_refl _) (by exact Nat.le_refl _) dX10_water_71
          · have ic_6 := gz_eqn (rfl : y.toInt = y.toInt) (by decide : (3 : Int32).toInt = 3) c_6
            refine lv_aload_n hx hb dX10_water_61 rfl (lv_at hl 0 rfl) ?_
            refine gs_get (C := RX10) (T := TX10) (N := 59) hx hb hts inX10 hown hK hM 0 0 3 (by decide) rfl rfl (by decide) (hts _ gm_900) (fun _ h9 => h9) rfl dX10_water_62 ?_
            refine lv_iload_n hx hb dX10_water_65 rfl (lv_at hl 1 rfl) ?_
            refine gs_iald hx hb hK hM 3 0 (by decide) rfl (vp_in_iff.mpr ⟨by omega, by omega⟩) dX10_water_66 ?_
            refine lv_topi (fun x_7 ex_7 => ?_)
            have qx_7 : x_7.toInt = (st_1 3 0 (x.toNatClampNeg)).toInt := congrArg Int32.toInt ex_7
            have rx_7 : x_7.toInt = ((st 3 0 (x.toNatClampNeg)) : Int32).toInt := by rw [ex_7]; exact congrArg Int32.toInt (((congrFun (congrFun (congrFun est_1 3) 0) (x.toNatClampNeg)).trans (congrFun (congrFun (gU_k (by decide)) 0) (x.toNatClampNeg))))
            refine lv_goto (tgt := 71) hx hb dX10_water_67 (by decide) ?_
            exact gs_iret hx hb hr hlocks hM hS rfl ⟨hB_st_1, trivial⟩ (by exact Nat.le_refl _) (by exact Nat.le_refl _) dX10_water_71
        · have ic_5 := gz_eqn (rfl : y.toInt = y.toInt) (by decide : (2 : Int32).toInt = 2) c_5
          refine lv_aload_n hx hb dX10_water_47 rfl (lv_at hl 0 rfl) ?_
          refine gs_get (C := RX10) (T := TX10) (N := 59) hx hb hts inX10 hown hK hM 0 0 2 (by decide) rfl rfl (by decide) (hts _ gm_899) (fun _ h9 => h9) rfl dX10_water_48 ?_
          refine lv_iload_n hx hb dX10_water_51 rfl (lv_at hl 1 rfl) ?_
          refine gs_iald hx hb hK hM 2 0 (by decide) rfl (vp_in_iff.mpr ⟨by omega, by omega⟩) dX10_water_52 ?_
          refine lv_topi (fun x_8 ex_8 => ?_)
          have qx_8 : x_8.toInt = (st_1 2 0 (x.toNatClampNeg)).toInt := congrArg Int32.toInt ex_8
          have rx_8 : x_8.toInt = ((st 2 0 (x.toNatClampNeg)) : Int32).toInt := by rw [ex_8]; exact congrArg Int32.toInt (((congrFun (congrFun (congrFun est_1 2) 0) (x.toNatClampNeg)).trans (congrFun (congrFun (gU_k (by decide)) 0) (x.toNatClampNeg))))
          refine lv_goto (tgt := 71) hx hb dX10_water_53 (by decide) ?_
          exact gs_iret hx hb hr hlocks hM hS rfl ⟨hB_st_1, trivial⟩ (by exact Nat.le_refl _) (by exact Nat.le_refl _) dX10_water_71
      · have ic_4 := gz_eqn (rfl : y.toInt = y.toInt) (by decide : (1 : Int32).toInt = 1) c_4
        refine lv_aload_n hx hb dX10_water_33 rfl (lv_at hl 0 rfl) ?_
        refine gs_get (C := RX10) (T := TX10) (N := 59) hx hb hts inX10 hown hK hM 0 0 5 (by decide) rfl rfl (by decide) (hts _ gm_902) (fun _ h9 => h9) rfl dX10_water_34 ?_
        refine lv_iload_n hx hb dX10_water_37 rfl (lv_at hl 1 rfl) ?_
        refine gs_iald hx hb hK hM 5 0 (by decide) rfl (vp_in_iff.mpr ⟨by omega, by omega⟩) dX10_water_38 ?_
        refine lv_topi (fun x_9 ex_9 => ?_)
        have qx_9 : x_9.toInt = (st_1 5 0 (x.toNatClampNeg)).toInt := congrArg Int32.toInt ex_9
        have rx_9 : x_9.toInt = ((st 5 0 (x.toNatClampNeg)) : Int32).toInt := by rw [ex_9]; exact congrArg Int32.toInt (((congrFun (congrFun (congrFun est_1 5) 0) (x.toNatClampNeg)).trans (congrFun (congrFun (gU_k (by decide)) 0) (x.toNatClampNeg))))
        refine lv_goto (tgt := 71) hx hb dX10_water_39 (by decide) ?_
        exact gs_iret hx hb hr hlocks hM hS rfl ⟨hB_st_1, trivial⟩ (by exact Nat.le_refl _) (by exact Nat.le_refl _) dX10_water_71
    · have ic_3 := gz_eqn (rfl : y.toInt = y.toInt) (by decide : (0 : Int32).toInt = 0) c_3
      refine lv_aload_n hx hb dX10_water_19 rfl (lv_at hl 0 rfl) ?_
      refine gs_get (C := RX10) (T := TX10) (N := 59) hx hb hts inX10 hown hK hM 0 0 4 (by decide) rfl rfl (by decide) (hts _ gm_901) (fun _ h9 => h9) rfl dX10_water_20 ?_
      refine lv_iload_n hx hb dX10_water_23 rfl (lv_at hl 1 rfl) ?_
      refine gs_iald hx hb hK hM 4 0 (by decide) rfl (vp_in_iff.mpr ⟨by omega, by omega⟩) dX10_water_24 ?_
      refine lv_topi (fun x_10 ex_10 => ?_)
      have qx_10 : x_10.toInt = (st_1 4 0 (x.toNatClampNeg)).toInt := congrArg Int32.toInt ex_10
      have rx_10 : x_10.toInt = ((st 4 0 (x.toNatClampNeg)) : Int32).toInt := by rw [ex_10]; exact congrArg Int32.toInt (((congrFun (congrFun (congrFun est_1 4) 0) (x.toNatClampNeg)).trans (congrFun (congrFun (gU_k (by decide)) 0) (x.toNatClampNeg))))
      refine lv_goto (tgt := 71) hx hb dX10_water_25 (by decide) ?_
      exact gs_iret hx hb hr hlocks hM hS rfl ⟨hB_st_1, trivial⟩ (by exact Nat.le_refl _) (by exact Nat.le_refl _) dX10_water_71
  · skip
    refine lv_if_ne (tgt := 15) hx hb dX10_water_10 (by decide) (fun h9 => absurd (by decide) h9) (fun _ => ?_)
    refine lv_iconst (v := (-1)) hx hb dX10_water_13 (by decide) ?_
    exact gs_iret hx hb hr hlocks hM hS rfl ⟨hB_st_1, trivial⟩ (by exact Nat.le_refl _) (by exact Nat.le_refl _) dX10_water_14

set_option maxHeartbeats 4000000 in
set_option maxRecDepth 100000 in
/-- WellCourtModel.owner -/
theorem m_owner (l : Launch) (G : va_G) (cy : Nat → ClassId) (sK sV : Nat → Nat) (ad : Nat → Nat → Nat) (sz : Nat) (st : gS) (hB : gBd bM st) (x : Int32) (y : Int32) (Xx : Int) (Xy : Int) (kx : x.toInt = Xx) (ky : y.toInt = Xy) : gsMi l yX10_owner cX10_owner 3 (some .int) ({ frames := 0, cells := 0, slots := 0, locals := 0 } : Room) G cy sK sV (shM cy ad) cnM ad sz [.ref (ad 0 0), .int x, .int y] st (fun (r : Int32) (u : gS) => gBN bM kM [0] st u ∧ (True)) := by
  refine gs_start (fun A => gsQi G (shM cy ad) cnM ad _ A) (by decide) (Nat.le_of_ble_eq_true rfl) ?_
  intro p e s m below meth c A ls H hx hb hr hml hlocks hown hts hK hov hE hI hM hm hS hA hl
  have hl : lv_has ls 3 [(0, .ref (ad 0 0)), (1, .int x), (2, .int y)] := hl
  have hB_st : gBN bM kM [0] st st := gBN.rf hB
  refine lv_aload_n hx hb dX10_owner_0 rfl (lv_at hl 0 rfl) ?_
  refine lv_iconst (v := 0) hx hb dX10_owner_1 (by decide) ?_
  refine gs_put (C := RX10) (T := TX10) (N := 59) (ty := .int) (val := .int 0) hx hb hts inX10 tyX10 tyX10_ok nmX10 hown hK hI hm hM hS 0 0 0 (by decide) rfl rfl (by decide) (hts _ gm_897) (fun _ h9 => h9) rfl (0 : Int32) rfl (by decide +kernel) rfl rfl (Nat.le_of_ble_eq_true rfl) dX10_owner_2 (fun st_1 H locs est_1 hM hS => ?_)
  have hB_st_1 : gBN bM kM [0] st st_1 := by rw [est_1]; exact hB_st.up (show (0 : Nat) ∈ _ from by decide) (gi_lo _) (gi_hi _)
  refine lv_iload_n hx hb dX10_owner_5 rfl (lv_at hl 1 rfl) ?_
  refine lv_if_lt (tgt := 26) hx hb dX10_owner_6 (by decide) (fun c_2 => ?_) (fun c_2 => ?_)
  · have ic_2 := gz_lt (rfl : x.toInt = x.toInt) (by decide : (0 : Int32).toInt = 0) c_2
    refine lv_iconst (v := (-1)) hx hb dX10_owner_26 (by decide) ?_
    refine lv_goto (tgt := 42) hx hb dX10_owner_27 (by decide) ?_
    exact gs_iret hx hb hr hlocks hM hS rfl ⟨hB_st_1, trivial⟩ (by exact Nat.le_refl _) (by exact Nat.le_refl _) dX10_owner_42
  · have ic_2 := gz_nlt (rfl : x.toInt = x.toInt) (by decide : (0 : Int32).toInt = 0) c_2
    refine lv_iload_n hx hb dX10_owner_9 rfl (lv_at hl 1 rfl) ?_
    refine lv_bipush (v := 6) hx hb dX10_owner_10 (by decide) ?_
    refine lv_icmp_ge (tgt := 26) hx hb dX10_owner_12 (by decide) (fun c_3 => ?_) (fun c_3 => ?_)
    · have ic_3 := gz_le (by decide : (6 : Int32).toInt = 6) (rfl : x.toInt = x.toInt) c_3
      refine lv_iconst (v := (-1)) hx hb dX10_owner_26 (by decide) ?_
      refine lv_goto (tgt := 42) hx hb dX10_owner_27 (by decide) ?_
      exact gs_iret hx hb hr hlocks hM hS rfl ⟨hB_st_1, trivial⟩ (by exact Nat.le_refl _) (by exact Nat.le_refl _) dX10_owner_42
    · have ic_3 := gz_nle (by decide : (6 : Int32).toInt = 6) (rfl : x.toInt = x.toInt) c_3
      refine lv_iload_n hx hb dX10_owner_15 rfl (lv_at hl 2 rfl) ?_
      refine lv_if_lt (tgt := 26) hx hb dX10_owner_16 (by decide) (fun c_4 => ?_) (fun c_4 => ?_)
      · have ic_4 := gz_lt (rfl : y.toInt = y.toInt) (by decide : (0 : Int32).toInt = 0) c_4
        refine lv_iconst (v := (-1)) hx hb dX10_owner_26 (by decide) ?_
        refine lv_goto (tgt := 42) hx hb dX10_owner_27 (by decide) ?_
        exact gs_iret hx hb hr hlocks hM hS rfl ⟨hB_st_1, trivial⟩ (by exact Nat.le_refl _) (by exact Nat.le_refl _) dX10_owner_42
      · have ic_4 := gz_nlt (rfl : y.toInt = y.toInt) (by decide : (0 : Int32).toInt = 0) c_4
        refine lv_iload_n hx hb dX10_owner_19 rfl (lv_at hl 2 rfl) ?_
        refine lv_sipush (v := 199) hx hb dX10_owner_20 (by decide) ?_
        refine lv_icmp_le (tgt := 30) hx hb dX10_owner_23 (by decide) (fun c_5 => ?_) (fun c_5 => ?_)
        · have ic_5 := gz_le (rfl : y.toInt = y.toInt) (by decide : (199 : Int32).toInt = 199) c_5
          refine lv_aload_n hx hb dX10_owner_30 rfl (lv_at hl 0 rfl) ?_
          refine gs_get (C := RX10) (T := TX10) (N := 59) hx hb hts inX10 hown hK hM 0 0 6 (by decide) rfl rfl (by decide) (hts _ gm_903) (fun _ h9 => h9) rfl dX10_owner_31 ?_
          refine lv_sipush (v := 200) hx hb dX10_owner_34 (by decide) ?_
          refine lv_iload_n hx hb dX10_owner_37 rfl (lv_at hl 1 rfl) ?_
          refine lv_imul hx hb dX10_owner_38 ?_
          refine lv_topi (fun x_6 ex_6 => ?_)
          try have tx_6 : x_6.toInt = 200 * x.toInt := by rw [ex_6]; exact gz_mulI (x := 200) (y := x.toInt) (by decide) rfl (by omega) (by omega)
          refine lv_iload_n hx hb dX10_owner_39 rfl (lv_at hl 2 rfl) ?_
          refine lv_iadd hx hb dX10_owner_40 ?_
          refine lv_topi (fun x_7 ex_7 => ?_)
          try have tx_7 : x_7.toInt = x_6.toInt + y.toInt := by rw [ex_7]; exact gz_addI (x := x_6.toInt) (y := y.toInt) rfl rfl (by omega) (by omega)
          refine gs_iald hx hb hK hM 6 0 (by decide) rfl (vp_in_iff.mpr ⟨by omega, by omega⟩) dX10_owner_41 ?_
          refine lv_topi (fun x_8 ex_8 => ?_)
          have qx_8 : x_8.toInt = (st_1 6 0 (x_7.toNatClampNeg)).toInt := congrArg Int32.toInt ex_8
          have rx_8 : x_8.toInt = ((st 6 0 (x_7.toNatClampNeg)) : Int32).toInt := by rw [ex_8]; exact congrArg Int32.toInt (((congrFun (congrFun (congrFun est_1 6) 0) (x_7.toNatClampNeg)).trans (congrFun (congrFun (gU_k (by decide)) 0) (x_7.toNatClampNeg))))
          exact gs_iret hx hb hr hlocks hM hS rfl ⟨hB_st_1, trivial⟩ (by exact Nat.le_refl _) (by exact Nat.le_refl _) dX10_owner_42
        · have ic_5 := gz_nle (rfl : y.toInt = y.toInt) (by decide : (199 : Int32).toInt = 199) c_5
          refine lv_iconst (v := (-1)) hx hb dX10_owner_26 (by decide) ?_
          refine lv_goto (tgt := 42) hx hb dX10_owner_27 (by decide) ?_
          exact gs_iret hx hb hr hlocks hM hS rfl ⟨hB_st_1, trivial⟩ (by exact Nat.le_refl _) (by exact Nat.le_refl _) dX10_owner_42

set_option maxHeartbeats 4000000 in
set_option maxRecDepth 100000 in
/-- WellCourtModel.isClan -/
theorem m_isClan (l : Launch) (G : va_G) (cy : Nat → ClassId) (sK sV : Nat → Nat) (ad : Nat → Nat → Nat) (sz : Nat) (st : gS) (hB : gBd bM st) (x : Int32) (Xx : Int) (kx : x.toInt = Xx) : gsMi l yX10_isClan cX10_isClan 1 (some .boolean) ({ frames := 0, cells := 0, slots := 0, locals := 0 } : Room) G cy sK sV (shM cy ad) cnM ad sz [.int x] st (fun (r : Int32) (u : gS) => gBN bM kM [] st u ∧ ((r = 1 ∧ (0 ≤ Xx) ∧ (Xx ≤ 5)) ∨ (r = 0 ∧ (Xx < 0 ∨ 5 < Xx)))) := by
  refine gs_start (fun A => gsQi G (shM cy ad) cnM ad _ A) (by decide) (Nat.le_of_ble_eq_true rfl) ?_
  intro p e s m below meth c A ls H hx hb hr hml hlocks hown hts hK hov hE hI hM hm hS hA hl
  have hl : lv_has ls 1 [(0, .int x)] := hl
  have hB_st : gBN bM kM [] st st := gBN.rf hB
  refine lv_iload_n hx hb dX10_isClan_0 rfl (lv_at hl 0 rfl) ?_
  refine lv_if_lt (tgt := 14) hx hb dX10_isClan_1 (by decide) (fun c_1 => ?_) (fun c_1 => ?_)
  · have ic_1 := gz_lt (rfl : x.toInt = x.toInt) (by decide : (0 : Int32).toInt = 0) c_1
    refine lv_iconst (v := 0) hx hb dX10_isClan_14 (by decide) ?_
    exact gs_iret hx hb hr hlocks hM hS (by decide) ⟨hB_st, (Or.inr (⟨rfl, (by have hl0 : (0 : Int32).toInt = 0 := (by decide); omega)⟩))⟩ (by exact Nat.le_refl _) (by exact Nat.le_refl _) dX10_isClan_15
  · have ic_1 := gz_nlt (rfl : x.toInt = x.toInt) (by decide : (0 : Int32).toInt = 0) c_1
    refine lv_iload_n hx hb dX10_isClan_4 rfl (lv_at hl 0 rfl) ?_
    refine lv_bipush (v := 6) hx hb dX10_isClan_5 (by decide) ?_
    refine lv_icmp_ge (tgt := 14) hx hb dX10_isClan_7 (by decide) (fun c_2 => ?_) (fun c_2 => ?_)
    · have ic_2 := gz_le (by decide : (6 : Int32).toInt = 6) (rfl : x.toInt = x.toInt) c_2
      refine lv_iconst (v := 0) hx hb dX10_isClan_14 (by decide) ?_
      exact gs_iret hx hb hr hlocks hM hS (by decide) ⟨hB_st, (Or.inr (⟨rfl, (by have hl0 : (0 : Int32).toInt = 0 := (by decide); omega)⟩))⟩ (by exact Nat.le_refl _) (by exact Nat.le_refl _) dX10_isClan_15
    · have ic_2 := gz_nle (by decide : (6 : Int32).toInt = 6) (rfl : x.toInt = x.toInt) c_2
      refine lv_iconst (v := 1) hx hb dX10_isClan_10 (by decide) ?_
      refine lv_goto (tgt := 15) hx hb dX10_isClan_11 (by decide) ?_
      exact gs_iret hx hb hr hlocks hM hS (by decide) ⟨hB_st, (Or.inl (⟨rfl, (by have hl0 : (1 : Int32).toInt = 1 := (by decide); omega), (by have hl0 : (1 : Int32).toInt = 1 := (by decide); omega)⟩))⟩ (by exact Nat.le_refl _) (by exact Nat.le_refl _) dX10_isClan_15

set_option maxHeartbeats 4000000 in
set_option maxRecDepth 100000 in
/-- WellCourtModel.fault -/
theorem m_fault (l : Launch) (G : va_G) (cy : Nat → ClassId) (sK sV : Nat → Nat) (ad : Nat → Nat → Nat) (sz : Nat) (st : gS) (hB : gBd bM st) : gsMi l yX10_fault cX10_fault 1 (some .int) ({ frames := 0, cells := 0, slots := 0, locals := 0 } : Room) G cy sK sV (shM cy ad) cnM ad sz [.ref (ad 0 0)] st (fun (r : Int32) (u : gS) => gBN bM kM [0] st u ∧ (True)) := by
  refine gs_start (fun A => gsQi G (shM cy ad) cnM ad _ A) (by decide) (Nat.le_of_ble_eq_true rfl) ?_
  intro p e s m below meth c A ls H hx hb hr hml hlocks hown hts hK hov hE hI hM hm hS hA hl
  have hl : lv_has ls 1 [(0, .ref (ad 0 0))] := hl
  have hB_st : gBN bM kM [0] st st := gBN.rf hB
  refine lv_aload_n hx hb dX10_fault_0 rfl (lv_at hl 0 rfl) ?_
  refine lv_iconst (v := 0) hx hb dX10_fault_1 (by decide) ?_
  refine gs_put (C := RX10) (T := TX10) (N := 59) (ty := .int) (val := .int 0) hx hb hts inX10 tyX10 tyX10_ok nmX10 hown hK hI hm hM hS 0 0 0 (by decide) rfl rfl (by decide) (hts _ gm_897) (fun _ h9 => h9) rfl (0 : Int32) rfl (by decide +kernel) rfl rfl (Nat.le_of_ble_eq_true rfl) dX10_fault_2 (fun st_1 H locs est_1 hM hS => ?_)
  have hB_st_1 : gBN bM kM [0] st st_1 := by rw [est_1]; exact hB_st.up (show (0 : Nat) ∈ _ from by decide) (gi_lo _) (gi_hi _)
  refine lv_aload_n hx hb dX10_fault_5 rfl (lv_at hl 0 rfl) ?_
  refine gs_get (C := RX10) (T := TX10) (N := 59) hx hb hts inX10 hown hK hM 0 0 15 (by decide) rfl rfl (by decide) (hts _ gm_912) (fun _ h9 => h9) rfl dX10_fault_6 ?_
  refine lv_topi (fun x_2 ex_2 => ?_)
  have ex_2 : (st 0 0 15) = x_2 := Eq.symm (ex_2.trans ((congrFun (congrFun (congrFun est_1 0) 0) 15).trans (gU_other (by decide))))
  subst ex_2
  exact gs_iret hx hb hr hlocks hM hS rfl ⟨hB_st_1, trivial⟩ (by exact Nat.le_refl _) (by exact Nat.le_refl _) dX10_fault_9

set_option maxHeartbeats 4000000 in
set_option maxRecDepth 100000 in
/-- WellCourtModel.isRight -/
theorem m_isRightA (l : Launch) (G : va_G) (cy : Nat → ClassId) (sK sV : Nat → Nat) (ad : Nat → Nat → Nat) (sz : Nat) (st : gS) (hB : gBd bM st) (x : Int32) (y : Int32) (f : Int32) (Xx : Int) (Xy : Int) (Xf : Int) (kx : x.toInt = Xx) (ky : y.toInt = Xy) (kf : f.toInt = Xf) (hx0 : 0 ≤ Xx) (hx1 : Xx < 6) (hf0 : 0 ≤ Xf) (hf1 : Xf ≤ 199) : gsMi l yX10_isRight cX10_isRight 10 (some .boolean) ({ frames := 0, cells := 0, slots := 0, locals := 0 } : Room) G cy sK sV (shM cy ad) cnM ad sz [.ref (ad 0 0), .int x, .int y, .ref (ad 6 0), .int f, .int 200, .ref (ad 5 0), .int 0] st (fun (r : Int32) (u : gS) => gBN bM kM [] st u ∧ ((r = 1) ∨ (r = 0))) := by
  refine gs_start (fun A => gsQi G (shM cy ad) cnM ad _ A) (by decide) (Nat.le_of_ble_eq_true rfl) ?_
  intro p e s m below meth c A ls H hx hb hr hml hlocks hown hts hK hov hE hI hM hm hS hA hl
  have hl : lv_has ls 10 [(0, .ref (ad 0 0)), (1, .int x), (2, .int y), (3, .ref (ad 6 0)), (4, .int f), (5, .int 200), (6, .ref (ad 5 0)), (7, .int 0)] := hl
  have hB_st : gBN bM kM [] st st := gBN.rf hB
  have bb1 : (0 : Int) ≤ (st 0 0 28).toInt ∧ (st 0 0 28).toInt ≤ (1 : Int) := hB 0 0 28
  have bb2 : (0 : Int) ≤ (st 0 0 29).toInt ∧ (st 0 0 29).toInt ≤ (20 : Int) := hB 0 0 29
  have bb3 : (0 : Int) ≤ (st 0 0 30).toInt ∧ (st 0 0 30).toInt ≤ (20 : Int) := hB 0 0 30
  generalize hQe : MQ below _ _ s _ _ A = Q
  refine lv_aload_n hx hb dX10_isRight_0 rfl (lv_at hl 3 rfl) ?_
  refine lv_iload hx hb dX10_isRight_1 (lv_at hl 4 rfl) ?_
  refine lv_iload hx hb dX10_isRight_3 (lv_at hl 5 rfl) ?_
  refine lv_iload_n hx hb dX10_isRight_5 rfl (lv_at hl 1 rfl) ?_
  refine lv_imul hx hb dX10_isRight_6 ?_
  refine lv_topi (fun x_1 ex_1 => ?_)
  try have tx_1 : x_1.toInt = 200 * x.toInt := by rw [ex_1]; exact gz_mulI (x := 200) (y := x.toInt) (by decide) rfl (by omega) (by omega)
  refine lv_iadd hx hb dX10_isRight_7 ?_
  refine lv_topi (fun x_2 ex_2 => ?_)
  try have tx_2 : x_2.toInt = f.toInt + x_1.toInt := by rw [ex_2]; exact gz_addI (x := f.toInt) (y := x_1.toInt) rfl rfl (by omega) (by omega)
  refine gs_iald hx hb hK hM 6 0 (by decide) rfl (vp_in_iff.mpr ⟨by omega, by omega⟩) dX10_isRight_8 ?_
  refine lv_topi (fun x_3 ex_3 => ?_)
  have qx_3 : x_3.toInt = (st 6 0 (x_2.toNatClampNeg)).toInt := congrArg Int32.toInt ex_3
  refine lv_istore (lv' := [(8, .int x_3), (0, .ref (ad 0 0)), (1, .int x), (2, .int y), (3, .ref (ad 6 0)), (4, .int f), (5, .int 200), (6, .ref (ad 5 0)), (7, .int 0)]) hx hb dX10_isRight_9 hl (by decide) rfl (fun ls hl => ?_)
  refine lv_iload hx hb dX10_isRight_11 (lv_at hl 0 rfl) ?_
  refine lv_iload_n hx hb dX10_isRight_13 rfl (lv_at hl 3 rfl) ?_
  refine lv_icmp_ne (tgt := 19) hx hb dX10_isRight_14 (by decide) (fun c_4 => ?_) (fun c_4 => ?_)
  · have ic_4 := gz_ne (rfl : x_3.toInt = x_3.toInt) (rfl : y.toInt = y.toInt) c_4
    refine lv_bipush (v := 24) hx hb dX10_isRight_19 (by decide) ?_
    refine lv_aload_n hx hb dX10_isRight_21 rfl (lv_at hl 1 rfl) ?_
    refine gs_get (C := RX10) (T := TX10) (N := 59) hx hb hts inX10 hown hK hM 0 0 28 (by decide) rfl rfl (by decide) (hts _ gm_925) (fun _ h9 => h9) rfl dX10_isRight_22 ?_
    have bf_5 : (0 : Int) ≤ (st 0 0 28).toInt ∧ (st 0 0 28).toInt ≤ (1 : Int) := hB_st.1 0 0 28
    refine lv_imul hx hb dX10_isRight_25 ?_
    refine lv_topi (fun x_6 ex_6 => ?_)
    try have tx_6 : x_6.toInt = 24 * (st 0 0 28).toInt := by rw [ex_6]; exact gz_mulI (x := 24) (y := (st 0 0 28).toInt) (by decide) rfl (by omega) (by omega)
    refine lv_istore (lv' := [(9, .int x_6), (8, .int x_3), (0, .ref (ad 0 0)), (1, .int x), (2, .int y), (3, .ref (ad 6 0)), (4, .int f), (5, .int 200), (6, .ref (ad 5 0)), (7, .int 0)]) hx hb dX10_isRight_26 hl (by decide) rfl (fun ls hl => ?_)
    have lp7 : ∀ (n7 : Nat)  (y7_0 : Int32) (H : Heap) (locs : List Loc) (ls : Array Slot), (48 - y7_0.toInt).toNat < n7 →  (24 * (st 0 0 28).toInt ≤ y7_0.toInt) → gM G (shM cy ad) cnM ad st H → va_S A s.heap H locs → lv_has ls 10 [(9, .int y7_0), (8, .int x_3), (0, .ref (ad 0 0)), (1, .int x), (2, .int y), (3, .ref (ad 6 0)), (4, .int f), (5, .int 200), (6, .ref (ad 5 0)), (7, .int 0)] → W p l e ({ frames := 0, cells := 0, slots := 0, locals := 0 } : Room) s m [.ref (ad 0 0), .int x, .int y, .ref (ad 6 0), .int f, .int 200, .ref (ad 5 0), .int 0].toArray below meth c H locs 0 0 Q (F0 m 28 ls []) := by
      intro n7
      induction n7 with
      | zero => intro  y7_0 H locs ls h9; exact absurd h9 (Nat.not_lt_zero _)
      | succ n7 ih_7 =>
        intro  y7_0 H locs ls hme7  hv7_0 hM hS hl
        have hb7_0 : (0 : Int) ≤ (st 0 0 28).toInt ∧ (st 0 0 28).toInt ≤ (1 : Int) := hB_st.1 0 0 28
        refine lv_iload hx hb dX10_isRight_28 (lv_at hl 0 rfl) ?_
        refine lv_bipush (v := 24) hx hb dX10_isRight_30 (by decide) ?_
        refine lv_aload_n hx hb dX10_isRight_32 rfl (lv_at hl 2 rfl) ?_
        refine gs_get (C := RX10) (T := TX10) (N := 59) hx hb hts inX10 hown hK hM 0 0 28 (by decide) rfl rfl (by decide) (hts _ gm_925) (fun _ h9 => h9) rfl dX10_isRight_33 ?_
        have bf_8 : (0 : Int) ≤ (st 0 0 28).toInt ∧ (st 0 0 28).toInt ≤ (1 : Int) := hB_st.1 0 0 28
        refine lv_imul hx hb dX10_isRight_36 ?_
        refine lv_topi (fun x_9 ex_9 => ?_)
        try have tx_9 : x_9.toInt = 24 * (st 0 0 28).toInt := by rw [ex_9]; exact gz_mulI (x := 24) (y := (st 0 0 28).toInt) (by decide) rfl (by omega) (by omega)
        refine lv_aload_n hx hb dX10_isRight_37 rfl (lv_at hl 2 rfl) ?_
        refine gs_get (C := RX10) (T := TX10) (N := 59) hx hb hts inX10 hown hK hM 0 0 29 (by decide) rfl rfl (by decide) (hts _ gm_926) (fun _ h9 => h9) rfl dX10_isRight_38 ?_
        have bf_10 : (0 : Int) ≤ (st 0 0 29).toInt ∧ (st 0 0 29).toInt ≤ (20 : Int) := hB_st.1 0 0 29
        refine lv_iadd hx hb dX10_isRight_41 ?_
        refine lv_topi (fun x_11 ex_11 => ?_)
        try have tx_11 : x_11.toInt = x_9.toInt + (st 0 0 29).toInt := by rw [ex_11]; exact gz_addI (x := x_9.toInt) (y := (st 0 0 29).toInt) rfl rfl (by omega) (by omega)
        refine lv_icmp_ge (tgt := 189) hx hb dX10_isRight_42 (by decide) (fun c_12 => ?_) (fun c_12 => ?_)
        · have ic_12 := gz_le (rfl : x_11.toInt = x_11.toInt) (rfl : y7_0.toInt = y7_0.toInt) c_12
          refine lv_iconst (v := 0) hx hb dX10_isRight_189 (by decide) ?_
          rw [← hQe]
          exact gs_iret hx hb hr hlocks hM hS (by decide) ⟨hB_st, (Or.inr (rfl))⟩ (by exact Nat.le_refl _) (by exact Nat.le_refl _) dX10_isRight_190
        · have ic_12 := gz_nle (rfl : x_11.toInt = x_11.toInt) (rfl : y7_0.toInt = y7_0.toInt) c_12
          have lc_12 := gi_hi x_11
          refine lv_aload_n hx hb dX10_isRight_45 rfl (lv_at hl 2 rfl) ?_
          refine gs_get (C := RX10) (T := TX10) (N := 59) hx hb hts inX10 hown hK hM 0 0 20 (by decide) rfl rfl (by decide) (hts _ gm_917) (fun _ h9 => h9) rfl dX10_isRight_46 ?_
          refine lv_iload hx hb dX10_isRight_49 (lv_at hl 0 rfl) ?_
          refine gs_iald hx hb hK hM 8 0 (by decide) rfl (vp_in_iff.mpr ⟨by omega, by omega⟩) dX10_isRight_51 ?_
          refine lv_topi (fun x_13 ex_13 => ?_)
          have qx_13 : x_13.toInt = (st 8 0 (y7_0.toNatClampNeg)).toInt := congrArg Int32.toInt ex_13
          refine lv_iconst (v := 2) hx hb dX10_isRight_52 (by decide) ?_
          refine lv_icmp_ne (tgt := 109) hx hb dX10_isRight_53 (by decide) (fun c_14 => ?_) (fun c_14 => ?_)
          · have ic_14 := gz_ne (rfl : x_13.toInt = x_13.toInt) (by decide : (2 : Int32).toInt = 2) c_14
            refine lv_aload_n hx hb dX10_isRight_109 rfl (lv_at hl 2 rfl) ?_
            refine gs_get (C := RX10) (T := TX10) (N := 59) hx hb hts inX10 hown hK hM 0 0 20 (by decide) rfl rfl (by decide) (hts _ gm_917) (fun _ h9 => h9) rfl dX10_isRight_110 ?_
            refine lv_iload hx hb dX10_isRight_113 (lv_at hl 0 rfl) ?_
            refine gs_iald hx hb hK hM 8 0 (by decide) rfl (vp_in_iff.mpr ⟨by omega, by omega⟩) dX10_isRight_115 ?_
            refine lv_topi (fun x_15 ex_15 => ?_)
            have qx_15 : x_15.toInt = (st 8 0 (y7_0.toNatClampNeg)).toInt := congrArg Int32.toInt ex_15
            refine lv_iconst (v := 4) hx hb dX10_isRight_116 (by decide) ?_
            refine lv_icmp_ne (tgt := 183) hx hb dX10_isRight_117 (by decide) (fun c_16 => ?_) (fun c_16 => ?_)
            · have ic_16 := gz_ne (rfl : x_15.toInt = x_15.toInt) (by decide : (4 : Int32).toInt = 4) c_16
              obtain ⟨x_17, ex_17⟩ : ∃ y : Int32, y = y7_0 + 1 := ⟨_, rfl⟩
              try have tx_17 : x_17.toInt = y7_0.toInt + 1 := by rw [ex_17]; exact gz_addP (x := y7_0.toInt) (y := 1) rfl (by decide) (by omega) (by omega)
              refine lv_iinc (v := (x_17)) (lv' := [(9, .int x_17), (8, .int x_3), (0, .ref (ad 0 0)), (1, .int x), (2, .int y), (3, .ref (ad 6 0)), (4, .int f), (5, .int 200), (6, .ref (ad 5 0)), (7, .int 0)]) hx hb dX10_isRight_183 hl (k := 0) rfl (by rw [ex_17]; rfl) (by decide) rfl (fun ls hl => ?_)
              refine lv_goto (tgt := 28) hx hb dX10_isRight_186 (by decide) ?_
              exact ih_7  (x_17 : Int32) H _ ls (by omega)  (by have hb0 : (0 : Int) ≤ (st 0 0 28).toInt ∧ (st 0 0 28).toInt ≤ (1 : Int) := hB_st.1 0 0 28; omega) hM hS (lv_sub hl [0, 1, 2, 3, 4, 5, 6, 7, 8, 9] rfl)
            · have ic_16 := gz_eqn (rfl : x_15.toInt = x_15.toInt) (by decide : (4 : Int32).toInt = 4) c_16
              refine lv_aload_n hx hb dX10_isRight_120 rfl (lv_at hl 2 rfl) ?_
              refine gs_get (C := RX10) (T := TX10) (N := 59) hx hb hts inX10 hown hK hM 0 0 22 (by decide) rfl rfl (by decide) (hts _ gm_919) (fun _ h9 => h9) rfl dX10_isRight_121 ?_
              refine lv_iload hx hb dX10_isRight_124 (lv_at hl 0 rfl) ?_
              refine gs_iald hx hb hK hM 10 0 (by decide) rfl (vp_in_iff.mpr ⟨by omega, by omega⟩) dX10_isRight_126 ?_
              refine lv_topi (fun x_18 ex_18 => ?_)
              have qx_18 : x_18.toInt = (st 10 0 (y7_0.toNatClampNeg)).toInt := congrArg Int32.toInt ex_18
              refine lv_iload_n hx hb dX10_isRight_127 rfl (lv_at hl 3 rfl) ?_
              refine lv_icmp_ne (tgt := 183) hx hb dX10_isRight_128 (by decide) (fun c_19 => ?_) (fun c_19 => ?_)
              · have ic_19 := gz_ne (rfl : x_18.toInt = x_18.toInt) (rfl : x.toInt = x.toInt) c_19
                obtain ⟨x_20, ex_20⟩ : ∃ y : Int32, y = y7_0 + 1 := ⟨_, rfl⟩
                try have tx_20 : x_20.toInt = y7_0.toInt + 1 := by rw [ex_20]; exact gz_addP (x := y7_0.toInt) (y := 1) rfl (by decide) (by omega) (by omega)
                refine lv_iinc (v := (x_20)) (lv' := [(9, .int x_20), (8, .int x_3), (0, .ref (ad 0 0)), (1, .int x), (2, .int y), (3, .ref (ad 6 0)), (4, .int f), (5, .int 200), (6, .ref (ad 5 0)), (7, .int 0)]) hx hb dX10_isRight_183 hl (k := 0) rfl (by rw [ex_20]; rfl) (by decide) rfl (fun ls hl => ?_)
                refine lv_goto (tgt := 28) hx hb dX10_isRight_186 (by decide) ?_
                exact ih_7  (x_20 : Int32) H _ ls (by omega)  (by have hb0 : (0 : Int) ≤ (st 0 0 28).toInt ∧ (st 0 0 28).toInt ≤ (1 : Int) := hB_st.1 0 0 28; omega) hM hS (lv_sub hl [0, 1, 2, 3, 4, 5, 6, 7, 8, 9] rfl)
              · have ic_19 := gz_eqn (rfl : x_18.toInt = x_18.toInt) (rfl : x.toInt = x.toInt) c_19
                refine lv_aload_n hx hb dX10_isRight_131 rfl (lv_at hl 2 rfl) ?_
                refine gs_get (C := RX10) (T := TX10) (N := 59) hx hb hts inX10 hown hK hM 0 0 1 (by decide) rfl rfl (by decide) (hts _ gm_898) (fun _ h9 => h9) rfl dX10_isRight_132 ?_
                refine lv_aload_n hx hb dX10_isRight_135 rfl (lv_at hl 2 rfl) ?_
                refine gs_get (C := RX10) (T := TX10) (N := 59) hx hb hts inX10 hown hK hM 0 0 21 (by decide) rfl rfl (by decide) (hts _ gm_918) (fun _ h9 => h9) rfl dX10_isRight_136 ?_
                refine lv_iload hx hb dX10_isRight_139 (lv_at hl 0 rfl) ?_
                refine gs_iald hx hb hK hM 9 0 (by decide) rfl (vp_in_iff.mpr ⟨by omega, by omega⟩) dX10_isRight_141 ?_
                refine lv_topi (fun x_21 ex_21 => ?_)
                have qx_21 : x_21.toInt = (st 9 0 (y7_0.toNatClampNeg)).toInt := congrArg Int32.toInt ex_21
                have bx_21 : (0 : Int) ≤ x_21.toInt ∧ x_21.toInt ≤ (5 : Int) := by rw [qx_21]; exact hB_st.1 9 0 (y7_0.toNatClampNeg)
                refine gs_zald hx hb hK hM 1 0 (by decide) rfl (vp_in_iff.mpr ⟨by omega, by omega⟩) dX10_isRight_142 ?_
                refine lv_topi (fun x_22 ex_22 => ?_)
                have qx_22 : x_22.toInt = (st 1 0 (x_21.toNatClampNeg)).toInt := congrArg Int32.toInt ex_22
                refine lv_if_eq (tgt := 183) hx hb dX10_isRight_143 (by decide) (fun c_23 => ?_) (fun c_23 => ?_)
                · have ic_23 := gz_eq (rfl : x_22.toInt = x_22.toInt) (by decide : (0 : Int32).toInt = 0) c_23
                  obtain ⟨x_24, ex_24⟩ : ∃ y : Int32, y = y7_0 + 1 := ⟨_, rfl⟩
                  try have tx_24 : x_24.toInt = y7_0.toInt + 1 := by rw [ex_24]; exact gz_addP (x := y7_0.toInt) (y := 1) rfl (by decide) (by omega) (by omega)
                  refine lv_iinc (v := (x_24)) (lv' := [(9, .int x_24), (8, .int x_3), (0, .ref (ad 0 0)), (1, .int x), (2, .int y), (3, .ref (ad 6 0)), (4, .int f), (5, .int 200), (6, .ref (ad 5 0)), (7, .int 0)]) hx hb dX10_isRight_183 hl (k := 0) rfl (by rw [ex_24]; rfl) (by decide) rfl (fun ls hl => ?_)
                  refine lv_goto (tgt := 28) hx hb dX10_isRight_186 (by decide) ?_
                  exact ih_7  (x_24 : Int32) H _ ls (by omega)  (by have hb0 : (0 : Int) ≤ (st 0 0 28).toInt ∧ (st 0 0 28).toInt ≤ (1 : Int) := hB_st.1 0 0 28; omega) hM hS (lv_sub hl [0, 1, 2, 3, 4, 5, 6, 7, 8, 9] rfl)
                · have ic_23 := gz_ne (rfl : x_22.toInt = x_22.toInt) (by decide : (0 : Int32).toInt = 0) c_23
                  refine lv_aload hx hb dX10_isRight_146 (lv_at hl 8 rfl) ?_
                  refine lv_iload hx hb dX10_isRight_148 (lv_at hl 9 rfl) ?_
                  refine lv_aload_n hx hb dX10_isRight_150 rfl (lv_at hl 2 rfl) ?_
                  refine gs_get (C := RX10) (T := TX10) (N := 59) hx hb hts inX10 hown hK hM 0 0 21 (by decide) rfl rfl (by decide) (hts _ gm_918) (fun _ h9 => h9) rfl dX10_isRight_151 ?_
                  refine lv_iload hx hb dX10_isRight_154 (lv_at hl 0 rfl) ?_
                  refine gs_iald hx hb hK hM 9 0 (by decide) rfl (vp_in_iff.mpr ⟨by omega, by omega⟩) dX10_isRight_156 ?_
                  refine lv_topi (fun x_25 ex_25 => ?_)
                  have qx_25 : x_25.toInt = (st 9 0 (y7_0.toNatClampNeg)).toInt := congrArg Int32.toInt ex_25
                  have bx_25 : (0 : Int) ≤ x_25.toInt ∧ x_25.toInt ≤ (5 : Int) := by rw [qx_25]; exact hB_st.1 9 0 (y7_0.toNatClampNeg)
                  refine lv_iadd hx hb dX10_isRight_157 ?_
                  refine lv_topi (fun x_26 ex_26 => ?_)
                  try have tx_26 : x_26.toInt = 0 + x_25.toInt := by rw [ex_26]; exact gz_addI (x := 0) (y := x_25.toInt) (by decide) rfl (by omega) (by omega)
                  refine gs_iald hx hb hK hM 5 0 (by decide) rfl (vp_in_iff.mpr ⟨by omega, by omega⟩) dX10_isRight_158 ?_
                  refine lv_topi (fun x_27 ex_27 => ?_)
                  have qx_27 : x_27.toInt = (st 5 0 (x_26.toNatClampNeg)).toInt := congrArg Int32.toInt ex_27
                  refine lv_if_ne (tgt := 183) hx hb dX10_isRight_159 (by decide) (fun c_28 => ?_) (fun c_28 => ?_)
                  · have ic_28 := gz_ne (rfl : x_27.toInt = x_27.toInt) (by decide : (0 : Int32).toInt = 0) c_28
                    obtain ⟨x_29, ex_29⟩ : ∃ y : Int32, y = y7_0 + 1 := ⟨_, rfl⟩
                    try have tx_29 : x_29.toInt = y7_0.toInt + 1 := by rw [ex_29]; exact gz_addP (x := y7_0.toInt) (y := 1) rfl (by decide) (by omega) (by omega)
                    refine lv_iinc (v := (x_29)) (lv' := [(9, .int x_29), (8, .int x_3), (0, .ref (ad 0 0)), (1, .int x), (2, .int y), (3, .ref (ad 6 0)), (4, .int f), (5, .int 200), (6, .ref (ad 5 0)), (7, .int 0)]) hx hb dX10_isRight_183 hl (k := 0) rfl (by rw [ex_29]; rfl) (by decide) rfl (fun ls hl => ?_)
                    refine lv_goto (tgt := 28) hx hb dX10_isRight_186 (by decide) ?_
                    exact ih_7  (x_29 : Int32) H _ ls (by omega)  (by have hb0 : (0 : Int) ≤ (st 0 0 28).toInt ∧ (st 0 0 28).toInt ≤ (1 : Int) := hB_st.1 0 0 28; omega) hM hS (lv_sub hl [0, 1, 2, 3, 4, 5, 6, 7, 8, 9] rfl)
                  · have ic_28 := gz_eqn (rfl : x_27.toInt = x_27.toInt) (by decide : (0 : Int32).toInt = 0) c_28
                    refine lv_aload_n hx hb dX10_isRight_162 rfl (lv_at hl 5 rfl) ?_
                    refine lv_iload hx hb dX10_isRight_163 (lv_at hl 6 rfl) ?_
                    refine lv_iload hx hb dX10_isRight_165 (lv_at hl 7 rfl) ?_
                    refine lv_aload_n hx hb dX10_isRight_167 rfl (lv_at hl 2 rfl) ?_
                    refine gs_get (C := RX10) (T := TX10) (N := 59) hx hb hts inX10 hown hK hM 0 0 21 (by decide) rfl rfl (by decide) (hts _ gm_918) (fun _ h9 => h9) rfl dX10_isRight_168 ?_
                    refine lv_iload hx hb dX10_isRight_171 (lv_at hl 0 rfl) ?_
                    refine gs_iald hx hb hK hM 9 0 (by decide) rfl (vp_in_iff.mpr ⟨by omega, by omega⟩) dX10_isRight_173 ?_
                    refine lv_topi (fun x_30 ex_30 => ?_)
                    have qx_30 : x_30.toInt = (st 9 0 (y7_0.toNatClampNeg)).toInt := congrArg Int32.toInt ex_30
                    have bx_30 : (0 : Int) ≤ x_30.toInt ∧ x_30.toInt ≤ (5 : Int) := by rw [qx_30]; exact hB_st.1 9 0 (y7_0.toNatClampNeg)
                    refine lv_imul hx hb dX10_isRight_174 ?_
                    refine lv_topi (fun x_31 ex_31 => ?_)
                    try have tx_31 : x_31.toInt = 200 * x_30.toInt := by rw [ex_31]; exact gz_mulI (x := 200) (y := x_30.toInt) (by decide) rfl (by omega) (by omega)
                    refine lv_iadd hx hb dX10_isRight_175 ?_
                    refine lv_topi (fun x_32 ex_32 => ?_)
                    try have tx_32 : x_32.toInt = f.toInt + x_31.toInt := by rw [ex_32]; exact gz_addI (x := f.toInt) (y := x_31.toInt) rfl rfl (by omega) (by omega)
                    refine gs_iald hx hb hK hM 6 0 (by decide) rfl (vp_in_iff.mpr ⟨by omega, by omega⟩) dX10_isRight_176 ?_
                    refine lv_topi (fun x_33 ex_33 => ?_)
                    have qx_33 : x_33.toInt = (st 6 0 (x_32.toNatClampNeg)).toInt := congrArg Int32.toInt ex_33
                    refine lv_iload_n hx hb dX10_isRight_177 rfl (lv_at hl 4 rfl) ?_
                    refine lv_icmp_ne (tgt := 183) hx hb dX10_isRight_178 (by decide) (fun c_34 => ?_) (fun c_34 => ?_)
                    · have ic_34 := gz_ne (rfl : x_33.toInt = x_33.toInt) (rfl : y.toInt = y.toInt) c_34
                      obtain ⟨x_35, ex_35⟩ : ∃ y : Int32, y = y7_0 + 1 := ⟨_, rfl⟩
                      try have tx_35 : x_35.toInt = y7_0.toInt + 1 := by rw [ex_35]; exact gz_addP (x := y7_0.toInt) (y := 1) rfl (by decide) (by omega) (by omega)
                      refine lv_iinc (v := (x_35)) (lv' := [(9, .int x_35), (8, .int x_3), (0, .ref (ad 0 0)), (1, .int x), (2, .int y), (3, .ref (ad 6 0)), (4, .int f), (5, .int 200), (6, .ref (ad 5 0)), (7, .int 0)]) hx hb dX10_isRight_183 hl (k := 0) rfl (by rw [ex_35]; rfl) (by decide) rfl (fun ls hl => ?_)
                      refine lv_goto (tgt := 28) hx hb dX10_isRight_186 (by decide) ?_
                      exact ih_7  (x_35 : Int32) H _ ls (by omega)  (by have hb0 : (0 : Int) ≤ (st 0 0 28).toInt ∧ (st 0 0 28).toInt ≤ (1 : Int) := hB_st.1 0 0 28; omega) hM hS (lv_sub hl [0, 1, 2, 3, 4, 5, 6, 7, 8, 9] rfl)
                    · have ic_34 := gz_eqn (rfl : x_33.toInt = x_33.toInt) (rfl : y.toInt = y.toInt) c_34
                      refine lv_iconst (v := 1) hx hb dX10_isRight_181 (by decide) ?_
                      rw [← hQe]
                      exact gs_iret hx hb hr hlocks hM hS (by decide) ⟨hB_st, (Or.inl rfl)⟩ (by exact Nat.le_refl _) (by exact Nat.le_refl _) dX10_isRight_182
          · have ic_14 := gz_eqn (rfl : x_13.toInt = x_13.toInt) (by decide : (2 : Int32).toInt = 2) c_14
            refine lv_iload hx hb dX10_isRight_56 (lv_at hl 1 rfl) ?_
            refine lv_if_lt (tgt := 109) hx hb dX10_isRight_58 (by decide) (fun c_36 => ?_) (fun c_36 => ?_)
            · have ic_36 := gz_lt (rfl : x_3.toInt = x_3.toInt) (by decide : (0 : Int32).toInt = 0) c_36
              refine lv_aload_n hx hb dX10_isRight_109 rfl (lv_at hl 2 rfl) ?_
              refine gs_get (C := RX10) (T := TX10) (N := 59) hx hb hts inX10 hown hK hM 0 0 20 (by decide) rfl rfl (by decide) (hts _ gm_917) (fun _ h9 => h9) rfl dX10_isRight_110 ?_
              refine lv_iload hx hb dX10_isRight_113 (lv_at hl 0 rfl) ?_
              refine gs_iald hx hb hK hM 8 0 (by decide) rfl (vp_in_iff.mpr ⟨by omega, by omega⟩) dX10_isRight_115 ?_
              refine lv_topi (fun x_37 ex_37 => ?_)
              have qx_37 : x_37.toInt = (st 8 0 (y7_0.toNatClampNeg)).toInt := congrArg Int32.toInt ex_37
              refine lv_iconst (v := 4) hx hb dX10_isRight_116 (by decide) ?_
              refine lv_icmp_ne (tgt := 183) hx hb dX10_isRight_117 (by decide) (fun c_38 => ?_) (fun c_38 => ?_)
              · have ic_38 := gz_ne (rfl : x_37.toInt = x_37.toInt) (by decide : (4 : Int32).toInt = 4) c_38
                obtain ⟨x_39, ex_39⟩ : ∃ y : Int32, y = y7_0 + 1 := ⟨_, rfl⟩
                try have tx_39 : x_39.toInt = y7_0.toInt + 1 := by rw [ex_39]; exact gz_addP (x := y7_0.toInt) (y := 1) rfl (by decide) (by omega) (by omega)
                refine lv_iinc (v := (x_39)) (lv' := [(9, .int x_39), (8, .int x_3), (0, .ref (ad 0 0)), (1, .int x), (2, .int y), (3, .ref (ad 6 0)), (4, .int f), (5, .int 200), (6, .ref (ad 5 0)), (7, .int 0)]) hx hb dX10_isRight_183 hl (k := 0) rfl (by rw [ex_39]; rfl) (by decide) rfl (fun ls hl => ?_)
                refine lv_goto (tgt := 28) hx hb dX10_isRight_186 (by decide) ?_
                exact ih_7  (x_39 : Int32) H _ ls (by omega)  (by have hb0 : (0 : Int) ≤ (st 0 0 28).toInt ∧ (st 0 0 28).toInt ≤ (1 : Int) := hB_st.1 0 0 28; omega) hM hS (lv_sub hl [0, 1, 2, 3, 4, 5, 6, 7, 8, 9] rfl)
              · have ic_38 := gz_eqn (rfl : x_37.toInt = x_37.toInt) (by decide : (4 : Int32).toInt = 4) c_38
                refine lv_aload_n hx hb dX10_isRight_120 rfl (lv_at hl 2 rfl) ?_
                refine gs_get (C := RX10) (T := TX10) (N := 59) hx hb hts inX10 hown hK hM 0 0 22 (by decide) rfl rfl (by decide) (hts _ gm_919) (fun _ h9 => h9) rfl dX10_isRight_121 ?_
                refine lv_iload hx hb dX10_isRight_124 (lv_at hl 0 rfl) ?_
                refine gs_iald hx hb hK hM 10 0 (by decide) rfl (vp_in_iff.mpr ⟨by omega, by omega⟩) dX10_isRight_126 ?_
                refine lv_topi (fun x_40 ex_40 => ?_)
                have qx_40 : x_40.toInt = (st 10 0 (y7_0.toNatClampNeg)).toInt := congrArg Int32.toInt ex_40
                refine lv_iload_n hx hb dX10_isRight_127 rfl (lv_at hl 3 rfl) ?_
                refine lv_icmp_ne (tgt := 183) hx hb dX10_isRight_128 (by decide) (fun c_41 => ?_) (fun c_41 => ?_)
                · have ic_41 := gz_ne (rfl : x_40.toInt = x_40.toInt) (rfl : x.toInt = x.toInt) c_41
                  obtain ⟨x_42, ex_42⟩ : ∃ y : Int32, y = y7_0 + 1 := ⟨_, rfl⟩
                  try have tx_42 : x_42.toInt = y7_0.toInt + 1 := by rw [ex_42]; exact gz_addP (x := y7_0.toInt) (y := 1) rfl (by decide) (by omega) (by omega)
                  refine lv_iinc (v := (x_42)) (lv' := [(9, .int x_42), (8, .int x_3), (0, .ref (ad 0 0)), (1, .int x), (2, .int y), (3, .ref (ad 6 0)), (4, .int f), (5, .int 200), (6, .ref (ad 5 0)), (7, .int 0)]) hx hb dX10_isRight_183 hl (k := 0) rfl (by rw [ex_42]; rfl) (by decide) rfl (fun ls hl => ?_)
                  refine lv_goto (tgt := 28) hx hb dX10_isRight_186 (by decide) ?_
                  exact ih_7  (x_42 : Int32) H _ ls (by omega)  (by have hb0 : (0 : Int) ≤ (st 0 0 28).toInt ∧ (st 0 0 28).toInt ≤ (1 : Int) := hB_st.1 0 0 28; omega) hM hS (lv_sub hl [0, 1, 2, 3, 4, 5, 6, 7, 8, 9] rfl)
                · have ic_41 := gz_eqn (rfl : x_40.toInt = x_40.toInt) (rfl : x.toInt = x.toInt) c_41
                  refine lv_aload_n hx hb dX10_isRight_131 rfl (lv_at hl 2 rfl) ?_
                  refine gs_get (C := RX10) (T := TX10) (N := 59) hx hb hts inX10 hown hK hM 0 0 1 (by decide) rfl rfl (by decide) (hts _ gm_898) (fun _ h9 => h9) rfl dX10_isRight_132 ?_
                  refine lv_aload_n hx hb dX10_isRight_135 rfl (lv_at hl 2 rfl) ?_
                  refine gs_get (C := RX10) (T := TX10) (N := 59) hx hb hts inX10 hown hK hM 0 0 21 (by decide) rfl rfl (by decide) (hts _ gm_918) (fun _ h9 => h9) rfl dX10_isRight_136 ?_
                  refine lv_iload hx hb dX10_isRight_139 (lv_at hl 0 rfl) ?_
                  refine gs_iald hx hb hK hM 9 0 (by decide) rfl (vp_in_iff.mpr ⟨by omega, by omega⟩) dX10_isRight_141 ?_
                  refine lv_topi (fun x_43 ex_43 => ?_)
                  have qx_43 : x_43.toInt = (st 9 0 (y7_0.toNatClampNeg)).toInt := congrArg Int32.toInt ex_43
                  have bx_43 : (0 : Int) ≤ x_43.toInt ∧ x_43.toInt ≤ (5 : Int) := by rw [qx_43]; exact hB_st.1 9 0 (y7_0.toNatClampNeg)
                  refine gs_zald hx hb hK hM 1 0 (by decide) rfl (vp_in_iff.mpr ⟨by omega, by omega⟩) dX10_isRight_142 ?_
                  refine lv_topi (fun x_44 ex_44 => ?_)
                  have qx_44 : x_44.toInt = (st 1 0 (x_43.toNatClampNeg)).toInt := congrArg Int32.toInt ex_44
                  refine lv_if_eq (tgt := 183) hx hb dX10_isRight_143 (by decide) (fun c_45 => ?_) (fun c_45 => ?_)
                  · have ic_45 := gz_eq (rfl : x_44.toInt = x_44.toInt) (by decide : (0 : Int32).toInt = 0) c_45
                    obtain ⟨x_46, ex_46⟩ : ∃ y : Int32, y = y7_0 + 1 := ⟨_, rfl⟩
                    try have tx_46 : x_46.toInt = y7_0.toInt + 1 := by rw [ex_46]; exact gz_addP (x := y7_0.toInt) (y := 1) rfl (by decide) (by omega) (by omega)
                    refine lv_iinc (v := (x_46)) (lv' := [(9, .int x_46), (8, .int x_3), (0, .ref (ad 0 0)), (1, .int x), (2, .int y), (3, .ref (ad 6 0)), (4, .int f), (5, .int 200), (6, .ref (ad 5 0)), (7, .int 0)]) hx hb dX10_isRight_183 hl (k := 0) rfl (by rw [ex_46]; rfl) (by decide) rfl (fun ls hl => ?_)
                    refine lv_goto (tgt := 28) hx hb dX10_isRight_186 (by decide) ?_
                    exact ih_7  (x_46 : Int32) H _ ls (by omega)  (by have hb0 : (0 : Int) ≤ (st 0 0 28).toInt ∧ (st 0 0 28).toInt ≤ (1 : Int) := hB_st.1 0 0 28; omega) hM hS (lv_sub hl [0, 1, 2, 3, 4, 5, 6, 7, 8, 9] rfl)
                  · have ic_45 := gz_ne (rfl : x_44.toInt = x_44.toInt) (by decide : (0 : Int32).toInt = 0) c_45
                    refine lv_aload hx hb dX10_isRight_146 (lv_at hl 8 rfl) ?_
                    refine lv_iload hx hb dX10_isRight_148 (lv_at hl 9 rfl) ?_
                    refine lv_aload_n hx hb dX10_isRight_150 rfl (lv_at hl 2 rfl) ?_
                    refine gs_get (C := RX10) (T := TX10) (N := 59) hx hb hts inX10 hown hK hM 0 0 21 (by decide) rfl rfl (by decide) (hts _ gm_918) (fun _ h9 => h9) rfl dX10_isRight_151 ?_
                    refine lv_iload hx hb dX10_isRight_154 (lv_at hl 0 rfl) ?_
                    refine gs_iald hx hb hK hM 9 0 (by decide) rfl (vp_in_iff.mpr ⟨by omega, by omega⟩) dX10_isRight_156 ?_
                    refine lv_topi (fun x_47 ex_47 => ?_)
                    have qx_47 : x_47.toInt = (st 9 0 (y7_0.toNatClampNeg)).toInt := congrArg Int32.toInt ex_47
                    have bx_47 : (0 : Int) ≤ x_47.toInt ∧ x_47.toInt ≤ (5 : Int) := by rw [qx_47]; exact hB_st.1 9 0 (y7_0.toNatClampNeg)
                    refine lv_iadd hx hb dX10_isRight_157 ?_
                    refine lv_topi (fun x_48 ex_48 => ?_)
                    try have tx_48 : x_48.toInt = 0 + x_47.toInt := by rw [ex_48]; exact gz_addI (x := 0) (y := x_47.toInt) (by decide) rfl (by omega) (by omega)
                    refine gs_iald hx hb hK hM 5 0 (by decide) rfl (vp_in_iff.mpr ⟨by omega, by omega⟩) dX10_isRight_158 ?_
                    refine lv_topi (fun x_49 ex_49 => ?_)
                    have qx_49 : x_49.toInt = (st 5 0 (x_48.toNatClampNeg)).toInt := congrArg Int32.toInt ex_49
                    refine lv_if_ne (tgt := 183) hx hb dX10_isRight_159 (by decide) (fun c_50 => ?_) (fun c_50 => ?_)
                    · have ic_50 := gz_ne (rfl : x_49.toInt = x_49.toInt) (by decide : (0 : Int32).toInt = 0) c_50
                      obtain ⟨x_51, ex_51⟩ : ∃ y : Int32, y = y7_0 + 1 := ⟨_, rfl⟩
                      try have tx_51 : x_51.toInt = y7_0.toInt + 1 := by rw [ex_51]; exact gz_addP (x := y7_0.toInt) (y := 1) rfl (by decide) (by omega) (by omega)
                      refine lv_iinc (v := (x_51)) (lv' := [(9, .int x_51), (8, .int x_3), (0, .ref (ad 0 0)), (1, .int x), (2, .int y), (3, .ref (ad 6 0)), (4, .int f), (5, .int 200), (6, .ref (ad 5 0)), (7, .int 0)]) hx hb dX10_isRight_183 hl (k := 0) rfl (by rw [ex_51]; rfl) (by decide) rfl (fun ls hl => ?_)
                      refine lv_goto (tgt := 28) hx hb dX10_isRight_186 (by decide) ?_
                      exact ih_7  (x_51 : Int32) H _ ls (by omega)  (by have hb0 : (0 : Int) ≤ (st 0 0 28).toInt ∧ (st 0 0 28).toInt ≤ (1 : Int) := hB_st.1 0 0 28; omega) hM hS (lv_sub hl [0, 1, 2, 3, 4, 5, 6, 7, 8, 9] rfl)
                    · have ic_50 := gz_eqn (rfl : x_49.toInt = x_49.toInt) (by decide : (0 : Int32).toInt = 0) c_50
                      refine lv_aload_n hx hb dX10_isRight_162 rfl (lv_at hl 5 rfl) ?_
                      refine lv_iload hx hb dX10_isRight_163 (lv_at hl 6 rfl) ?_
                      refine lv_iload hx hb dX10_isRight_165 (lv_at hl 7 rfl) ?_
                      refine lv_aload_n hx hb dX10_isRight_167 rfl (lv_at hl 2 rfl) ?_
                      refine gs_get (C := RX10) (T := TX10) (N := 59) hx hb hts inX10 hown hK hM 0 0 21 (by decide) rfl rfl (by decide) (hts _ gm_918) (fun _ h9 => h9) rfl dX10_isRight_168 ?_
                      refine lv_iload hx hb dX10_isRight_171 (lv_at hl 0 rfl) ?_
                      refine gs_iald hx hb hK hM 9 0 (by decide) rfl (vp_in_iff.mpr ⟨by omega, by omega⟩) dX10_isRight_173 ?_
                      refine lv_topi (fun x_52 ex_52 => ?_)
                      have qx_52 : x_52.toInt = (st 9 0 (y7_0.toNatClampNeg)).toInt := congrArg Int32.toInt ex_52
                      have bx_52 : (0 : Int) ≤ x_52.toInt ∧ x_52.toInt ≤ (5 : Int) := by rw [qx_52]; exact hB_st.1 9 0 (y7_0.toNatClampNeg)
                      refine lv_imul hx hb dX10_isRight_174 ?_
                      refine lv_topi (fun x_53 ex_53 => ?_)
                      try have tx_53 : x_53.toInt = 200 * x_52.toInt := by rw [ex_53]; exact gz_mulI (x := 200) (y := x_52.toInt) (by decide) rfl (by omega) (by omega)
                      refine lv_iadd hx hb dX10_isRight_175 ?_
                      refine lv_topi (fun x_54 ex_54 => ?_)
                      try have tx_54 : x_54.toInt = f.toInt + x_53.toInt := by rw [ex_54]; exact gz_addI (x := f.toInt) (y := x_53.toInt) rfl rfl (by omega) (by omega)
                      refine gs_iald hx hb hK hM 6 0 (by decide) rfl (vp_in_iff.mpr ⟨by omega, by omega⟩) dX10_isRight_176 ?_
                      refine lv_topi (fun x_55 ex_55 => ?_)
                      have qx_55 : x_55.toInt = (st 6 0 (x_54.toNatClampNeg)).toInt := congrArg Int32.toInt ex_55
                      refine lv_iload_n hx hb dX10_isRight_177 rfl (lv_at hl 4 rfl) ?_
                      refine lv_icmp_ne (tgt := 183) hx hb dX10_isRight_178 (by decide) (fun c_56 => ?_) (fun c_56 => ?_)
                      · have ic_56 := gz_ne (rfl : x_55.toInt = x_55.toInt) (rfl : y.toInt = y.toInt) c_56
                        obtain ⟨x_57, ex_57⟩ : ∃ y : Int32, y = y7_0 + 1 := ⟨_, rfl⟩
                        try have tx_57 : x_57.toInt = y7_0.toInt + 1 := by rw [ex_57]; exact gz_addP (x := y7_0.toInt) (y := 1) rfl (by decide) (by omega) (by omega)
                        refine lv_iinc (v := (x_57)) (lv' := [(9, .int x_57), (8, .int x_3), (0, .ref (ad 0 0)), (1, .int x), (2, .int y), (3, .ref (ad 6 0)), (4, .int f), (5, .int 200), (6, .ref (ad 5 0)), (7, .int 0)]) hx hb dX10_isRight_183 hl (k := 0) rfl (by rw [ex_57]; rfl) (by decide) rfl (fun ls hl => ?_)
                        refine lv_goto (tgt := 28) hx hb dX10_isRight_186 (by decide) ?_
                        exact ih_7  (x_57 : Int32) H _ ls (by omega)  (by have hb0 : (0 : Int) ≤ (st 0 0 28).toInt ∧ (st 0 0 28).toInt ≤ (1 : Int) := hB_st.1 0 0 28; omega) hM hS (lv_sub hl [0, 1, 2, 3, 4, 5, 6, 7, 8, 9] rfl)
                      · have ic_56 := gz_eqn (rfl : x_55.toInt = x_55.toInt) (rfl : y.toInt = y.toInt) c_56
                        refine lv_iconst (v := 1) hx hb dX10_isRight_181 (by decide) ?_
                        rw [← hQe]
                        exact gs_iret hx hb hr hlocks hM hS (by decide) ⟨hB_st, (Or.inl rfl)⟩ (by exact Nat.le_refl _) (by exact Nat.le_refl _) dX10_isRight_182
            · have ic_36 := gz_nlt (rfl : x_3.toInt = x_3.toInt) (by decide : (0 : Int32).toInt = 0) c_36
              refine lv_aload_n hx hb dX10_isRight_61 rfl (lv_at hl 2 rfl) ?_
              refine gs_get (C := RX10) (T := TX10) (N := 59) hx hb hts inX10 hown hK hM 0 0 21 (by decide) rfl rfl (by decide) (hts _ gm_918) (fun _ h9 => h9) rfl dX10_isRight_62 ?_
              refine lv_iload hx hb dX10_isRight_65 (lv_at hl 0 rfl) ?_
              refine gs_iald hx hb hK hM 9 0 (by decide) rfl (vp_in_iff.mpr ⟨by omega, by omega⟩) dX10_isRight_67 ?_
              refine lv_topi (fun x_58 ex_58 => ?_)
              have qx_58 : x_58.toInt = (st 9 0 (y7_0.toNatClampNeg)).toInt := congrArg Int32.toInt ex_58
              have bx_58 : (0 : Int) ≤ x_58.toInt ∧ x_58.toInt ≤ (5 : Int) := by rw [qx_58]; exact hB_st.1 9 0 (y7_0.toNatClampNeg)
              refine lv_iload_n hx hb dX10_isRight_68 rfl (lv_at hl 4 rfl) ?_
              refine lv_icmp_ne (tgt := 84) hx hb dX10_isRight_69 (by decide) (fun c_59 => ?_) (fun c_59 => ?_)
              · have ic_59 := gz_ne (rfl : x_58.toInt = x_58.toInt) (rfl : y.toInt = y.toInt) c_59
                refine lv_aload_n hx hb dX10_isRight_84 rfl (lv_at hl 2 rfl) ?_
                refine gs_get (C := RX10) (T := TX10) (N := 59) hx hb hts inX10 hown hK hM 0 0 22 (by decide) rfl rfl (by decide) (hts _ gm_919) (fun _ h9 => h9) rfl dX10_isRight_85 ?_
                refine lv_iload hx hb dX10_isRight_88 (lv_at hl 0 rfl) ?_
                refine gs_iald hx hb hK hM 10 0 (by decide) rfl (vp_in_iff.mpr ⟨by omega, by omega⟩) dX10_isRight_90 ?_
                refine lv_topi (fun x_60 ex_60 => ?_)
                have qx_60 : x_60.toInt = (st 10 0 (y7_0.toNatClampNeg)).toInt := congrArg Int32.toInt ex_60
                refine lv_iload_n hx hb dX10_isRight_91 rfl (lv_at hl 4 rfl) ?_
                refine lv_icmp_ne (tgt := 109) hx hb dX10_isRight_92 (by decide) (fun c_61 => ?_) (fun c_61 => ?_)
                · have ic_61 := gz_ne (rfl : x_60.toInt = x_60.toInt) (rfl : y.toInt = y.toInt) c_61
                  refine lv_aload_n hx hb dX10_isRight_109 rfl (lv_at hl 2 rfl) ?_
                  refine gs_get (C := RX10) (T := TX10) (N := 59) hx hb hts inX10 hown hK hM 0 0 20 (by decide) rfl rfl (by decide) (hts _ gm_917) (fun _ h9 => h9) rfl dX10_isRight_110 ?_
                  refine lv_iload hx hb dX10_isRight_113 (lv_at hl 0 rfl) ?_
                  refine gs_iald hx hb hK hM 8 0 (by decide) rfl (vp_in_iff.mpr ⟨by omega, by omega⟩) dX10_isRight_115 ?_
                  refine lv_topi (fun x_62 ex_62 => ?_)
                  have qx_62 : x_62.toInt = (st 8 0 (y7_0.toNatClampNeg)).toInt := congrArg Int32.toInt ex_62
                  refine lv_iconst (v := 4) hx hb dX10_isRight_116 (by decide) ?_
                  refine lv_icmp_ne (tgt := 183) hx hb dX10_isRight_117 (by decide) (fun c_63 => ?_) (fun c_63 => ?_)
                  · have ic_63 := gz_ne (rfl : x_62.toInt = x_62.toInt) (by decide : (4 : Int32).toInt = 4) c_63
                    obtain ⟨x_64, ex_64⟩ : ∃ y : Int32, y = y7_0 + 1 := ⟨_, rfl⟩
                    try have tx_64 : x_64.toInt = y7_0.toInt + 1 := by rw [ex_64]; exact gz_addP (x := y7_0.toInt) (y := 1) rfl (by decide) (by omega) (by omega)
                    refine lv_iinc (v := (x_64)) (lv' := [(9, .int x_64), (8, .int x_3), (0, .ref (ad 0 0)), (1, .int x), (2, .int y), (3, .ref (ad 6 0)), (4, .int f), (5, .int 200), (6, .ref (ad 5 0)), (7, .int 0)]) hx hb dX10_isRight_183 hl (k := 0) rfl (by rw [ex_64]; rfl) (by decide) rfl (fun ls hl => ?_)
                    refine lv_goto (tgt := 28) hx hb dX10_isRight_186 (by decide) ?_
                    exact ih_7  (x_64 : Int32) H _ ls (by omega)  (by have hb0 : (0 : Int) ≤ (st 0 0 28).toInt ∧ (st 0 0 28).toInt ≤ (1 : Int) := hB_st.1 0 0 28; omega) hM hS (lv_sub hl [0, 1, 2, 3, 4, 5, 6, 7, 8, 9] rfl)
                  · have ic_63 := gz_eqn (rfl : x_62.toInt = x_62.toInt) (by decide : (4 : Int32).toInt = 4) c_63
                    refine lv_aload_n hx hb dX10_isRight_120 rfl (lv_at hl 2 rfl) ?_
                    refine gs_get (C := RX10) (T := TX10) (N := 59) hx hb hts inX10 hown hK hM 0 0 22 (by decide) rfl rfl (by decide) (hts _ gm_919) (fun _ h9 => h9) rfl dX10_isRight_121 ?_
                    refine lv_iload hx hb dX10_isRight_124 (lv_at hl 0 rfl) ?_
                    refine gs_iald hx hb hK hM 10 0 (by decide) rfl (vp_in_iff.mpr ⟨by omega, by omega⟩) dX10_isRight_126 ?_
                    refine lv_topi (fun x_65 ex_65 => ?_)
                    have qx_65 : x_65.toInt = (st 10 0 (y7_0.toNatClampNeg)).toInt := congrArg Int32.toInt ex_65
                    refine lv_iload_n hx hb dX10_isRight_127 rfl (lv_at hl 3 rfl) ?_
                    refine lv_icmp_ne (tgt := 183) hx hb dX10_isRight_128 (by decide) (fun c_66 => ?_) (fun c_66 => ?_)
                    · have ic_66 := gz_ne (rfl : x_65.toInt = x_65.toInt) (rfl : x.toInt = x.toInt) c_66
                      obtain ⟨x_67, ex_67⟩ : ∃ y : Int32, y = y7_0 + 1 := ⟨_, rfl⟩
                      try have tx_67 : x_67.toInt = y7_0.toInt + 1 := by rw [ex_67]; exact gz_addP (x := y7_0.toInt) (y := 1) rfl (by decide) (by omega) (by omega)
                      refine lv_iinc (v := (x_67)) (lv' := [(9, .int x_67), (8, .int x_3), (0, .ref (ad 0 0)), (1, .int x), (2, .int y), (3, .ref (ad 6 0)), (4, .int f), (5, .int 200), (6, .ref (ad 5 0)), (7, .int 0)]) hx hb dX10_isRight_183 hl (k := 0) rfl (by rw [ex_67]; rfl) (by decide) rfl (fun ls hl => ?_)
                      refine lv_goto (tgt := 28) hx hb dX10_isRight_186 (by decide) ?_
                      exact ih_7  (x_67 : Int32) H _ ls (by omega)  (by have hb0 : (0 : Int) ≤ (st 0 0 28).toInt ∧ (st 0 0 28).toInt ≤ (1 : Int) := hB_st.1 0 0 28; omega) hM hS (lv_sub hl [0, 1, 2, 3, 4, 5, 6, 7, 8, 9] rfl)
                    · have ic_66 := gz_eqn (rfl : x_65.toInt = x_65.toInt) (rfl : x.toInt = x.toInt) c_66
                      refine lv_aload_n hx hb dX10_isRight_131 rfl (lv_at hl 2 rfl) ?_
                      refine gs_get (C := RX10) (T := TX10) (N := 59) hx hb hts inX10 hown hK hM 0 0 1 (by decide) rfl rfl (by decide) (hts _ gm_898) (fun _ h9 => h9) rfl dX10_isRight_132 ?_
                      refine lv_aload_n hx hb dX10_isRight_135 rfl (lv_at hl 2 rfl) ?_
                      refine gs_get (C := RX10) (T := TX10) (N := 59) hx hb hts inX10 hown hK hM 0 0 21 (by decide) rfl rfl (by decide) (hts _ gm_918) (fun _ h9 => h9) rfl dX10_isRight_136 ?_
                      refine lv_iload hx hb dX10_isRight_139 (lv_at hl 0 rfl) ?_
                      refine gs_iald hx hb hK hM 9 0 (by decide) rfl (vp_in_iff.mpr ⟨by omega, by omega⟩) dX10_isRight_141 ?_
                      refine lv_topi (fun x_68 ex_68 => ?_)
                      have qx_68 : x_68.toInt = (st 9 0 (y7_0.toNatClampNeg)).toInt := congrArg Int32.toInt ex_68
                      have bx_68 : (0 : Int) ≤ x_68.toInt ∧ x_68.toInt ≤ (5 : Int) := by rw [qx_68]; exact hB_st.1 9 0 (y7_0.toNatClampNeg)
                      refine gs_zald hx hb hK hM 1 0 (by decide) rfl (vp_in_iff.mpr ⟨by omega, by omega⟩) dX10_isRight_142 ?_
                      refine lv_topi (fun x_69 ex_69 => ?_)
                      have qx_69 : x_69.toInt = (st 1 0 (x_68.toNatClampNeg)).toInt := congrArg Int32.toInt ex_69
                      refine lv_if_eq (tgt := 183) hx hb dX10_isRight_143 (by decide) (fun c_70 => ?_) (fun c_70 => ?_)
                      · have ic_70 := gz_eq (rfl : x_69.toInt = x_69.toInt) (by decide : (0 : Int32).toInt = 0) c_70
                        obtain ⟨x_71, ex_71⟩ : ∃ y : Int32, y = y7_0 + 1 := ⟨_, rfl⟩
                        try have tx_71 : x_71.toInt = y7_0.toInt + 1 := by rw [ex_71]; exact gz_addP (x := y7_0.toInt) (y := 1) rfl (by decide) (by omega) (by omega)
                        refine lv_iinc (v := (x_71)) (lv' := [(9, .int x_71), (8, .int x_3), (0, .ref (ad 0 0)), (1, .int x), (2, .int y), (3, .ref (ad 6 0)), (4, .int f), (5, .int 200), (6, .ref (ad 5 0)), (7, .int 0)]) hx hb dX10_isRight_183 hl (k := 0) rfl (by rw [ex_71]; rfl) (by decide) rfl (fun ls hl => ?_)
                        refine lv_goto (tgt := 28) hx hb dX10_isRight_186 (by decide) ?_
                        exact ih_7  (x_71 : Int32) H _ ls (by omega)  (by have hb0 : (0 : Int) ≤ (st 0 0 28).toInt ∧ (st 0 0 28).toInt ≤ (1 : Int) := hB_st.1 0 0 28; omega) hM hS (lv_sub hl [0, 1, 2, 3, 4, 5, 6, 7, 8, 9] rfl)
                      · have ic_70 := gz_ne (rfl : x_69.toInt = x_69.toInt) (by decide : (0 : Int32).toInt = 0) c_70
                        refine lv_aload hx hb dX10_isRight_146 (lv_at hl 8 rfl) ?_
                        refine lv_iload hx hb dX10_isRight_148 (lv_at hl 9 rfl) ?_
                        refine lv_aload_n hx hb dX10_isRight_150 rfl (lv_at hl 2 rfl) ?_
                        refine gs_get (C := RX10) (T := TX10) (N := 59) hx hb hts inX10 hown hK hM 0 0 21 (by decide) rfl rfl (by decide) (hts _ gm_918) (fun _ h9 => h9) rfl dX10_isRight_151 ?_
                        refine lv_iload hx hb dX10_isRight_154 (lv_at hl 0 rfl) ?_
                        refine gs_iald hx hb hK hM 9 0 (by decide) rfl (vp_in_iff.mpr ⟨by omega, by omega⟩) dX10_isRight_156 ?_
                        refine lv_topi (fun x_72 ex_72 => ?_)
                        have qx_72 : x_72.toInt = (st 9 0 (y7_0.toNatClampNeg)).toInt := congrArg Int32.toInt ex_72
                        have bx_72 : (0 : Int) ≤ x_72.toInt ∧ x_72.toInt ≤ (5 : Int) := by rw [qx_72]; exact hB_st.1 9 0 (y7_0.toNatClampNeg)
                        refine lv_iadd hx hb dX10_isRight_157 ?_
                        refine lv_topi (fun x_73 ex_73 => ?_)
                        try have tx_73 : x_73.toInt = 0 + x_72.toInt := by rw [ex_73]; exact gz_addI (x := 0) (y := x_72.toInt) (by decide) rfl (by omega) (by omega)
                        refine gs_iald hx hb hK hM 5 0 (by decide) rfl (vp_in_iff.mpr ⟨by omega, by omega⟩) dX10_isRight_158 ?_
                        refine lv_topi (fun x_74 ex_74 => ?_)
                        have qx_74 : x_74.toInt = (st 5 0 (x_73.toNatClampNeg)).toInt := congrArg Int32.toInt ex_74
                        refine lv_if_ne (tgt := 183) hx hb dX10_isRight_159 (by decide) (fun c_75 => ?_) (fun c_75 => ?_)
                        · have ic_75 := gz_ne (rfl : x_74.toInt = x_74.toInt) (by decide : (0 : Int32).toInt = 0) c_75
                          obtain ⟨x_76, ex_76⟩ : ∃ y : Int32, y = y7_0 + 1 := ⟨_, rfl⟩
                          try have tx_76 : x_76.toInt = y7_0.toInt + 1 := by rw [ex_76]; exact gz_addP (x := y7_0.toInt) (y := 1) rfl (by decide) (by omega) (by omega)
                          refine lv_iinc (v := (x_76)) (lv' := [(9, .int x_76), (8, .int x_3), (0, .ref (ad 0 0)), (1, .int x), (2, .int y), (3, .ref (ad 6 0)), (4, .int f), (5, .int 200), (6, .ref (ad 5 0)), (7, .int 0)]) hx hb dX10_isRight_183 hl (k := 0) rfl (by rw [ex_76]; rfl) (by decide) rfl (fun ls hl => ?_)
                          refine lv_goto (tgt := 28) hx hb dX10_isRight_186 (by decide) ?_
                          exact ih_7  (x_76 : Int32) H _ ls (by omega)  (by have hb0 : (0 : Int) ≤ (st 0 0 28).toInt ∧ (st 0 0 28).toInt ≤ (1 : Int) := hB_st.1 0 0 28; omega) hM hS (lv_sub hl [0, 1, 2, 3, 4, 5, 6, 7, 8, 9] rfl)
                        · have ic_75 := gz_eqn (rfl : x_74.toInt = x_74.toInt) (by decide : (0 : Int32).toInt = 0) c_75
                          refine lv_aload_n hx hb dX10_isRight_162 rfl (lv_at hl 5 rfl) ?_
                          refine lv_iload hx hb dX10_isRight_163 (lv_at hl 6 rfl) ?_
                          refine lv_iload hx hb dX10_isRight_165 (lv_at hl 7 rfl) ?_
                          refine lv_aload_n hx hb dX10_isRight_167 rfl (lv_at hl 2 rfl) ?_
                          refine gs_get (C := RX10) (T := TX10) (N := 59) hx hb hts inX10 hown hK hM 0 0 21 (by decide) rfl rfl (by decide) (hts _ gm_918) (fun _ h9 => h9) rfl dX10_isRight_168 ?_
                          refine lv_iload hx hb dX10_isRight_171 (lv_at hl 0 rfl) ?_
                          refine gs_iald hx hb hK hM 9 0 (by decide) rfl (vp_in_iff.mpr ⟨by omega, by omega⟩) dX10_isRight_173 ?_
                          refine lv_topi (fun x_77 ex_77 => ?_)
                          have qx_77 : x_77.toInt = (st 9 0 (y7_0.toNatClampNeg)).toInt := congrArg Int32.toInt ex_77
                          have bx_77 : (0 : Int) ≤ x_77.toInt ∧ x_77.toInt ≤ (5 : Int) := by rw [qx_77]; exact hB_st.1 9 0 (y7_0.toNatClampNeg)
                          refine lv_imul hx hb dX10_isRight_174 ?_
                          refine lv_topi (fun x_78 ex_78 => ?_)
                          try have tx_78 : x_78.toInt = 200 * x_77.toInt := by rw [ex_78]; exact gz_mulI (x := 200) (y := x_77.toInt) (by decide) rfl (by omega) (by omega)
                          refine lv_iadd hx hb dX10_isRight_175 ?_
                          refine lv_topi (fun x_79 ex_79 => ?_)
                          try have tx_79 : x_79.toInt = f.toInt + x_78.toInt := by rw [ex_79]; exact gz_addI (x := f.toInt) (y := x_78.toInt) rfl rfl (by omega) (by omega)
                          refine gs_iald hx hb hK hM 6 0 (by decide) rfl (vp_in_iff.mpr ⟨by omega, by omega⟩) dX10_isRight_176 ?_
                          refine lv_topi (fun x_80 ex_80 => ?_)
                          have qx_80 : x_80.toInt = (st 6 0 (x_79.toNatClampNeg)).toInt := congrArg Int32.toInt ex_80
                          refine lv_iload_n hx hb dX10_isRight_177 rfl (lv_at hl 4 rfl) ?_
                          refine lv_icmp_ne (tgt := 183) hx hb dX10_isRight_178 (by decide) (fun c_81 => ?_) (fun c_81 => ?_)
                          · have ic_81 := gz_ne (rfl : x_80.toInt = x_80.toInt) (rfl : y.toInt = y.toInt) c_81
                            obtain ⟨x_82, ex_82⟩ : ∃ y : Int32, y = y7_0 + 1 := ⟨_, rfl⟩
                            try have tx_82 : x_82.toInt = y7_0.toInt + 1 := by rw [ex_82]; exact gz_addP (x := y7_0.toInt) (y := 1) rfl (by decide) (by omega) (by omega)
                            refine lv_iinc (v := (x_82)) (lv' := [(9, .int x_82), (8, .int x_3), (0, .ref (ad 0 0)), (1, .int x), (2, .int y), (3, .ref (ad 6 0)), (4, .int f), (5, .int 200), (6, .ref (ad 5 0)), (7, .int 0)]) hx hb dX10_isRight_183 hl (k := 0) rfl (by rw [ex_82]; rfl) (by decide) rfl (fun ls hl => ?_)
                            refine lv_goto (tgt := 28) hx hb dX10_isRight_186 (by decide) ?_
                            exact ih_7  (x_82 : Int32) H _ ls (by omega)  (by have hb0 : (0 : Int) ≤ (st 0 0 28).toInt ∧ (st 0 0 28).toInt ≤ (1 : Int) := hB_st.1 0 0 28; omega) hM hS (lv_sub hl [0, 1, 2, 3, 4, 5, 6, 7, 8, 9] rfl)
                          · have ic_81 := gz_eqn (rfl : x_80.toInt = x_80.toInt) (rfl : y.toInt = y.toInt) c_81
                            refine lv_iconst (v := 1) hx hb dX10_isRight_181 (by decide) ?_
                            rw [← hQe]
                            exact gs_iret hx hb hr hlocks hM hS (by decide) ⟨hB_st, (Or.inl rfl)⟩ (by exact Nat.le_refl _) (by exact Nat.le_refl _) dX10_isRight_182
                · have ic_61 := gz_eqn (rfl : x_60.toInt = x_60.toInt) (rfl : y.toInt = y.toInt) c_61
                  refine lv_aload_n hx hb dX10_isRight_95 rfl (lv_at hl 2 rfl) ?_
                  refine gs_get (C := RX10) (T := TX10) (N := 59) hx hb hts inX10 hown hK hM 0 0 21 (by decide) rfl rfl (by decide) (hts _ gm_918) (fun _ h9 => h9) rfl dX10_isRight_96 ?_
                  refine lv_iload hx hb dX10_isRight_99 (lv_at hl 0 rfl) ?_
                  refine gs_iald hx hb hK hM 9 0 (by decide) rfl (vp_in_iff.mpr ⟨by omega, by omega⟩) dX10_isRight_101 ?_
                  refine lv_topi (fun x_83 ex_83 => ?_)
                  have qx_83 : x_83.toInt = (st 9 0 (y7_0.toNatClampNeg)).toInt := congrArg Int32.toInt ex_83
                  have bx_83 : (0 : Int) ≤ x_83.toInt ∧ x_83.toInt ≤ (5 : Int) := by rw [qx_83]; exact hB_st.1 9 0 (y7_0.toNatClampNeg)
                  refine lv_iload hx hb dX10_isRight_102 (lv_at hl 1 rfl) ?_
                  refine lv_icmp_ne (tgt := 109) hx hb dX10_isRight_104 (by decide) (fun c_84 => ?_) (fun c_84 => ?_)
                  · have ic_84 := gz_ne (rfl : x_83.toInt = x_83.toInt) (rfl : x_3.toInt = x_3.toInt) c_84
                    refine lv_aload_n hx hb dX10_isRight_109 rfl (lv_at hl 2 rfl) ?_
                    refine gs_get (C := RX10) (T := TX10) (N := 59) hx hb hts inX10 hown hK hM 0 0 20 (by decide) rfl rfl (by decide) (hts _ gm_917) (fun _ h9 => h9) rfl dX10_isRight_110 ?_
                    refine lv_iload hx hb dX10_isRight_113 (lv_at hl 0 rfl) ?_
                    refine gs_iald hx hb hK hM 8 0 (by decide) rfl (vp_in_iff.mpr ⟨by omega, by omega⟩) dX10_isRight_115 ?_
                    refine lv_topi (fun x_85 ex_85 => ?_)
                    have qx_85 : x_85.toInt = (st 8 0 (y7_0.toNatClampNeg)).toInt := congrArg Int32.toInt ex_85
                    refine lv_iconst (v := 4) hx hb dX10_isRight_116 (by decide) ?_
                    refine lv_icmp_ne (tgt := 183) hx hb dX10_isRight_117 (by decide) (fun c_86 => ?_) (fun c_86 => ?_)
                    · have ic_86 := gz_ne (rfl : x_85.toInt = x_85.toInt) (by decide : (4 : Int32).toInt = 4) c_86
                      obtain ⟨x_87, ex_87⟩ : ∃ y : Int32, y = y7_0 + 1 := ⟨_, rfl⟩
                      try have tx_87 : x_87.toInt = y7_0.toInt + 1 := by rw [ex_87]; exact gz_addP (x := y7_0.toInt) (y := 1) rfl (by decide) (by omega) (by omega)
                      refine lv_iinc (v := (x_87)) (lv' := [(9, .int x_87), (8, .int x_3), (0, .ref (ad 0 0)), (1, .int x), (2, .int y), (3, .ref (ad 6 0)), (4, .int f), (5, .int 200), (6, .ref (ad 5 0)), (7, .int 0)]) hx hb dX10_isRight_183 hl (k := 0) rfl (by rw [ex_87]; rfl) (by decide) rfl (fun ls hl => ?_)
                      refine lv_goto (tgt := 28) hx hb dX10_isRight_186 (by decide) ?_
                      exact ih_7  (x_87 : Int32) H _ ls (by omega)  (by have hb0 : (0 : Int) ≤ (st 0 0 28).toInt ∧ (st 0 0 28).toInt ≤ (1 : Int) := hB_st.1 0 0 28; omega) hM hS (lv_sub hl [0, 1, 2, 3, 4, 5, 6, 7, 8, 9] rfl)
                    · have ic_86 := gz_eqn (rfl : x_85.toInt = x_85.toInt) (by decide : (4 : Int32).toInt = 4) c_86
                      refine lv_aload_n hx hb dX10_isRight_120 rfl (lv_at hl 2 rfl) ?_
                      refine gs_get (C := RX10) (T := TX10) (N := 59) hx hb hts inX10 hown hK hM 0 0 22 (by decide) rfl rfl (by decide) (hts _ gm_919) (fun _ h9 => h9) rfl dX10_isRight_121 ?_
                      refine lv_iload hx hb dX10_isRight_124 (lv_at hl 0 rfl) ?_
                      refine gs_iald hx hb hK hM 10 0 (by decide) rfl (vp_in_iff.mpr ⟨by omega, by omega⟩) dX10_isRight_126 ?_
                      refine lv_topi (fun x_88 ex_88 => ?_)
                      have qx_88 : x_88.toInt = (st 10 0 (y7_0.toNatClampNeg)).toInt := congrArg Int32.toInt ex_88
                      refine lv_iload_n hx hb dX10_isRight_127 rfl (lv_at hl 3 rfl) ?_
                      refine lv_icmp_ne (tgt := 183) hx hb dX10_isRight_128 (by decide) (fun c_89 => ?_) (fun c_89 => ?_)
                      · have ic_89 := gz_ne (rfl : x_88.toInt = x_88.toInt) (rfl : x.toInt = x.toInt) c_89
                        obtain ⟨x_90, ex_90⟩ : ∃ y : Int32, y = y7_0 + 1 := ⟨_, rfl⟩
                        try have tx_90 : x_90.toInt = y7_0.toInt + 1 := by rw [ex_90]; exact gz_addP (x := y7_0.toInt) (y := 1) rfl (by decide) (by omega) (by omega)
                        refine lv_iinc (v := (x_90)) (lv' := [(9, .int x_90), (8, .int x_3), (0, .ref (ad 0 0)), (1, .int x), (2, .int y), (3, .ref (ad 6 0)), (4, .int f), (5, .int 200), (6, .ref (ad 5 0)), (7, .int 0)]) hx hb dX10_isRight_183 hl (k := 0) rfl (by rw [ex_90]; rfl) (by decide) rfl (fun ls hl => ?_)
                        refine lv_goto (tgt := 28) hx hb dX10_isRight_186 (by decide) ?_
                        exact ih_7  (x_90 : Int32) H _ ls (by omega)  (by have hb0 : (0 : Int) ≤ (st 0 0 28).toInt ∧ (st 0 0 28).toInt ≤ (1 : Int) := hB_st.1 0 0 28; omega) hM hS (lv_sub hl [0, 1, 2, 3, 4, 5, 6, 7, 8, 9] rfl)
                      · have ic_89 := gz_eqn (rfl : x_88.toInt = x_88.toInt) (rfl : x.toInt = x.toInt) c_89
                        refine lv_aload_n hx hb dX10_isRight_131 rfl (lv_at hl 2 rfl) ?_
                        refine gs_get (C := RX10) (T := TX10) (N := 59) hx hb hts inX10 hown hK hM 0 0 1 (by decide) rfl rfl (by decide) (hts _ gm_898) (fun _ h9 => h9) rfl dX10_isRight_132 ?_
                        refine lv_aload_n hx hb dX10_isRight_135 rfl (lv_at hl 2 rfl) ?_
                        refine gs_get (C := RX10) (T := TX10) (N := 59) hx hb hts inX10 hown hK hM 0 0 21 (by decide) rfl rfl (by decide) (hts _ gm_918) (fun _ h9 => h9) rfl dX10_isRight_136 ?_
                        refine lv_iload hx hb dX10_isRight_139 (lv_at hl 0 rfl) ?_
                        refine gs_iald hx hb hK hM 9 0 (by decide) rfl (vp_in_iff.mpr ⟨by omega, by omega⟩) dX10_isRight_141 ?_
                        refine lv_topi (fun x_91 ex_91 => ?_)
                        have qx_91 : x_91.toInt = (st 9 0 (y7_0.toNatClampNeg)).toInt := congrArg Int32.toInt ex_91
                        have bx_91 : (0 : Int) ≤ x_91.toInt ∧ x_91.toInt ≤ (5 : Int) := by rw [qx_91]; exact hB_st.1 9 0 (y7_0.toNatClampNeg)
                        refine gs_zald hx hb hK hM 1 0 (by decide) rfl (vp_in_iff.mpr ⟨by omega, by omega⟩) dX10_isRight_142 ?_
                        refine lv_topi (fun x_92 ex_92 => ?_)
                        have qx_92 : x_92.toInt = (st 1 0 (x_91.toNatClampNeg)).toInt := congrArg Int32.toInt ex_92
                        refine lv_if_eq (tgt := 183) hx hb dX10_isRight_143 (by decide) (fun c_93 => ?_) (fun c_93 => ?_)
                        · have ic_93 := gz_eq (rfl : x_92.toInt = x_92.toInt) (by decide : (0 : Int32).toInt = 0) c_93
                          obtain ⟨x_94, ex_94⟩ : ∃ y : Int32, y = y7_0 + 1 := ⟨_, rfl⟩
                          try have tx_94 : x_94.toInt = y7_0.toInt + 1 := by rw [ex_94]; exact gz_addP (x := y7_0.toInt) (y := 1) rfl (by decide) (by omega) (by omega)
                          refine lv_iinc (v := (x_94)) (lv' := [(9, .int x_94), (8, .int x_3), (0, .ref (ad 0 0)), (1, .int x), (2, .int y), (3, .ref (ad 6 0)), (4, .int f), (5, .int 200), (6, .ref (ad 5 0)), (7, .int 0)]) hx hb dX10_isRight_183 hl (k := 0) rfl (by rw [ex_94]; rfl) (by decide) rfl (fun ls hl => ?_)
                          refine lv_goto (tgt := 28) hx hb dX10_isRight_186 (by decide) ?_
                          exact ih_7  (x_94 : Int32) H _ ls (by omega)  (by have hb0 : (0 : Int) ≤ (st 0 0 28).toInt ∧ (st 0 0 28).toInt ≤ (1 : Int) := hB_st.1 0 0 28; omega) hM hS (lv_sub hl [0, 1, 2, 3, 4, 5, 6, 7, 8, 9] rfl)
                        · have ic_93 := gz_ne (rfl : x_92.toInt = x_92.toInt) (by decide : (0 : Int32).toInt = 0) c_93
                          refine lv_aload hx hb dX10_isRight_146 (lv_at hl 8 rfl) ?_
                          refine lv_iload hx hb dX10_isRight_148 (lv_at hl 9 rfl) ?_
                          refine lv_aload_n hx hb dX10_isRight_150 rfl (lv_at hl 2 rfl) ?_
                          refine gs_get (C := RX10) (T := TX10) (N := 59) hx hb hts inX10 hown hK hM 0 0 21 (by decide) rfl rfl (by decide) (hts _ gm_918) (fun _ h9 => h9) rfl dX10_isRight_151 ?_
                          refine lv_iload hx hb dX10_isRight_154 (lv_at hl 0 rfl) ?_
                          refine gs_iald hx hb hK hM 9 0 (by decide) rfl (vp_in_iff.mpr ⟨by omega, by omega⟩) dX10_isRight_156 ?_
                          refine lv_topi (fun x_95 ex_95 => ?_)
                          have qx_95 : x_95.toInt = (st 9 0 (y7_0.toNatClampNeg)).toInt := congrArg Int32.toInt ex_95
                          have bx_95 : (0 : Int) ≤ x_95.toInt ∧ x_95.toInt ≤ (5 : Int) := by rw [qx_95]; exact hB_st.1 9 0 (y7_0.toNatClampNeg)
                          refine lv_iadd hx hb dX10_isRight_157 ?_
                          refine lv_topi (fun x_96 ex_96 => ?_)
                          try have tx_96 : x_96.toInt = 0 + x_95.toInt := by rw [ex_96]; exact gz_addI (x := 0) (y := x_95.toInt) (by decide) rfl (by omega) (by omega)
                          refine gs_iald hx hb hK hM 5 0 (by decide) rfl (vp_in_iff.mpr ⟨by omega, by omega⟩) dX10_isRight_158 ?_
                          refine lv_topi (fun x_97 ex_97 => ?_)
                          have qx_97 : x_97.toInt = (st 5 0 (x_96.toNatClampNeg)).toInt := congrArg Int32.toInt ex_97
                          refine lv_if_ne (tgt := 183) hx hb dX10_isRight_159 (by decide) (fun c_98 => ?_) (fun c_98 => ?_)
                          · have ic_98 := gz_ne (rfl : x_97.toInt = x_97.toInt) (by decide : (0 : Int32).toInt = 0) c_98
                            obtain ⟨x_99, ex_99⟩ : ∃ y : Int32, y = y7_0 + 1 := ⟨_, rfl⟩
                            try have tx_99 : x_99.toInt = y7_0.toInt + 1 := by rw [ex_99]; exact gz_addP (x := y7_0.toInt) (y := 1) rfl (by decide) (by omega) (by omega)
                            refine lv_iinc (v := (x_99)) (lv' := [(9, .int x_99), (8, .int x_3), (0, .ref (ad 0 0)), (1, .int x), (2, .int y), (3, .ref (ad 6 0)), (4, .int f), (5, .int 200), (6, .ref (ad 5 0)), (7, .int 0)]) hx hb dX10_isRight_183 hl (k := 0) rfl (by rw [ex_99]; rfl) (by decide) rfl (fun ls hl => ?_)
                            refine lv_goto (tgt := 28) hx hb dX10_isRight_186 (by decide) ?_
                            exact ih_7  (x_99 : Int32) H _ ls (by omega)  (by have hb0 : (0 : Int) ≤ (st 0 0 28).toInt ∧ (st 0 0 28).toInt ≤ (1 : Int) := hB_st.1 0 0 28; omega) hM hS (lv_sub hl [0, 1, 2, 3, 4, 5, 6, 7, 8, 9] rfl)
                          · have ic_98 := gz_eqn (rfl : x_97.toInt = x_97.toInt) (by decide : (0 : Int32).toInt = 0) c_98
                            refine lv_aload_n hx hb dX10_isRight_162 rfl (lv_at hl 5 rfl) ?_
                            refine lv_iload hx hb dX10_isRight_163 (lv_at hl 6 rfl) ?_
                            refine lv_iload hx hb dX10_isRight_165 (lv_at hl 7 rfl) ?_
                            refine lv_aload_n hx hb dX10_isRight_167 rfl (lv_at hl 2 rfl) ?_
                            refine gs_get (C := RX10) (T := TX10) (N := 59) hx hb hts inX10 hown hK hM 0 0 21 (by decide) rfl rfl (by decide) (hts _ gm_918) (fun _ h9 => h9) rfl dX10_isRight_168 ?_
                            refine lv_iload hx hb dX10_isRight_171 (lv_at hl 0 rfl) ?_
                            refine gs_iald hx hb hK hM 9 0 (by decide) rfl (vp_in_iff.mpr ⟨by omega, by omega⟩) dX10_isRight_173 ?_
                            refine lv_topi (fun x_100 ex_100 => ?_)
                            have qx_100 : x_100.toInt = (st 9 0 (y7_0.toNatClampNeg)).toInt := congrArg Int32.toInt ex_100
                            have bx_100 : (0 : Int) ≤ x_100.toInt ∧ x_100.toInt ≤ (5 : Int) := by rw [qx_100]; exact hB_st.1 9 0 (y7_0.toNatClampNeg)
                            refine lv_imul hx hb dX10_isRight_174 ?_
                            refine lv_topi (fun x_101 ex_101 => ?_)
                            try have tx_101 : x_101.toInt = 200 * x_100.toInt := by rw [ex_101]; exact gz_mulI (x := 200) (y := x_100.toInt) (by decide) rfl (by omega) (by omega)
                            refine lv_iadd hx hb dX10_isRight_175 ?_
                            refine lv_topi (fun x_102 ex_102 => ?_)
                            try have tx_102 : x_102.toInt = f.toInt + x_101.toInt := by rw [ex_102]; exact gz_addI (x := f.toInt) (y := x_101.toInt) rfl rfl (by omega) (by omega)
                            refine gs_iald hx hb hK hM 6 0 (by decide) rfl (vp_in_iff.mpr ⟨by omega, by omega⟩) dX10_isRight_176 ?_
                            refine lv_topi (fun x_103 ex_103 => ?_)
                            have qx_103 : x_103.toInt = (st 6 0 (x_102.toNatClampNeg)).toInt := congrArg Int32.toInt ex_103
                            refine lv_iload_n hx hb dX10_isRight_177 rfl (lv_at hl 4 rfl) ?_
                            refine lv_icmp_ne (tgt := 183) hx hb dX10_isRight_178 (by decide) (fun c_104 => ?_) (fun c_104 => ?_)
                            · have ic_104 := gz_ne (rfl : x_103.toInt = x_103.toInt) (rfl : y.toInt = y.toInt) c_104
                              obtain ⟨x_105, ex_105⟩ : ∃ y : Int32, y = y7_0 + 1 := ⟨_, rfl⟩
                              try have tx_105 : x_105.toInt = y7_0.toInt + 1 := by rw [ex_105]; exact gz_addP (x := y7_0.toInt) (y := 1) rfl (by decide) (by omega) (by omega)
                              refine lv_iinc (v := (x_105)) (lv' := [(9, .int x_105), (8, .int x_3), (0, .ref (ad 0 0)), (1, .int x), (2, .int y), (3, .ref (ad 6 0)), (4, .int f), (5, .int 200), (6, .ref (ad 5 0)), (7, .int 0)]) hx hb dX10_isRight_183 hl (k := 0) rfl (by rw [ex_105]; rfl) (by decide) rfl (fun ls hl => ?_)
                              refine lv_goto (tgt := 28) hx hb dX10_isRight_186 (by decide) ?_
                              exact ih_7  (x_105 : Int32) H _ ls (by omega)  (by have hb0 : (0 : Int) ≤ (st 0 0 28).toInt ∧ (st 0 0 28).toInt ≤ (1 : Int) := hB_st.1 0 0 28; omega) hM hS (lv_sub hl [0, 1, 2, 3, 4, 5, 6, 7, 8, 9] rfl)
                            · have ic_104 := gz_eqn (rfl : x_103.toInt = x_103.toInt) (rfl : y.toInt = y.toInt) c_104
                              refine lv_iconst (v := 1) hx hb dX10_isRight_181 (by decide) ?_
                              rw [← hQe]
                              exact gs_iret hx hb hr hlocks hM hS (by decide) ⟨hB_st, (Or.inl rfl)⟩ (by exact Nat.le_refl _) (by exact Nat.le_refl _) dX10_isRight_182
                  · have ic_84 := gz_eqn (rfl : x_83.toInt = x_83.toInt) (rfl : x_3.toInt = x_3.toInt) c_84
                    refine lv_iconst (v := 1) hx hb dX10_isRight_107 (by decide) ?_
                    rw [← hQe]
                    exact gs_iret hx hb hr hlocks hM hS (by decide) ⟨hB_st, (Or.inl rfl)⟩ (by exact Nat.le_refl _) (by exact Nat.le_refl _) dX10_isRight_108
              · have ic_59 := gz_eqn (rfl : x_58.toInt = x_58.toInt) (rfl : y.toInt = y.toInt) c_59
                refine lv_aload_n hx hb dX10_isRight_72 rfl (lv_at hl 2 rfl) ?_
                refine gs_get (C := RX10) (T := TX10) (N := 59) hx hb hts inX10 hown hK hM 0 0 22 (by decide) rfl rfl (by decide) (hts _ gm_919) (fun _ h9 => h9) rfl dX10_isRight_73 ?_
                refine lv_iload hx hb dX10_isRight_76 (lv_at hl 0 rfl) ?_
                refine gs_iald hx hb hK hM 10 0 (by decide) rfl (vp_in_iff.mpr ⟨by omega, by omega⟩) dX10_isRight_78 ?_
                refine lv_topi (fun x_106 ex_106 => ?_)
                have qx_106 : x_106.toInt = (st 10 0 (y7_0.toNatClampNeg)).toInt := congrArg Int32.toInt ex_106
                refine lv_iload hx hb dX10_isRight_79 (lv_at hl 1 rfl) ?_
                refine lv_icmp_eq (tgt := 107) hx hb dX10_isRight_81 (by decide) (fun c_107 => ?_) (fun c_107 => ?_)
                · have ic_107 := gz_eq (rfl : x_106.toInt = x_106.toInt) (rfl : x_3.toInt = x_3.toInt) c_107
                  refine lv_iconst (v := 1) hx hb dX10_isRight_107 (by decide) ?_
                  rw [← hQe]
                  exact gs_iret hx hb hr hlocks hM hS (by decide) ⟨hB_st, (Or.inl rfl)⟩ (by exact Nat.le_refl _) (by exact Nat.le_refl _) dX10_isRight_108
                · have ic_107 := gz_ne (rfl : x_106.toInt = x_106.toInt) (rfl : x_3.toInt = x_3.toInt) c_107
                  refine lv_aload_n hx hb dX10_isRight_84 rfl (lv_at hl 2 rfl) ?_
                  refine gs_get (C := RX10) (T := TX10) (N := 59) hx hb hts inX10 hown hK hM 0 0 22 (by decide) rfl rfl (by decide) (hts _ gm_919) (fun _ h9 => h9) rfl dX10_isRight_85 ?_
                  refine lv_iload hx hb dX10_isRight_88 (lv_at hl 0 rfl) ?_
                  refine gs_iald hx hb hK hM 10 0 (by decide) rfl (vp_in_iff.mpr ⟨by omega, by omega⟩) dX10_isRight_90 ?_
                  refine lv_topi (fun x_108 ex_108 => ?_)
                  have qx_108 : x_108.toInt = (st 10 0 (y7_0.toNatClampNeg)).toInt := congrArg Int32.toInt ex_108
                  refine lv_iload_n hx hb dX10_isRight_91 rfl (lv_at hl 4 rfl) ?_
                  refine lv_icmp_ne (tgt := 109) hx hb dX10_isRight_92 (by decide) (fun c_109 => ?_) (fun c_109 => ?_)
                  · have ic_109 := gz_ne (rfl : x_108.toInt = x_108.toInt) (rfl : y.toInt = y.toInt) c_109
                    refine lv_aload_n hx hb dX10_isRight_109 rfl (lv_at hl 2 rfl) ?_
                    refine gs_get (C := RX10) (T := TX10) (N := 59) hx hb hts inX10 hown hK hM 0 0 20 (by decide) rfl rfl (by decide) (hts _ gm_917) (fun _ h9 => h9) rfl dX10_isRight_110 ?_
                    refine lv_iload hx hb dX10_isRight_113 (lv_at hl 0 rfl) ?_
                    refine gs_iald hx hb hK hM 8 0 (by decide) rfl (vp_in_iff.mpr ⟨by omega, by omega⟩) dX10_isRight_115 ?_
                    refine lv_topi (fun x_110 ex_110 => ?_)
                    have qx_110 : x_110.toInt = (st 8 0 (y7_0.toNatClampNeg)).toInt := congrArg Int32.toInt ex_110
                    refine lv_iconst (v := 4) hx hb dX10_isRight_116 (by decide) ?_
                    refine lv_icmp_ne (tgt := 183) hx hb dX10_isRight_117 (by decide) (fun c_111 => ?_) (fun c_111 => ?_)
                    · have ic_111 := gz_ne (rfl : x_110.toInt = x_110.toInt) (by decide : (4 : Int32).toInt = 4) c_111
                      obtain ⟨x_112, ex_112⟩ : ∃ y : Int32, y = y7_0 + 1 := ⟨_, rfl⟩
                      try have tx_112 : x_112.toInt = y7_0.toInt + 1 := by rw [ex_112]; exact gz_addP (x := y7_0.toInt) (y := 1) rfl (by decide) (by omega) (by omega)
                      refine lv_iinc (v := (x_112)) (lv' := [(9, .int x_112), (8, .int x_3), (0, .ref (ad 0 0)), (1, .int x), (2, .int y), (3, .ref (ad 6 0)), (4, .int f), (5, .int 200), (6, .ref (ad 5 0)), (7, .int 0)]) hx hb dX10_isRight_183 hl (k := 0) rfl (by rw [ex_112]; rfl) (by decide) rfl (fun ls hl => ?_)
                      refine lv_goto (tgt := 28) hx hb dX10_isRight_186 (by decide) ?_
                      exact ih_7  (x_112 : Int32) H _ ls (by omega)  (by have hb0 : (0 : Int) ≤ (st 0 0 28).toInt ∧ (st 0 0 28).toInt ≤ (1 : Int) := hB_st.1 0 0 28; omega) hM hS (lv_sub hl [0, 1, 2, 3, 4, 5, 6, 7, 8, 9] rfl)
                    · have ic_111 := gz_eqn (rfl : x_110.toInt = x_110.toInt) (by decide : (4 : Int32).toInt = 4) c_111
                      refine lv_aload_n hx hb dX10_isRight_120 rfl (lv_at hl 2 rfl) ?_
                      refine gs_get (C := RX10) (T := TX10) (N := 59) hx hb hts inX10 hown hK hM 0 0 22 (by decide) rfl rfl (by decide) (hts _ gm_919) (fun _ h9 => h9) rfl dX10_isRight_121 ?_
                      refine lv_iload hx hb dX10_isRight_124 (lv_at hl 0 rfl) ?_
                      refine gs_iald hx hb hK hM 10 0 (by decide) rfl (vp_in_iff.mpr ⟨by omega, by omega⟩) dX10_isRight_126 ?_
                      refine lv_topi (fun x_113 ex_113 => ?_)
                      have qx_113 : x_113.toInt = (st 10 0 (y7_0.toNatClampNeg)).toInt := congrArg Int32.toInt ex_113
                      refine lv_iload_n hx hb dX10_isRight_127 rfl (lv_at hl 3 rfl) ?_
                      refine lv_icmp_ne (tgt := 183) hx hb dX10_isRight_128 (by decide) (fun c_114 => ?_) (fun c_114 => ?_)
                      · have ic_114 := gz_ne (rfl : x_113.toInt = x_113.toInt) (rfl : x.toInt = x.toInt) c_114
                        obtain ⟨x_115, ex_115⟩ : ∃ y : Int32, y = y7_0 + 1 := ⟨_, rfl⟩
                        try have tx_115 : x_115.toInt = y7_0.toInt + 1 := by rw [ex_115]; exact gz_addP (x := y7_0.toInt) (y := 1) rfl (by decide) (by omega) (by omega)
                        refine lv_iinc (v := (x_115)) (lv' := [(9, .int x_115), (8, .int x_3), (0, .ref (ad 0 0)), (1, .int x), (2, .int y), (3, .ref (ad 6 0)), (4, .int f), (5, .int 200), (6, .ref (ad 5 0)), (7, .int 0)]) hx hb dX10_isRight_183 hl (k := 0) rfl (by rw [ex_115]; rfl) (by decide) rfl (fun ls hl => ?_)
                        refine lv_goto (tgt := 28) hx hb dX10_isRight_186 (by decide) ?_
                        exact ih_7  (x_115 : Int32) H _ ls (by omega)  (by have hb0 : (0 : Int) ≤ (st 0 0 28).toInt ∧ (st 0 0 28).toInt ≤ (1 : Int) := hB_st.1 0 0 28; omega) hM hS (lv_sub hl [0, 1, 2, 3, 4, 5, 6, 7, 8, 9] rfl)
                      · have ic_114 := gz_eqn (rfl : x_113.toInt = x_113.toInt) (rfl : x.toInt = x.toInt) c_114
                        refine lv_aload_n hx hb dX10_isRight_131 rfl (lv_at hl 2 rfl) ?_
                        refine gs_get (C := RX10) (T := TX10) (N := 59) hx hb hts inX10 hown hK hM 0 0 1 (by decide) rfl rfl (by decide) (hts _ gm_898) (fun _ h9 => h9) rfl dX10_isRight_132 ?_
                        refine lv_aload_n hx hb dX10_isRight_135 rfl (lv_at hl 2 rfl) ?_
                        refine gs_get (C := RX10) (T := TX10) (N := 59) hx hb hts inX10 hown hK hM 0 0 21 (by decide) rfl rfl (by decide) (hts _ gm_918) (fun _ h9 => h9) rfl dX10_isRight_136 ?_
                        refine lv_iload hx hb dX10_isRight_139 (lv_at hl 0 rfl) ?_
                        refine gs_iald hx hb hK hM 9 0 (by decide) rfl (vp_in_iff.mpr ⟨by omega, by omega⟩) dX10_isRight_141 ?_
                        refine lv_topi (fun x_116 ex_116 => ?_)
                        have qx_116 : x_116.toInt = (st 9 0 (y7_0.toNatClampNeg)).toInt := congrArg Int32.toInt ex_116
                        have bx_116 : (0 : Int) ≤ x_116.toInt ∧ x_116.toInt ≤ (5 : Int) := by rw [qx_116]; exact hB_st.1 9 0 (y7_0.toNatClampNeg)
                        refine gs_zald hx hb hK hM 1 0 (by decide) rfl (vp_in_iff.mpr ⟨by omega, by omega⟩) dX10_isRight_142 ?_
                        refine lv_topi (fun x_117 ex_117 => ?_)
                        have qx_117 : x_117.toInt = (st 1 0 (x_116.toNatClampNeg)).toInt := congrArg Int32.toInt ex_117
                        refine lv_if_eq (tgt := 183) hx hb dX10_isRight_143 (by decide) (fun c_118 => ?_) (fun c_118 => ?_)
                        · have ic_118 := gz_eq (rfl : x_117.toInt = x_117.toInt) (by decide : (0 : Int32).toInt = 0) c_118
                          obtain ⟨x_119, ex_119⟩ : ∃ y : Int32, y = y7_0 + 1 := ⟨_, rfl⟩
                          try have tx_119 : x_119.toInt = y7_0.toInt + 1 := by rw [ex_119]; exact gz_addP (x := y7_0.toInt) (y := 1) rfl (by decide) (by omega) (by omega)
                          refine lv_iinc (v := (x_119)) (lv' := [(9, .int x_119), (8, .int x_3), (0, .ref (ad 0 0)), (1, .int x), (2, .int y), (3, .ref (ad 6 0)), (4, .int f), (5, .int 200), (6, .ref (ad 5 0)), (7, .int 0)]) hx hb dX10_isRight_183 hl (k := 0) rfl (by rw [ex_119]; rfl) (by decide) rfl (fun ls hl => ?_)
                          refine lv_goto (tgt := 28) hx hb dX10_isRight_186 (by decide) ?_
                          exact ih_7  (x_119 : Int32) H _ ls (by omega)  (by have hb0 : (0 : Int) ≤ (st 0 0 28).toInt ∧ (st 0 0 28).toInt ≤ (1 : Int) := hB_st.1 0 0 28; omega) hM hS (lv_sub hl [0, 1, 2, 3, 4, 5, 6, 7, 8, 9] rfl)
                        · have ic_118 := gz_ne (rfl : x_117.toInt = x_117.toInt) (by decide : (0 : Int32).toInt = 0) c_118
                          refine lv_aload hx hb dX10_isRight_146 (lv_at hl 8 rfl) ?_
                          refine lv_iload hx hb dX10_isRight_148 (lv_at hl 9 rfl) ?_
                          refine lv_aload_n hx hb dX10_isRight_150 rfl (lv_at hl 2 rfl) ?_
                          refine gs_get (C := RX10) (T := TX10) (N := 59) hx hb hts inX10 hown hK hM 0 0 21 (by decide) rfl rfl (by decide) (hts _ gm_918) (fun _ h9 => h9) rfl dX10_isRight_151 ?_
                          refine lv_iload hx hb dX10_isRight_154 (lv_at hl 0 rfl) ?_
                          refine gs_iald hx hb hK hM 9 0 (by decide) rfl (vp_in_iff.mpr ⟨by omega, by omega⟩) dX10_isRight_156 ?_
                          refine lv_topi (fun x_120 ex_120 => ?_)
                          have qx_120 : x_120.toInt = (st 9 0 (y7_0.toNatClampNeg)).toInt := congrArg Int32.toInt ex_120
                          have bx_120 : (0 : Int) ≤ x_120.toInt ∧ x_120.toInt ≤ (5 : Int) := by rw [qx_120]; exact hB_st.1 9 0 (y7_0.toNatClampNeg)
                          refine lv_iadd hx hb dX10_isRight_157 ?_
                          refine lv_topi (fun x_121 ex_121 => ?_)
                          try have tx_121 : x_121.toInt = 0 + x_120.toInt := by rw [ex_121]; exact gz_addI (x := 0) (y := x_120.toInt) (by decide) rfl (by omega) (by omega)
                          refine gs_iald hx hb hK hM 5 0 (by decide) rfl (vp_in_iff.mpr ⟨by omega, by omega⟩) dX10_isRight_158 ?_
                          refine lv_topi (fun x_122 ex_122 => ?_)
                          have qx_122 : x_122.toInt = (st 5 0 (x_121.toNatClampNeg)).toInt := congrArg Int32.toInt ex_122
                          refine lv_if_ne (tgt := 183) hx hb dX10_isRight_159 (by decide) (fun c_123 => ?_) (fun c_123 => ?_)
                          · have ic_123 := gz_ne (rfl : x_122.toInt = x_122.toInt) (by decide : (0 : Int32).toInt = 0) c_123
                            obtain ⟨x_124, ex_124⟩ : ∃ y : Int32, y = y7_0 + 1 := ⟨_, rfl⟩
                            try have tx_124 : x_124.toInt = y7_0.toInt + 1 := by rw [ex_124]; exact gz_addP (x := y7_0.toInt) (y := 1) rfl (by decide) (by omega) (by omega)
                            refine lv_iinc (v := (x_124)) (lv' := [(9, .int x_124), (8, .int x_3), (0, .ref (ad 0 0)), (1, .int x), (2, .int y), (3, .ref (ad 6 0)), (4, .int f), (5, .int 200), (6, .ref (ad 5 0)), (7, .int 0)]) hx hb dX10_isRight_183 hl (k := 0) rfl (by rw [ex_124]; rfl) (by decide) rfl (fun ls hl => ?_)
                            refine lv_goto (tgt := 28) hx hb dX10_isRight_186 (by decide) ?_
                            exact ih_7  (x_124 : Int32) H _ ls (by omega)  (by have hb0 : (0 : Int) ≤ (st 0 0 28).toInt ∧ (st 0 0 28).toInt ≤ (1 : Int) := hB_st.1 0 0 28; omega) hM hS (lv_sub hl [0, 1, 2, 3, 4, 5, 6, 7, 8, 9] rfl)
                          · have ic_123 := gz_eqn (rfl : x_122.toInt = x_122.toInt) (by decide : (0 : Int32).toInt = 0) c_123
                            refine lv_aload_n hx hb dX10_isRight_162 rfl (lv_at hl 5 rfl) ?_
                            refine lv_iload hx hb dX10_isRight_163 (lv_at hl 6 rfl) ?_
                            refine lv_iload hx hb dX10_isRight_165 (lv_at hl 7 rfl) ?_
                            refine lv_aload_n hx hb dX10_isRight_167 rfl (lv_at hl 2 rfl) ?_
                            refine gs_get (C := RX10) (T := TX10) (N := 59) hx hb hts inX10 hown hK hM 0 0 21 (by decide) rfl rfl (by decide) (hts _ gm_918) (fun _ h9 => h9) rfl dX10_isRight_168 ?_
                            refine lv_iload hx hb dX10_isRight_171 (lv_at hl 0 rfl) ?_
                            refine gs_iald hx hb hK hM 9 0 (by decide) rfl (vp_in_iff.mpr ⟨by omega, by omega⟩) dX10_isRight_173 ?_
                            refine lv_topi (fun x_125 ex_125 => ?_)
                            have qx_125 : x_125.toInt = (st 9 0 (y7_0.toNatClampNeg)).toInt := congrArg Int32.toInt ex_125
                            have bx_125 : (0 : Int) ≤ x_125.toInt ∧ x_125.toInt ≤ (5 : Int) := by rw [qx_125]; exact hB_st.1 9 0 (y7_0.toNatClampNeg)
                            refine lv_imul hx hb dX10_isRight_174 ?_
                            refine lv_topi (fun x_126 ex_126 => ?_)
                            try have tx_126 : x_126.toInt = 200 * x_125.toInt := by rw [ex_126]; exact gz_mulI (x := 200) (y := x_125.toInt) (by decide) rfl (by omega) (by omega)
                            refine lv_iadd hx hb dX10_isRight_175 ?_
                            refine lv_topi (fun x_127 ex_127 => ?_)
                            try have tx_127 : x_127.toInt = f.toInt + x_126.toInt := by rw [ex_127]; exact gz_addI (x := f.toInt) (y := x_126.toInt) rfl rfl (by omega) (by omega)
                            refine gs_iald hx hb hK hM 6 0 (by decide) rfl (vp_in_iff.mpr ⟨by omega, by omega⟩) dX10_isRight_176 ?_
                            refine lv_topi (fun x_128 ex_128 => ?_)
                            have qx_128 : x_128.toInt = (st 6 0 (x_127.toNatClampNeg)).toInt := congrArg Int32.toInt ex_128
                            refine lv_iload_n hx hb dX10_isRight_177 rfl (lv_at hl 4 rfl) ?_
                            refine lv_icmp_ne (tgt := 183) hx hb dX10_isRight_178 (by decide) (fun c_129 => ?_) (fun c_129 => ?_)
                            · have ic_129 := gz_ne (rfl : x_128.toInt = x_128.toInt) (rfl : y.toInt = y.toInt) c_129
                              obtain ⟨x_130, ex_130⟩ : ∃ y : Int32, y = y7_0 + 1 := ⟨_, rfl⟩
                              try have tx_130 : x_130.toInt = y7_0.toInt + 1 := by rw [ex_130]; exact gz_addP (x := y7_0.toInt) (y := 1) rfl (by decide) (by omega) (by omega)
                              refine lv_iinc (v := (x_130)) (lv' := [(9, .int x_130), (8, .int x_3), (0, .ref (ad 0 0)), (1, .int x), (2, .int y), (3, .ref (ad 6 0)), (4, .int f), (5, .int 200), (6, .ref (ad 5 0)), (7, .int 0)]) hx hb dX10_isRight_183 hl (k := 0) rfl (by rw [ex_130]; rfl) (by decide) rfl (fun ls hl => ?_)
                              refine lv_goto (tgt := 28) hx hb dX10_isRight_186 (by decide) ?_
                              exact ih_7  (x_130 : Int32) H _ ls (by omega)  (by have hb0 : (0 : Int) ≤ (st 0 0 28).toInt ∧ (st 0 0 28).toInt ≤ (1 : Int) := hB_st.1 0 0 28; omega) hM hS (lv_sub hl [0, 1, 2, 3, 4, 5, 6, 7, 8, 9] rfl)
                            · have ic_129 := gz_eqn (rfl : x_128.toInt = x_128.toInt) (rfl : y.toInt = y.toInt) c_129
                              refine lv_iconst (v := 1) hx hb dX10_isRight_181 (by decide) ?_
                              rw [← hQe]
                              exact gs_iret hx hb hr hlocks hM hS (by decide) ⟨hB_st, (Or.inl rfl)⟩ (by exact Nat.le_refl _) (by exact Nat.le_refl _) dX10_isRight_182
                  · have ic_109 := gz_eqn (rfl : x_108.toInt = x_108.toInt) (rfl : y.toInt = y.toInt) c_109
                    refine lv_aload_n hx hb dX10_isRight_95 rfl (lv_at hl 2 rfl) ?_
                    refine gs_get (C := RX10) (T := TX10) (N := 59) hx hb hts inX10 hown hK hM 0 0 21 (by decide) rfl rfl (by decide) (hts _ gm_918) (fun _ h9 => h9) rfl dX10_isRight_96 ?_
                    refine lv_iload hx hb dX10_isRight_99 (lv_at hl 0 rfl) ?_
                    refine gs_iald hx hb hK hM 9 0 (by decide) rfl (vp_in_iff.mpr ⟨by omega, by omega⟩) dX10_isRight_101 ?_
                    refine lv_topi (fun x_131 ex_131 => ?_)
                    have qx_131 : x_131.toInt = (st 9 0 (y7_0.toNatClampNeg)).toInt := congrArg Int32.toInt ex_131
                    have bx_131 : (0 : Int) ≤ x_131.toInt ∧ x_131.toInt ≤ (5 : Int) := by rw [qx_131]; exact hB_st.1 9 0 (y7_0.toNatClampNeg)
                    refine lv_iload hx hb dX10_isRight_102 (lv_at hl 1 rfl) ?_
                    refine lv_icmp_ne (tgt := 109) hx hb dX10_isRight_104 (by decide) (fun c_132 => ?_) (fun c_132 => ?_)
                    · have ic_132 := gz_ne (rfl : x_131.toInt = x_131.toInt) (rfl : x_3.toInt = x_3.toInt) c_132
                      refine lv_aload_n hx hb dX10_isRight_109 rfl (lv_at hl 2 rfl) ?_
                      refine gs_get (C := RX10) (T := TX10) (N := 59) hx hb hts inX10 hown hK hM 0 0 20 (by decide) rfl rfl (by decide) (hts _ gm_917) (fun _ h9 => h9) rfl dX10_isRight_110 ?_
                      refine lv_iload hx hb dX10_isRight_113 (lv_at hl 0 rfl) ?_
                      refine gs_iald hx hb hK hM 8 0 (by decide) rfl (vp_in_iff.mpr ⟨by omega, by omega⟩) dX10_isRight_115 ?_
                      refine lv_topi (fun x_133 ex_133 => ?_)
                      have qx_133 : x_133.toInt = (st 8 0 (y7_0.toNatClampNeg)).toInt := congrArg Int32.toInt ex_133
                      refine lv_iconst (v := 4) hx hb dX10_isRight_116 (by decide) ?_
                      refine lv_icmp_ne (tgt := 183) hx hb dX10_isRight_117 (by decide) (fun c_134 => ?_) (fun c_134 => ?_)
                      · have ic_134 := gz_ne (rfl : x_133.toInt = x_133.toInt) (by decide : (4 : Int32).toInt = 4) c_134
                        obtain ⟨x_135, ex_135⟩ : ∃ y : Int32, y = y7_0 + 1 := ⟨_, rfl⟩
                        try have tx_135 : x_135.toInt = y7_0.toInt + 1 := by rw [ex_135]; exact gz_addP (x := y7_0.toInt) (y := 1) rfl (by decide) (by omega) (by omega)
                        refine lv_iinc (v := (x_135)) (lv' := [(9, .int x_135), (8, .int x_3), (0, .ref (ad 0 0)), (1, .int x), (2, .int y), (3, .ref (ad 6 0)), (4, .int f), (5, .int 200), (6, .ref (ad 5 0)), (7, .int 0)]) hx hb dX10_isRight_183 hl (k := 0) rfl (by rw [ex_135]; rfl) (by decide) rfl (fun ls hl => ?_)
                        refine lv_goto (tgt := 28) hx hb dX10_isRight_186 (by decide) ?_
                        exact ih_7  (x_135 : Int32) H _ ls (by omega)  (by have hb0 : (0 : Int) ≤ (st 0 0 28).toInt ∧ (st 0 0 28).toInt ≤ (1 : Int) := hB_st.1 0 0 28; omega) hM hS (lv_sub hl [0, 1, 2, 3, 4, 5, 6, 7, 8, 9] rfl)
                      · have ic_134 := gz_eqn (rfl : x_133.toInt = x_133.toInt) (by decide : (4 : Int32).toInt = 4) c_134
                        refine lv_aload_n hx hb dX10_isRight_120 rfl (lv_at hl 2 rfl) ?_
                        refine gs_get (C := RX10) (T := TX10) (N := 59) hx hb hts inX10 hown hK hM 0 0 22 (by decide) rfl rfl (by decide) (hts _ gm_919) (fun _ h9 => h9) rfl dX10_isRight_121 ?_
                        refine lv_iload hx hb dX10_isRight_124 (lv_at hl 0 rfl) ?_
                        refine gs_iald hx hb hK hM 10 0 (by decide) rfl (vp_in_iff.mpr ⟨by omega, by omega⟩) dX10_isRight_126 ?_
                        refine lv_topi (fun x_136 ex_136 => ?_)
                        have qx_136 : x_136.toInt = (st 10 0 (y7_0.toNatClampNeg)).toInt := congrArg Int32.toInt ex_136
                        refine lv_iload_n hx hb dX10_isRight_127 rfl (lv_at hl 3 rfl) ?_
                        refine lv_icmp_ne (tgt := 183) hx hb dX10_isRight_128 (by decide) (fun c_137 => ?_) (fun c_137 => ?_)
                        · have ic_137 := gz_ne (rfl : x_136.toInt = x_136.toInt) (rfl : x.toInt = x.toInt) c_137
                          obtain ⟨x_138, ex_138⟩ : ∃ y : Int32, y = y7_0 + 1 := ⟨_, rfl⟩
                          try have tx_138 : x_138.toInt = y7_0.toInt + 1 := by rw [ex_138]; exact gz_addP (x := y7_0.toInt) (y := 1) rfl (by decide) (by omega) (by omega)
                          refine lv_iinc (v := (x_138)) (lv' := [(9, .int x_138), (8, .int x_3), (0, .ref (ad 0 0)), (1, .int x), (2, .int y), (3, .ref (ad 6 0)), (4, .int f), (5, .int 200), (6, .ref (ad 5 0)), (7, .int 0)]) hx hb dX10_isRight_183 hl (k := 0) rfl (by rw [ex_138]; rfl) (by decide) rfl (fun ls hl => ?_)
                          refine lv_goto (tgt := 28) hx hb dX10_isRight_186 (by decide) ?_
                          exact ih_7  (x_138 : Int32) H _ ls (by omega)  (by have hb0 : (0 : Int) ≤ (st 0 0 28).toInt ∧ (st 0 0 28).toInt ≤ (1 : Int) := hB_st.1 0 0 28; omega) hM hS (lv_sub hl [0, 1, 2, 3, 4, 5, 6, 7, 8, 9] rfl)
                        · have ic_137 := gz_eqn (rfl : x_136.toInt = x_136.toInt) (rfl : x.toInt = x.toInt) c_137
                          refine lv_aload_n hx hb dX10_isRight_131 rfl (lv_at hl 2 rfl) ?_
                          refine gs_get (C := RX10) (T := TX10) (N := 59) hx hb hts inX10 hown hK hM 0 0 1 (by decide) rfl rfl (by decide) (hts _ gm_898) (fun _ h9 => h9) rfl dX10_isRight_132 ?_
                          refine lv_aload_n hx hb dX10_isRight_135 rfl (lv_at hl 2 rfl) ?_
                          refine gs_get (C := RX10) (T := TX10) (N := 59) hx hb hts inX10 hown hK hM 0 0 21 (by decide) rfl rfl (by decide) (hts _ gm_918) (fun _ h9 => h9) rfl dX10_isRight_136 ?_
                          refine lv_iload hx hb dX10_isRight_139 (lv_at hl 0 rfl) ?_
                          refine gs_iald hx hb hK hM 9 0 (by decide) rfl (vp_in_iff.mpr ⟨by omega, by omega⟩) dX10_isRight_141 ?_
                          refine lv_topi (fun x_139 ex_139 => ?_)
                          have qx_139 : x_139.toInt = (st 9 0 (y7_0.toNatClampNeg)).toInt := congrArg Int32.toInt ex_139
                          have bx_139 : (0 : Int) ≤ x_139.toInt ∧ x_139.toInt ≤ (5 : Int) := by rw [qx_139]; exact hB_st.1 9 0 (y7_0.toNatClampNeg)
                          refine gs_zald hx hb hK hM 1 0 (by decide) rfl (vp_in_iff.mpr ⟨by omega, by omega⟩) dX10_isRight_142 ?_
                          refine lv_topi (fun x_140 ex_140 => ?_)
                          have qx_140 : x_140.toInt = (st 1 0 (x_139.toNatClampNeg)).toInt := congrArg Int32.toInt ex_140
                          refine lv_if_eq (tgt := 183) hx hb dX10_isRight_143 (by decide) (fun c_141 => ?_) (fun c_141 => ?_)
                          · have ic_141 := gz_eq (rfl : x_140.toInt = x_140.toInt) (by decide : (0 : Int32).toInt = 0) c_141
                            obtain ⟨x_142, ex_142⟩ : ∃ y : Int32, y = y7_0 + 1 := ⟨_, rfl⟩
                            try have tx_142 : x_142.toInt = y7_0.toInt + 1 := by rw [ex_142]; exact gz_addP (x := y7_0.toInt) (y := 1) rfl (by decide) (by omega) (by omega)
                            refine lv_iinc (v := (x_142)) (lv' := [(9, .int x_142), (8, .int x_3), (0, .ref (ad 0 0)), (1, .int x), (2, .int y), (3, .ref (ad 6 0)), (4, .int f), (5, .int 200), (6, .ref (ad 5 0)), (7, .int 0)]) hx hb dX10_isRight_183 hl (k := 0) rfl (by rw [ex_142]; rfl) (by decide) rfl (fun ls hl => ?_)
                            refine lv_goto (tgt := 28) hx hb dX10_isRight_186 (by decide) ?_
                            exact ih_7  (x_142 : Int32) H _ ls (by omega)  (by have hb0 : (0 : Int) ≤ (st 0 0 28).toInt ∧ (st 0 0 28).toInt ≤ (1 : Int) := hB_st.1 0 0 28; omega) hM hS (lv_sub hl [0, 1, 2, 3, 4, 5, 6, 7, 8, 9] rfl)
                          · have ic_141 := gz_ne (rfl : x_140.toInt = x_140.toInt) (by decide : (0 : Int32).toInt = 0) c_141
                            refine lv_aload hx hb dX10_isRight_146 (lv_at hl 8 rfl) ?_
                            refine lv_iload hx hb dX10_isRight_148 (lv_at hl 9 rfl) ?_
                            refine lv_aload_n hx hb dX10_isRight_150 rfl (lv_at hl 2 rfl) ?_
                            refine gs_get (C := RX10) (T := TX10) (N := 59) hx hb hts inX10 hown hK hM 0 0 21 (by decide) rfl rfl (by decide) (hts _ gm_918) (fun _ h9 => h9) rfl dX10_isRight_151 ?_
                            refine lv_iload hx hb dX10_isRight_154 (lv_at hl 0 rfl) ?_
                            refine gs_iald hx hb hK hM 9 0 (by decide) rfl (vp_in_iff.mpr ⟨by omega, by omega⟩) dX10_isRight_156 ?_
                            refine lv_topi (fun x_143 ex_143 => ?_)
                            have qx_143 : x_143.toInt = (st 9 0 (y7_0.toNatClampNeg)).toInt := congrArg Int32.toInt ex_143
                            have bx_143 : (0 : Int) ≤ x_143.toInt ∧ x_143.toInt ≤ (5 : Int) := by rw [qx_143]; exact hB_st.1 9 0 (y7_0.toNatClampNeg)
                            refine lv_iadd hx hb dX10_isRight_157 ?_
                            refine lv_topi (fun x_144 ex_144 => ?_)
                            try have tx_144 : x_144.toInt = 0 + x_143.toInt := by rw [ex_144]; exact gz_addI (x := 0) (y := x_143.toInt) (by decide) rfl (by omega) (by omega)
                            refine gs_iald hx hb hK hM 5 0 (by decide) rfl (vp_in_iff.mpr ⟨by omega, by omega⟩) dX10_isRight_158 ?_
                            refine lv_topi (fun x_145 ex_145 => ?_)
                            have qx_145 : x_145.toInt = (st 5 0 (x_144.toNatClampNeg)).toInt := congrArg Int32.toInt ex_145
                            refine lv_if_ne (tgt := 183) hx hb dX10_isRight_159 (by decide) (fun c_146 => ?_) (fun c_146 => ?_)
                            · have ic_146 := gz_ne (rfl : x_145.toInt = x_145.toInt) (by decide : (0 : Int32).toInt = 0) c_146
                              obtain ⟨x_147, ex_147⟩ : ∃ y : Int32, y = y7_0 + 1 := ⟨_, rfl⟩
                              try have tx_147 : x_147.toInt = y7_0.toInt + 1 := by rw [ex_147]; exact gz_addP (x := y7_0.toInt) (y := 1) rfl (by decide) (by omega) (by omega)
                              refine lv_iinc (v := (x_147)) (lv' := [(9, .int x_147), (8, .int x_3), (0, .ref (ad 0 0)), (1, .int x), (2, .int y), (3, .ref (ad 6 0)), (4, .int f), (5, .int 200), (6, .ref (ad 5 0)), (7, .int 0)]) hx hb dX10_isRight_183 hl (k := 0) rfl (by rw [ex_147]; rfl) (by decide) rfl (fun ls hl => ?_)
                              refine lv_goto (tgt := 28) hx hb dX10_isRight_186 (by decide) ?_
                              exact ih_7  (x_147 : Int32) H _ ls (by omega)  (by have hb0 : (0 : Int) ≤ (st 0 0 28).toInt ∧ (st 0 0 28).toInt ≤ (1 : Int) := hB_st.1 0 0 28; omega) hM hS (lv_sub hl [0, 1, 2, 3, 4, 5, 6, 7, 8, 9] rfl)
                            · have ic_146 := gz_eqn (rfl : x_145.toInt = x_145.toInt) (by decide : (0 : Int32).toInt = 0) c_146
                              refine lv_aload_n hx hb dX10_isRight_162 rfl (lv_at hl 5 rfl) ?_
                              refine lv_iload hx hb dX10_isRight_163 (lv_at hl 6 rfl) ?_
                              refine lv_iload hx hb dX10_isRight_165 (lv_at hl 7 rfl) ?_
                              refine lv_aload_n hx hb dX10_isRight_167 rfl (lv_at hl 2 rfl) ?_
                              refine gs_get (C := RX10) (T := TX10) (N := 59) hx hb hts inX10 hown hK hM 0 0 21 (by decide) rfl rfl (by decide) (hts _ gm_918) (fun _ h9 => h9) rfl dX10_isRight_168 ?_
                              refine lv_iload hx hb dX10_isRight_171 (lv_at hl 0 rfl) ?_
                              refine gs_iald hx hb hK hM 9 0 (by decide) rfl (vp_in_iff.mpr ⟨by omega, by omega⟩) dX10_isRight_173 ?_
                              refine lv_topi (fun x_148 ex_148 => ?_)
                              have qx_148 : x_148.toInt = (st 9 0 (y7_0.toNatClampNeg)).toInt := congrArg Int32.toInt ex_148
                              have bx_148 : (0 : Int) ≤ x_148.toInt ∧ x_148.toInt ≤ (5 : Int) := by rw [qx_148]; exact hB_st.1 9 0 (y7_0.toNatClampNeg)
                              refine lv_imul hx hb dX10_isRight_174 ?_
                              refine lv_topi (fun x_149 ex_149 => ?_)
                              try have tx_149 : x_149.toInt = 200 * x_148.toInt := by rw [ex_149]; exact gz_mulI (x := 200) (y := x_148.toInt) (by decide) rfl (by omega) (by omega)
                              refine lv_iadd hx hb dX10_isRight_175 ?_
                              refine lv_topi (fun x_150 ex_150 => ?_)
                              try have tx_150 : x_150.toInt = f.toInt + x_149.toInt := by rw [ex_150]; exact gz_addI (x := f.toInt) (y := x_149.toInt) rfl rfl (by omega) (by omega)
                              refine gs_iald hx hb hK hM 6 0 (by decide) rfl (vp_in_iff.mpr ⟨by omega, by omega⟩) dX10_isRight_176 ?_
                              refine lv_topi (fun x_151 ex_151 => ?_)
                              have qx_151 : x_151.toInt = (st 6 0 (x_150.toNatClampNeg)).toInt := congrArg Int32.toInt ex_151
                              refine lv_iload_n hx hb dX10_isRight_177 rfl (lv_at hl 4 rfl) ?_
                              refine lv_icmp_ne (tgt := 183) hx hb dX10_isRight_178 (by decide) (fun c_152 => ?_) (fun c_152 => ?_)
                              · have ic_152 := gz_ne (rfl : x_151.toInt = x_151.toInt) (rfl : y.toInt = y.toInt) c_152
                                obtain ⟨x_153, ex_153⟩ : ∃ y : Int32, y = y7_0 + 1 := ⟨_, rfl⟩
                                try have tx_153 : x_153.toInt = y7_0.toInt + 1 := by rw [ex_153]; exact gz_addP (x := y7_0.toInt) (y := 1) rfl (by decide) (by omega) (by omega)
                                refine lv_iinc (v := (x_153)) (lv' := [(9, .int x_153), (8, .int x_3), (0, .ref (ad 0 0)), (1, .int x), (2, .int y), (3, .ref (ad 6 0)), (4, .int f), (5, .int 200), (6, .ref (ad 5 0)), (7, .int 0)]) hx hb dX10_isRight_183 hl (k := 0) rfl (by rw [ex_153]; rfl) (by decide) rfl (fun ls hl => ?_)
                                refine lv_goto (tgt := 28) hx hb dX10_isRight_186 (by decide) ?_
                                exact ih_7  (x_153 : Int32) H _ ls (by omega)  (by have hb0 : (0 : Int) ≤ (st 0 0 28).toInt ∧ (st 0 0 28).toInt ≤ (1 : Int) := hB_st.1 0 0 28; omega) hM hS (lv_sub hl [0, 1, 2, 3, 4, 5, 6, 7, 8, 9] rfl)
                              · have ic_152 := gz_eqn (rfl : x_151.toInt = x_151.toInt) (rfl : y.toInt = y.toInt) c_152
                                refine lv_iconst (v := 1) hx hb dX10_isRight_181 (by decide) ?_
                                rw [← hQe]
                                exact gs_iret hx hb hr hlocks hM hS (by decide) ⟨hB_st, (Or.inl rfl)⟩ (by exact Nat.le_refl _) (by exact Nat.le_refl _) dX10_isRight_182
                    · have ic_132 := gz_eqn (rfl : x_131.toInt = x_131.toInt) (rfl : x_3.toInt = x_3.toInt) c_132
                      refine lv_iconst (v := 1) hx hb dX10_isRight_107 (by decide) ?_
                      rw [← hQe]
                      exact gs_iret hx hb hr hlocks hM hS (by decide) ⟨hB_st, (Or.inl rfl)⟩ (by exact Nat.le_refl _) (by exact Nat.le_refl _) dX10_isRight_108
    exact lp7 ((48 - (x_6 : Int32).toInt).toNat + 1)  (x_6 : Int32) H _ ls (Nat.lt_succ_self _)  (by have hb0 : (0 : Int) ≤ (st 0 0 28).toInt ∧ (st 0 0 28).toInt ≤ (1 : Int) := hB_st.1 0 0 28; omega) hM hS (lv_sub hl [0, 1, 2, 3, 4, 5, 6, 7, 8, 9] rfl)
  · have ic_4 := gz_eqn (rfl : x_3.toInt = x_3.toInt) (rfl : y.toInt = y.toInt) c_4
    refine lv_iconst (v := 1) hx hb dX10_isRight_17 (by decide) ?_
    rw [← hQe]
    exact gs_iret hx hb hr hlocks hM hS (by decide) ⟨hB_st, (Or.inl rfl)⟩ (by exact Nat.le_refl _) (by exact Nat.le_refl _) dX10_isRight_18

set_option maxHeartbeats 4000000 in
set_option maxRecDepth 100000 in
/-- WellCourtModel.isRight -/
theorem m_isRightB (l : Launch) (G : va_G) (cy : Nat → ClassId) (sK sV : Nat → Nat) (ad : Nat → Nat → Nat) (sz : Nat) (st : gS) (hB : gBd bM st) (x : Int32) (y : Int32) (f : Int32) (g : Int32) (Xx : Int) (Xy : Int) (Xf : Int) (Xg : Int) (kx : x.toInt = Xx) (ky : y.toInt = Xy) (kf : f.toInt = Xf) (kg : g.toInt = Xg) (hx0 : 0 ≤ Xx) (hx1 : Xx < 6) (hf0 : 0 ≤ Xf) (hf1 : Xf ≤ 336) (hg0 : 0 ≤ Xg) (hg1 : Xg ≤ 336) : gsMi l yX10_isRight cX10_isRight 10 (some .boolean) ({ frames := 0, cells := 0, slots := 0, locals := 0 } : Room) G cy sK sV (shM cy ad) cnM ad sz [.ref (ad 0 0), .int x, .int y, .ref (ad 36 0), .int f, .int 1, .ref (ad 35 0), .int g] st (fun (r : Int32) (u : gS) => gBN bM kM [] st u ∧ ((r = 1) ∨ (r = 0))) := by
  refine gs_start (fun A => gsQi G (shM cy ad) cnM ad _ A) (by decide) (Nat.le_of_ble_eq_true rfl) ?_
  intro p e s m below meth c A ls H hx hb hr hml hlocks hown hts hK hov hE hI hM hm hS hA hl
  have hl : lv_has ls 10 [(0, .ref (ad 0 0)), (1, .int x), (2, .int y), (3, .ref (ad 36 0)), (4, .int f), (5, .int 1), (6, .ref (ad 35 0)), (7, .int g)] := hl
  have hB_st : gBN bM kM [] st st := gBN.rf hB
  have bb1 : (0 : Int) ≤ (st 0 0 28).toInt ∧ (st 0 0 28).toInt ≤ (1 : Int) := hB 0 0 28
  have bb2 : (0 : Int) ≤ (st 0 0 29).toInt ∧ (st 0 0 29).toInt ≤ (20 : Int) := hB 0 0 29
  have bb3 : (0 : Int) ≤ (st 0 0 30).toInt ∧ (st 0 0 30).toInt ≤ (20 : Int) := hB 0 0 30
  generalize hQe : MQ below _ _ s _ _ A = Q
  refine lv_aload_n hx hb dX10_isRight_0 rfl (lv_at hl 3 rfl) ?_
  refine lv_iload hx hb dX10_isRight_1 (lv_at hl 4 rfl) ?_
  refine lv_iload hx hb dX10_isRight_3 (lv_at hl 5 rfl) ?_
  refine lv_iload_n hx hb dX10_isRight_5 rfl (lv_at hl 1 rfl) ?_
  refine lv_imul hx hb dX10_isRight_6 ?_
  refine lv_topi (fun x_1 ex_1 => ?_)
  try have tx_1 : x_1.toInt = 1 * x.toInt := by rw [ex_1]; exact gz_mulI (x := 1) (y := x.toInt) (by decide) rfl (by omega) (by omega)
  refine lv_iadd hx hb dX10_isRight_7 ?_
  refine lv_topi (fun x_2 ex_2 => ?_)
  try have tx_2 : x_2.toInt = f.toInt + x_1.toInt := by rw [ex_2]; exact gz_addI (x := f.toInt) (y := x_1.toInt) rfl rfl (by omega) (by omega)
  refine gs_iald hx hb hK hM 36 0 (by decide) rfl (vp_in_iff.mpr ⟨by omega, by omega⟩) dX10_isRight_8 ?_
  refine lv_topi (fun x_3 ex_3 => ?_)
  have qx_3 : x_3.toInt = (st 36 0 (x_2.toNatClampNeg)).toInt := congrArg Int32.toInt ex_3
  refine lv_istore (lv' := [(8, .int x_3), (0, .ref (ad 0 0)), (1, .int x), (2, .int y), (3, .ref (ad 36 0)), (4, .int f), (5, .int 1), (6, .ref (ad 35 0)), (7, .int g)]) hx hb dX10_isRight_9 hl (by decide) rfl (fun ls hl => ?_)
  refine lv_iload hx hb dX10_isRight_11 (lv_at hl 0 rfl) ?_
  refine lv_iload_n hx hb dX10_isRight_13 rfl (lv_at hl 3 rfl) ?_
  refine lv_icmp_ne (tgt := 19) hx hb dX10_isRight_14 (by decide) (fun c_4 => ?_) (fun c_4 => ?_)
  · have ic_4 := gz_ne (rfl : x_3.toInt = x_3.toInt) (rfl : y.toInt = y.toInt) c_4
    refine lv_bipush (v := 24) hx hb dX10_isRight_19 (by decide) ?_
    refine lv_aload_n hx hb dX10_isRight_21 rfl (lv_at hl 1 rfl) ?_
    refine gs_get (C := RX10) (T := TX10) (N := 59) hx hb hts inX10 hown hK hM 0 0 28 (by decide) rfl rfl (by decide) (hts _ gm_925) (fun _ h9 => h9) rfl dX10_isRight_22 ?_
    have bf_5 : (0 : Int) ≤ (st 0 0 28).toInt ∧ (st 0 0 28).toInt ≤ (1 : Int) := hB_st.1 0 0 28
    refine lv_imul hx hb dX10_isRight_25 ?_
    refine lv_topi (fun x_6 ex_6 => ?_)
    try have tx_6 : x_6.toInt = 24 * (st 0 0 28).toInt := by rw [ex_6]; exact gz_mulI (x := 24) (y := (st 0 0 28).toInt) (by decide) rfl (by omega) (by omega)
    refine lv_istore (lv' := [(9, .int x_6), (8, .int x_3), (0, .ref (ad 0 0)), (1, .int x), (2, .int y), (3, .ref (ad 36 0)), (4, .int f), (5, .int 1), (6, .ref (ad 35 0)), (7, .int g)]) hx hb dX10_isRight_26 hl (by decide) rfl (fun ls hl => ?_)
    have lp7 : ∀ (n7 : Nat)  (y7_0 : Int32) (H : Heap) (locs : List Loc) (ls : Array Slot), (48 - y7_0.toInt).toNat < n7 →  (24 * (st 0 0 28).toInt ≤ y7_0.toInt) → gM G (shM cy ad) cnM ad st H → va_S A s.heap H locs → lv_has ls 10 [(9, .int y7_0), (8, .int x_3), (0, .ref (ad 0 0)), (1, .int x), (2, .int y), (3, .ref (ad 36 0)), (4, .int f), (5, .int 1), (6, .ref (ad 35 0)), (7, .int g)] → W p l e ({ frames := 0, cells := 0, slots := 0, locals := 0 } : Room) s m [.ref (ad 0 0), .int x, .int y, .ref (ad 36 0), .int f, .int 1, .ref (ad 35 0), .int g].toArray below meth c H locs 0 0 Q (F0 m 28 ls []) := by
      intro n7
      induction n7 with
      | zero => intro  y7_0 H locs ls h9; exact absurd h9 (Nat.not_lt_zero _)
      | succ n7 ih_7 =>
        intro  y7_0 H locs ls hme7  hv7_0 hM hS hl
        have hb7_0 : (0 : Int) ≤ (st 0 0 28).toInt ∧ (st 0 0 28).toInt ≤ (1 : Int) := hB_st.1 0 0 28
        refine lv_iload hx hb dX10_isRight_28 (lv_at hl 0 rfl) ?_
        refine lv_bipush (v := 24) hx hb dX10_isRight_30 (by decide) ?_
        refine lv_aload_n hx hb dX10_isRight_32 rfl (lv_at hl 2 rfl) ?_
        refine gs_get (C := RX10) (T := TX10) (N := 59) hx hb hts inX10 hown hK hM 0 0 28 (by decide) rfl rfl (by decide) (hts _ gm_925) (fun _ h9 => h9) rfl dX10_isRight_33 ?_
        have bf_8 : (0 : Int) ≤ (st 0 0 28).toInt ∧ (st 0 0 28).toInt ≤ (1 : Int) := hB_st.1 0 0 28
        refine lv_imul hx hb dX10_isRight_36 ?_
        refine lv_topi (fun x_9 ex_9 => ?_)
        try have tx_9 : x_9.toInt = 24 * (st 0 0 28).toInt := by rw [ex_9]; exact gz_mulI (x := 24) (y := (st 0 0 28).toInt) (by decide) rfl (by omega) (by omega)
        refine lv_aload_n hx hb dX10_isRight_37 rfl (lv_at hl 2 rfl) ?_
        refine gs_get (C := RX10) (T := TX10) (N := 59) hx hb hts inX10 hown hK hM 0 0 29 (by decide) rfl rfl (by decide) (hts _ gm_926) (fun _ h9 => h9) rfl dX10_isRight_38 ?_
        have bf_10 : (0 : Int) ≤ (st 0 0 29).toInt ∧ (st 0 0 29).toInt ≤ (20 : Int) := hB_st.1 0 0 29
        refine lv_iadd hx hb dX10_isRight_41 ?_
        refine lv_topi (fun x_11 ex_11 => ?_)
        try have tx_11 : x_11.toInt = x_9.toInt + (st 0 0 29).toInt := by rw [ex_11]; exact gz_addI (x := x_9.toInt) (y := (st 0 0 29).toInt) rfl rfl (by omega) (by omega)
        refine lv_icmp_ge (tgt := 189) hx hb dX10_isRight_42 (by decide) (fun c_12 => ?_) (fun c_12 => ?_)
        · have ic_12 := gz_le (rfl : x_11.toInt = x_11.toInt) (rfl : y7_0.toInt = y7_0.toInt) c_12
          refine lv_iconst (v := 0) hx hb dX10_isRight_189 (by decide) ?_
          rw [← hQe]
          exact gs_iret hx hb hr hlocks hM hS (by decide) ⟨hB_st, (Or.inr (rfl))⟩ (by exact Nat.le_refl _) (by exact Nat.le_refl _) dX10_isRight_190
        · have ic_12 := gz_nle (rfl : x_11.toInt = x_11.toInt) (rfl : y7_0.toInt = y7_0.toInt) c_12
          have lc_12 := gi_hi x_11
          refine lv_aload_n hx hb dX10_isRight_45 rfl (lv_at hl 2 rfl) ?_
          refine gs_get (C := RX10) (T := TX10) (N := 59) hx hb hts inX10 hown hK hM 0 0 20 (by decide) rfl rfl (by decide) (hts _ gm_917) (fun _ h9 => h9) rfl dX10_isRight_46 ?_
          refine lv_iload hx hb dX10_isRight_49 (lv_at hl 0 rfl) ?_
          refine gs_iald hx hb hK hM 8 0 (by decide) rfl (vp_in_iff.mpr ⟨by omega, by omega⟩) dX10_isRight_51 ?_
          refine lv_topi (fun x_13 ex_13 => ?_)
          have qx_13 : x_13.toInt = (st 8 0 (y7_0.toNatClampNeg)).toInt := congrArg Int32.toInt ex_13
          refine lv_iconst (v := 2) hx hb dX10_isRight_52 (by decide) ?_
          refine lv_icmp_ne (tgt := 109) hx hb dX10_isRight_53 (by decide) (fun c_14 => ?_) (fun c_14 => ?_)
          · have ic_14 := gz_ne (rfl : x_13.toInt = x_13.toInt) (by decide : (2 : Int32).toInt = 2) c_14
            refine lv_aload_n hx hb dX10_isRight_109 rfl (lv_at hl 2 rfl) ?_
            refine gs_get (C := RX10) (T := TX10) (N := 59) hx hb hts inX10 hown hK hM 0 0 20 (by decide) rfl rfl (by decide) (hts _ gm_917) (fun _ h9 => h9) rfl dX10_isRight_110 ?_
            refine lv_iload hx hb dX10_isRight_113 (lv_at hl 0 rfl) ?_
            refine gs_iald hx hb hK hM 8 0 (by decide) rfl (vp_in_iff.mpr ⟨by omega, by omega⟩) dX10_isRight_115 ?_
            refine lv_topi (fun x_15 ex_15 => ?_)
            have qx_15 : x_15.toInt = (st 8 0 (y7_0.toNatClampNeg)).toInt := congrArg Int32.toInt ex_15
            refine lv_iconst (v := 4) hx hb dX10_isRight_116 (by decide) ?_
            refine lv_icmp_ne (tgt := 183) hx hb dX10_isRight_117 (by decide) (fun c_16 => ?_) (fun c_16 => ?_)
            · have ic_16 := gz_ne (rfl : x_15.toInt = x_15.toInt) (by decide : (4 : Int32).toInt = 4) c_16
              obtain ⟨x_17, ex_17⟩ : ∃ y : Int32, y = y7_0 + 1 := ⟨_, rfl⟩
              try have tx_17 : x_17.toInt = y7_0.toInt + 1 := by rw [ex_17]; exact gz_addP (x := y7_0.toInt) (y := 1) rfl (by decide) (by omega) (by omega)
              refine lv_iinc (v := (x_17)) (lv' := [(9, .int x_17), (8, .int x_3), (0, .ref (ad 0 0)), (1, .int x), (2, .int y), (3, .ref (ad 36 0)), (4, .int f), (5, .int 1), (6, .ref (ad 35 0)), (7, .int g)]) hx hb dX10_isRight_183 hl (k := 0) rfl (by rw [ex_17]; rfl) (by decide) rfl (fun ls hl => ?_)
              refine lv_goto (tgt := 28) hx hb dX10_isRight_186 (by decide) ?_
              exact ih_7  (x_17 : Int32) H _ ls (by omega)  (by have hb0 : (0 : Int) ≤ (st 0 0 28).toInt ∧ (st 0 0 28).toInt ≤ (1 : Int) := hB_st.1 0 0 28; omega) hM hS (lv_sub hl [0, 1, 2, 3, 4, 5, 6, 7, 8, 9] rfl)
            · have ic_16 := gz_eqn (rfl : x_15.toInt = x_15.toInt) (by decide : (4 : Int32).toInt = 4) c_16
              refine lv_aload_n hx hb dX10_isRight_120 rfl (lv_at hl 2 rfl) ?_
              refine gs_get (C := RX10) (T := TX10) (N := 59) hx hb hts inX10 hown hK hM 0 0 22 (by decide) rfl rfl (by decide) (hts _ gm_919) (fun _ h9 => h9) rfl dX10_isRight_121 ?_
              refine lv_iload hx hb dX10_isRight_124 (lv_at hl 0 rfl) ?_
              refine gs_iald hx hb hK hM 10 0 (by decide) rfl (vp_in_iff.mpr ⟨by omega, by omega⟩) dX10_isRight_126 ?_
              refine lv_topi (fun x_18 ex_18 => ?_)
              have qx_18 : x_18.toInt = (st 10 0 (y7_0.toNatClampNeg)).toInt := congrArg Int32.toInt ex_18
              refine lv_iload_n hx hb dX10_isRight_127 rfl (lv_at hl 3 rfl) ?_
              refine lv_icmp_ne (tgt := 183) hx hb dX10_isRight_128 (by decide) (fun c_19 => ?_) (fun c_19 => ?_)
              · have ic_19 := gz_ne (rfl : x_18.toInt = x_18.toInt) (rfl : x.toInt = x.toInt) c_19
                obtain ⟨x_20, ex_20⟩ : ∃ y : Int32, y = y7_0 + 1 := ⟨_, rfl⟩
                try have tx_20 : x_20.toInt = y7_0.toInt + 1 := by rw [ex_20]; exact gz_addP (x := y7_0.toInt) (y := 1) rfl (by decide) (by omega) (by omega)
                refine lv_iinc (v := (x_20)) (lv' := [(9, .int x_20), (8, .int x_3), (0, .ref (ad 0 0)), (1, .int x), (2, .int y), (3, .ref (ad 36 0)), (4, .int f), (5, .int 1), (6, .ref (ad 35 0)), (7, .int g)]) hx hb dX10_isRight_183 hl (k := 0) rfl (by rw [ex_20]; rfl) (by decide) rfl (fun ls hl => ?_)
                refine lv_goto (tgt := 28) hx hb dX10_isRight_186 (by decide) ?_
                exact ih_7  (x_20 : Int32) H _ ls (by omega)  (by have hb0 : (0 : Int) ≤ (st 0 0 28).toInt ∧ (st 0 0 28).toInt ≤ (1 : Int) := hB_st.1 0 0 28; omega) hM hS (lv_sub hl [0, 1, 2, 3, 4, 5, 6, 7, 8, 9] rfl)
              · have ic_19 := gz_eqn (rfl : x_18.toInt = x_18.toInt) (rfl : x.toInt = x.toInt) c_19
                refine lv_aload_n hx hb dX10_isRight_131 rfl (lv_at hl 2 rfl) ?_
                refine gs_get (C := RX10) (T := TX10) (N := 59) hx hb hts inX10 hown hK hM 0 0 1 (by decide) rfl rfl (by decide) (hts _ gm_898) (fun _ h9 => h9) rfl dX10_isRight_132 ?_
                refine lv_aload_n hx hb dX10_isRight_135 rfl (lv_at hl 2 rfl) ?_
                refine gs_get (C := RX10) (T := TX10) (N := 59) hx hb hts inX10 hown hK hM 0 0 21 (by decide) rfl rfl (by decide) (hts _ gm_918) (fun _ h9 => h9) rfl dX10_isRight_136 ?_
                refine lv_iload hx hb dX10_isRight_139 (lv_at hl 0 rfl) ?_
                refine gs_iald hx hb hK hM 9 0 (by decide) rfl (vp_in_iff.mpr ⟨by omega, by omega⟩) dX10_isRight_141 ?_
                refine lv_topi (fun x_21 ex_21 => ?_)
                have qx_21 : x_21.toInt = (st 9 0 (y7_0.toNatClampNeg)).toInt := congrArg Int32.toInt ex_21
                have bx_21 : (0 : Int) ≤ x_21.toInt ∧ x_21.toInt ≤ (5 : Int) := by rw [qx_21]; exact hB_st.1 9 0 (y7_0.toNatClampNeg)
                refine gs_zald hx hb hK hM 1 0 (by decide) rfl (vp_in_iff.mpr ⟨by omega, by omega⟩) dX10_isRight_142 ?_
                refine lv_topi (fun x_22 ex_22 => ?_)
                have qx_22 : x_22.toInt = (st 1 0 (x_21.toNatClampNeg)).toInt := congrArg Int32.toInt ex_22
                refine lv_if_eq (tgt := 183) hx hb dX10_isRight_143 (by decide) (fun c_23 => ?_) (fun c_23 => ?_)
                · have ic_23 := gz_eq (rfl : x_22.toInt = x_22.toInt) (by decide : (0 : Int32).toInt = 0) c_23
                  obtain ⟨x_24, ex_24⟩ : ∃ y : Int32, y = y7_0 + 1 := ⟨_, rfl⟩
                  try have tx_24 : x_24.toInt = y7_0.toInt + 1 := by rw [ex_24]; exact gz_addP (x := y7_0.toInt) (y := 1) rfl (by decide) (by omega) (by omega)
                  refine lv_iinc (v := (x_24)) (lv' := [(9, .int x_24), (8, .int x_3), (0, .ref (ad 0 0)), (1, .int x), (2, .int y), (3, .ref (ad 36 0)), (4, .int f), (5, .int 1), (6, .ref (ad 35 0)), (7, .int g)]) hx hb dX10_isRight_183 hl (k := 0) rfl (by rw [ex_24]; rfl) (by decide) rfl (fun ls hl => ?_)
                  refine lv_goto (tgt := 28) hx hb dX10_isRight_186 (by decide) ?_
                  exact ih_7  (x_24 : Int32) H _ ls (by omega)  (by have hb0 : (0 : Int) ≤ (st 0 0 28).toInt ∧ (st 0 0 28).toInt ≤ (1 : Int) := hB_st.1 0 0 28; omega) hM hS (lv_sub hl [0, 1, 2, 3, 4, 5, 6, 7, 8, 9] rfl)
                · have ic_23 := gz_ne (rfl : x_22.toInt = x_22.toInt) (by decide : (0 : Int32).toInt = 0) c_23
                  refine lv_aload hx hb dX10_isRight_146 (lv_at hl 8 rfl) ?_
                  refine lv_iload hx hb dX10_isRight_148 (lv_at hl 9 rfl) ?_
                  refine lv_aload_n hx hb dX10_isRight_150 rfl (lv_at hl 2 rfl) ?_
                  refine gs_get (C := RX10) (T := TX10) (N := 59) hx hb hts inX10 hown hK hM 0 0 21 (by decide) rfl rfl (by decide) (hts _ gm_918) (fun _ h9 => h9) rfl dX10_isRight_151 ?_
                  refine lv_iload hx hb dX10_isRight_154 (lv_at hl 0 rfl) ?_
                  refine gs_iald hx hb hK hM 9 0 (by decide) rfl (vp_in_iff.mpr ⟨by omega, by omega⟩) dX10_isRight_156 ?_
                  refine lv_topi (fun x_25 ex_25 => ?_)
                  have qx_25 : x_25.toInt = (st 9 0 (y7_0.toNatClampNeg)).toInt := congrArg Int32.toInt ex_25
                  have bx_25 : (0 : Int) ≤ x_25.toInt ∧ x_25.toInt ≤ (5 : Int) := by rw [qx_25]; exact hB_st.1 9 0 (y7_0.toNatClampNeg)
                  refine lv_iadd hx hb dX10_isRight_157 ?_
                  refine lv_topi (fun x_26 ex_26 => ?_)
                  try have tx_26 : x_26.toInt = g.toInt + x_25.toInt := by rw [ex_26]; exact gz_addI (x := g.toInt) (y := x_25.toInt) rfl rfl (by omega) (by omega)
                  refine gs_iald hx hb hK hM 35 0 (by decide) rfl (vp_in_iff.mpr ⟨by omega, by omega⟩) dX10_isRight_158 ?_
                  refine lv_topi (fun x_27 ex_27 => ?_)
                  have qx_27 : x_27.toInt = (st 35 0 (x_26.toNatClampNeg)).toInt := congrArg Int32.toInt ex_27
                  refine lv_if_ne (tgt := 183) hx hb dX10_isRight_159 (by decide) (fun c_28 => ?_) (fun c_28 => ?_)
                  · have ic_28 := gz_ne (rfl : x_27.toInt = x_27.toInt) (by decide : (0 : Int32).toInt = 0) c_28
                    obtain ⟨x_29, ex_29⟩ : ∃ y : Int32, y = y7_0 + 1 := ⟨_, rfl⟩
                    try have tx_29 : x_29.toInt = y7_0.toInt + 1 := by rw [ex_29]; exact gz_addP (x := y7_0.toInt) (y := 1) rfl (by decide) (by omega) (by omega)
                    refine lv_iinc (v := (x_29)) (lv' := [(9, .int x_29), (8, .int x_3), (0, .ref (ad 0 0)), (1, .int x), (2, .int y), (3, .ref (ad 36 0)), (4, .int f), (5, .int 1), (6, .ref (ad 35 0)), (7, .int g)]) hx hb dX10_isRight_183 hl (k := 0) rfl (by rw [ex_29]; rfl) (by decide) rfl (fun ls hl => ?_)
                    refine lv_goto (tgt := 28) hx hb dX10_isRight_186 (by decide) ?_
                    exact ih_7  (x_29 : Int32) H _ ls (by omega)  (by have hb0 : (0 : Int) ≤ (st 0 0 28).toInt ∧ (st 0 0 28).toInt ≤ (1 : Int) := hB_st.1 0 0 28; omega) hM hS (lv_sub hl [0, 1, 2, 3, 4, 5, 6, 7, 8, 9] rfl)
                  · have ic_28 := gz_eqn (rfl : x_27.toInt = x_27.toInt) (by decide : (0 : Int32).toInt = 0) c_28
                    refine lv_aload_n hx hb dX10_isRight_162 rfl (lv_at hl 5 rfl) ?_
                    refine lv_iload hx hb dX10_isRight_163 (lv_at hl 6 rfl) ?_
                    refine lv_iload hx hb dX10_isRight_165 (lv_at hl 7 rfl) ?_
                    refine lv_aload_n hx hb dX10_isRight_167 rfl (lv_at hl 2 rfl) ?_
                    refine gs_get (C := RX10) (T := TX10) (N := 59) hx hb hts inX10 hown hK hM 0 0 21 (by decide) rfl rfl (by decide) (hts _ gm_918) (fun _ h9 => h9) rfl dX10_isRight_168 ?_
                    refine lv_iload hx hb dX10_isRight_171 (lv_at hl 0 rfl) ?_
                    refine gs_iald hx hb hK hM 9 0 (by decide) rfl (vp_in_iff.mpr ⟨by omega, by omega⟩) dX10_isRight_173 ?_
                    refine lv_topi (fun x_30 ex_30 => ?_)
                    have qx_30 : x_30.toInt = (st 9 0 (y7_0.toNatClampNeg)).toInt := congrArg Int32.toInt ex_30
                    have bx_30 : (0 : Int) ≤ x_30.toInt ∧ x_30.toInt ≤ (5 : Int) := by rw [qx_30]; exact hB_st.1 9 0 (y7_0.toNatClampNeg)
                    refine lv_imul hx hb dX10_isRight_174 ?_
                    refine lv_topi (fun x_31 ex_31 => ?_)
                    try have tx_31 : x_31.toInt = 1 * x_30.toInt := by rw [ex_31]; exact gz_mulI (x := 1) (y := x_30.toInt) (by decide) rfl (by omega) (by omega)
                    refine lv_iadd hx hb dX10_isRight_175 ?_
                    refine lv_topi (fun x_32 ex_32 => ?_)
                    try have tx_32 : x_32.toInt = f.toInt + x_31.toInt := by rw [ex_32]; exact gz_addI (x := f.toInt) (y := x_31.toInt) rfl rfl (by omega) (by omega)
                    refine gs_iald hx hb hK hM 36 0 (by decide) rfl (vp_in_iff.mpr ⟨by omega, by omega⟩) dX10_isRight_176 ?_
                    refine lv_topi (fun x_33 ex_33 => ?_)
                    have qx_33 : x_33.toInt = (st 36 0 (x_32.toNatClampNeg)).toInt := congrArg Int32.toInt ex_33
                    refine lv_iload_n hx hb dX10_isRight_177 rfl (lv_at hl 4 rfl) ?_
                    refine lv_icmp_ne (tgt := 183) hx hb dX10_isRight_178 (by decide) (fun c_34 => ?_) (fun c_34 => ?_)
                    · have ic_34 := gz_ne (rfl : x_33.toInt = x_33.toInt) (rfl : y.toInt = y.toInt) c_34
                      obtain ⟨x_35, ex_35⟩ : ∃ y : Int32, y = y7_0 + 1 := ⟨_, rfl⟩
                      try have tx_35 : x_35.toInt = y7_0.toInt + 1 := by rw [ex_35]; exact gz_addP (x := y7_0.toInt) (y := 1) rfl (by decide) (by omega) (by omega)
                      refine lv_iinc (v := (x_35)) (lv' := [(9, .int x_35), (8, .int x_3), (0, .ref (ad 0 0)), (1, .int x), (2, .int y), (3, .ref (ad 36 0)), (4, .int f), (5, .int 1), (6, .ref (ad 35 0)), (7, .int g)]) hx hb dX10_isRight_183 hl (k := 0) rfl (by rw [ex_35]; rfl) (by decide) rfl (fun ls hl => ?_)
                      refine lv_goto (tgt := 28) hx hb dX10_isRight_186 (by decide) ?_
                      exact ih_7  (x_35 : Int32) H _ ls (by omega)  (by have hb0 : (0 : Int) ≤ (st 0 0 28).toInt ∧ (st 0 0 28).toInt ≤ (1 : Int) := hB_st.1 0 0 28; omega) hM hS (lv_sub hl [0, 1, 2, 3, 4, 5, 6, 7, 8, 9] rfl)
                    · have ic_34 := gz_eqn (rfl : x_33.toInt = x_33.toInt) (rfl : y.toInt = y.toInt) c_34
                      refine lv_iconst (v := 1) hx hb dX10_isRight_181 (by decide) ?_
                      rw [← hQe]
                      exact gs_iret hx hb hr hlocks hM hS (by decide) ⟨hB_st, (Or.inl rfl)⟩ (by exact Nat.le_refl _) (by exact Nat.le_refl _) dX10_isRight_182
          · have ic_14 := gz_eqn (rfl : x_13.toInt = x_13.toInt) (by decide : (2 : Int32).toInt = 2) c_14
            refine lv_iload hx hb dX10_isRight_56 (lv_at hl 1 rfl) ?_
            refine lv_if_lt (tgt := 109) hx hb dX10_isRight_58 (by decide) (fun c_36 => ?_) (fun c_36 => ?_)
            · have ic_36 := gz_lt (rfl : x_3.toInt = x_3.toInt) (by decide : (0 : Int32).toInt = 0) c_36
              refine lv_aload_n hx hb dX10_isRight_109 rfl (lv_at hl 2 rfl) ?_
              refine gs_get (C := RX10) (T := TX10) (N := 59) hx hb hts inX10 hown hK hM 0 0 20 (by decide) rfl rfl (by decide) (hts _ gm_917) (fun _ h9 => h9) rfl dX10_isRight_110 ?_
              refine lv_iload hx hb dX10_isRight_113 (lv_at hl 0 rfl) ?_
              refine gs_iald hx hb hK hM 8 0 (by decide) rfl (vp_in_iff.mpr ⟨by omega, by omega⟩) dX10_isRight_115 ?_
              refine lv_topi (fun x_37 ex_37 => ?_)
              have qx_37 : x_37.toInt = (st 8 0 (y7_0.toNatClampNeg)).toInt := congrArg Int32.toInt ex_37
              refine lv_iconst (v := 4) hx hb dX10_isRight_116 (by decide) ?_
              refine lv_icmp_ne (tgt := 183) hx hb dX10_isRight_117 (by decide) (fun c_38 => ?_) (fun c_38 => ?_)
              · have ic_38 := gz_ne (rfl : x_37.toInt = x_37.toInt) (by decide : (4 : Int32).toInt = 4) c_38
                obtain ⟨x_39, ex_39⟩ : ∃ y : Int32, y = y7_0 + 1 := ⟨_, rfl⟩
                try have tx_39 : x_39.toInt = y7_0.toInt + 1 := by rw [ex_39]; exact gz_addP (x := y7_0.toInt) (y := 1) rfl (by decide) (by omega) (by omega)
                refine lv_iinc (v := (x_39)) (lv' := [(9, .int x_39), (8, .int x_3), (0, .ref (ad 0 0)), (1, .int x), (2, .int y), (3, .ref (ad 36 0)), (4, .int f), (5, .int 1), (6, .ref (ad 35 0)), (7, .int g)]) hx hb dX10_isRight_183 hl (k := 0) rfl (by rw [ex_39]; rfl) (by decide) rfl (fun ls hl => ?_)
                refine lv_goto (tgt := 28) hx hb dX10_isRight_186 (by decide) ?_
                exact ih_7  (x_39 : Int32) H _ ls (by omega)  (by have hb0 : (0 : Int) ≤ (st 0 0 28).toInt ∧ (st 0 0 28).toInt ≤ (1 : Int) := hB_st.1 0 0 28; omega) hM hS (lv_sub hl [0, 1, 2, 3, 4, 5, 6, 7, 8, 9] rfl)
              · have ic_38 := gz_eqn (rfl : x_37.toInt = x_37.toInt) (by decide : (4 : Int32).toInt = 4) c_38
                refine lv_aload_n hx hb dX10_isRight_120 rfl (lv_at hl 2 rfl) ?_
                refine gs_get (C := RX10) (T := TX10) (N := 59) hx hb hts inX10 hown hK hM 0 0 22 (by decide) rfl rfl (by decide) (hts _ gm_919) (fun _ h9 => h9) rfl dX10_isRight_121 ?_
                refine lv_iload hx hb dX10_isRight_124 (lv_at hl 0 rfl) ?_
                refine gs_iald hx hb hK hM 10 0 (by decide) rfl (vp_in_iff.mpr ⟨by omega, by omega⟩) dX10_isRight_126 ?_
                refine lv_topi (fun x_40 ex_40 => ?_)
                have qx_40 : x_40.toInt = (st 10 0 (y7_0.toNatClampNeg)).toInt := congrArg Int32.toInt ex_40
                refine lv_iload_n hx hb dX10_isRight_127 rfl (lv_at hl 3 rfl) ?_
                refine lv_icmp_ne (tgt := 183) hx hb dX10_isRight_128 (by decide) (fun c_41 => ?_) (fun c_41 => ?_)
                · have ic_41 := gz_ne (rfl : x_40.toInt = x_40.toInt) (rfl : x.toInt = x.toInt) c_41
                  obtain ⟨x_42, ex_42⟩ : ∃ y : Int32, y = y7_0 + 1 := ⟨_, rfl⟩
                  try have tx_42 : x_42.toInt = y7_0.toInt + 1 := by rw [ex_42]; exact gz_addP (x := y7_0.toInt) (y := 1) rfl (by decide) (by omega) (by omega)
                  refine lv_iinc (v := (x_42)) (lv' := [(9, .int x_42), (8, .int x_3), (0, .ref (ad 0 0)), (1, .int x), (2, .int y), (3, .ref (ad 36 0)), (4, .int f), (5, .int 1), (6, .ref (ad 35 0)), (7, .int g)]) hx hb dX10_isRight_183 hl (k := 0) rfl (by rw [ex_42]; rfl) (by decide) rfl (fun ls hl => ?_)
                  refine lv_goto (tgt := 28) hx hb dX10_isRight_186 (by decide) ?_
                  exact ih_7  (x_42 : Int32) H _ ls (by omega)  (by have hb0 : (0 : Int) ≤ (st 0 0 28).toInt ∧ (st 0 0 28).toInt ≤ (1 : Int) := hB_st.1 0 0 28; omega) hM hS (lv_sub hl [0, 1, 2, 3, 4, 5, 6, 7, 8, 9] rfl)
                · have ic_41 := gz_eqn (rfl : x_40.toInt = x_40.toInt) (rfl : x.toInt = x.toInt) c_41
                  refine lv_aload_n hx hb dX10_isRight_131 rfl (lv_at hl 2 rfl) ?_
                  refine gs_get (C := RX10) (T := TX10) (N := 59) hx hb hts inX10 hown hK hM 0 0 1 (by decide) rfl rfl (by decide) (hts _ gm_898) (fun _ h9 => h9) rfl dX10_isRight_132 ?_
                  refine lv_aload_n hx hb dX10_isRight_135 rfl (lv_at hl 2 rfl) ?_
                  refine gs_get (C := RX10) (T := TX10) (N := 59) hx hb hts inX10 hown hK hM 0 0 21 (by decide) rfl rfl (by decide) (hts _ gm_918) (fun _ h9 => h9) rfl dX10_isRight_136 ?_
                  refine lv_iload hx hb dX10_isRight_139 (lv_at hl 0 rfl) ?_
                  refine gs_iald hx hb hK hM 9 0 (by decide) rfl (vp_in_iff.mpr ⟨by omega, by omega⟩) dX10_isRight_141 ?_
                  refine lv_topi (fun x_43 ex_43 => ?_)
                  have qx_43 : x_43.toInt = (st 9 0 (y7_0.toNatClampNeg)).toInt := congrArg Int32.toInt ex_43
                  have bx_43 : (0 : Int) ≤ x_43.toInt ∧ x_43.toInt ≤ (5 : Int) := by rw [qx_43]; exact hB_st.1 9 0 (y7_0.toNatClampNeg)
                  refine gs_zald hx hb hK hM 1 0 (by decide) rfl (vp_in_iff.mpr ⟨by omega, by omega⟩) dX10_isRight_142 ?_
                  refine lv_topi (fun x_44 ex_44 => ?_)
                  have qx_44 : x_44.toInt = (st 1 0 (x_43.toNatClampNeg)).toInt := congrArg Int32.toInt ex_44
                  refine lv_if_eq (tgt := 183) hx hb dX10_isRight_143 (by decide) (fun c_45 => ?_) (fun c_45 => ?_)
                  · have ic_45 := gz_eq (rfl : x_44.toInt = x_44.toInt) (by decide : (0 : Int32).toInt = 0) c_45
                    obtain ⟨x_46, ex_46⟩ : ∃ y : Int32, y = y7_0 + 1 := ⟨_, rfl⟩
                    try have tx_46 : x_46.toInt = y7_0.toInt + 1 := by rw [ex_46]; exact gz_addP (x := y7_0.toInt) (y := 1) rfl (by decide) (by omega) (by omega)
                    refine lv_iinc (v := (x_46)) (lv' := [(9, .int x_46), (8, .int x_3), (0, .ref (ad 0 0)), (1, .int x), (2, .int y), (3, .ref (ad 36 0)), (4, .int f), (5, .int 1), (6, .ref (ad 35 0)), (7, .int g)]) hx hb dX10_isRight_183 hl (k := 0) rfl (by rw [ex_46]; rfl) (by decide) rfl (fun ls hl => ?_)
                    refine lv_goto (tgt := 28) hx hb dX10_isRight_186 (by decide) ?_
                    exact ih_7  (x_46 : Int32) H _ ls (by omega)  (by have hb0 : (0 : Int) ≤ (st 0 0 28).toInt ∧ (st 0 0 28).toInt ≤ (1 : Int) := hB_st.1 0 0 28; omega) hM hS (lv_sub hl [0, 1, 2, 3, 4, 5, 6, 7, 8, 9] rfl)
                  · have ic_45 := gz_ne (rfl : x_44.toInt = x_44.toInt) (by decide : (0 : Int32).toInt = 0) c_45
                    refine lv_aload hx hb dX10_isRight_146 (lv_at hl 8 rfl) ?_
                    refine lv_iload hx hb dX10_isRight_148 (lv_at hl 9 rfl) ?_
                    refine lv_aload_n hx hb dX10_isRight_150 rfl (lv_at hl 2 rfl) ?_
                    refine gs_get (C := RX10) (T := TX10) (N := 59) hx hb hts inX10 hown hK hM 0 0 21 (by decide) rfl rfl (by decide) (hts _ gm_918) (fun _ h9 => h9) rfl dX10_isRight_151 ?_
                    refine lv_iload hx hb dX10_isRight_154 (lv_at hl 0 rfl) ?_
                    refine gs_iald hx hb hK hM 9 0 (by decide) rfl (vp_in_iff.mpr ⟨by omega, by omega⟩) dX10_isRight_156 ?_
                    refine lv_topi (fun x_47 ex_47 => ?_)
                    have qx_47 : x_47.toInt = (st 9 0 (y7_0.toNatClampNeg)).toInt := congrArg Int32.toInt ex_47
                    have bx_47 : (0 : Int) ≤ x_47.toInt ∧ x_47.toInt ≤ (5 : Int) := by rw [qx_47]; exact hB_st.1 9 0 (y7_0.toNatClampNeg)
                    refine lv_iadd hx hb dX10_isRight_157 ?_
                    refine lv_topi (fun x_48 ex_48 => ?_)
                    try have tx_48 : x_48.toInt = g.toInt + x_47.toInt := by rw [ex_48]; exact gz_addI (x := g.toInt) (y := x_47.toInt) rfl rfl (by omega) (by omega)
                    refine gs_iald hx hb hK hM 35 0 (by decide) rfl (vp_in_iff.mpr ⟨by omega, by omega⟩) dX10_isRight_158 ?_
                    refine lv_topi (fun x_49 ex_49 => ?_)
                    have qx_49 : x_49.toInt = (st 35 0 (x_48.toNatClampNeg)).toInt := congrArg Int32.toInt ex_49
                    refine lv_if_ne (tgt := 183) hx hb dX10_isRight_159 (by decide) (fun c_50 => ?_) (fun c_50 => ?_)
                    · have ic_50 := gz_ne (rfl : x_49.toInt = x_49.toInt) (by decide : (0 : Int32).toInt = 0) c_50
                      obtain ⟨x_51, ex_51⟩ : ∃ y : Int32, y = y7_0 + 1 := ⟨_, rfl⟩
                      try have tx_51 : x_51.toInt = y7_0.toInt + 1 := by rw [ex_51]; exact gz_addP (x := y7_0.toInt) (y := 1) rfl (by decide) (by omega) (by omega)
                      refine lv_iinc (v := (x_51)) (lv' := [(9, .int x_51), (8, .int x_3), (0, .ref (ad 0 0)), (1, .int x), (2, .int y), (3, .ref (ad 36 0)), (4, .int f), (5, .int 1), (6, .ref (ad 35 0)), (7, .int g)]) hx hb dX10_isRight_183 hl (k := 0) rfl (by rw [ex_51]; rfl) (by decide) rfl (fun ls hl => ?_)
                      refine lv_goto (tgt := 28) hx hb dX10_isRight_186 (by decide) ?_
                      exact ih_7  (x_51 : Int32) H _ ls (by omega)  (by have hb0 : (0 : Int) ≤ (st 0 0 28).toInt ∧ (st 0 0 28).toInt ≤ (1 : Int) := hB_st.1 0 0 28; omega) hM hS (lv_sub hl [0, 1, 2, 3, 4, 5, 6, 7, 8, 9] rfl)
                    · have ic_50 := gz_eqn (rfl : x_49.toInt = x_49.toInt) (by decide : (0 : Int32).toInt = 0) c_50
                      refine lv_aload_n hx hb dX10_isRight_162 rfl (lv_at hl 5 rfl) ?_
                      refine lv_iload hx hb dX10_isRight_163 (lv_at hl 6 rfl) ?_
                      refine lv_iload hx hb dX10_isRight_165 (lv_at hl 7 rfl) ?_
                      refine lv_aload_n hx hb dX10_isRight_167 rfl (lv_at hl 2 rfl) ?_
                      refine gs_get (C := RX10) (T := TX10) (N := 59) hx hb hts inX10 hown hK hM 0 0 21 (by decide) rfl rfl (by decide) (hts _ gm_918) (fun _ h9 => h9) rfl dX10_isRight_168 ?_
                      refine lv_iload hx hb dX10_isRight_171 (lv_at hl 0 rfl) ?_
                      refine gs_iald hx hb hK hM 9 0 (by decide) rfl (vp_in_iff.mpr ⟨by omega, by omega⟩) dX10_isRight_173 ?_
                      refine lv_topi (fun x_52 ex_52 => ?_)
                      have qx_52 : x_52.toInt = (st 9 0 (y7_0.toNatClampNeg)).toInt := congrArg Int32.toInt ex_52
                      have bx_52 : (0 : Int) ≤ x_52.toInt ∧ x_52.toInt ≤ (5 : Int) := by rw [qx_52]; exact hB_st.1 9 0 (y7_0.toNatClampNeg)
                      refine lv_imul hx hb dX10_isRight_174 ?_
                      refine lv_topi (fun x_53 ex_53 => ?_)
                      try have tx_53 : x_53.toInt = 1 * x_52.toInt := by rw [ex_53]; exact gz_mulI (x := 1) (y := x_52.toInt) (by decide) rfl (by omega) (by omega)
                      refine lv_iadd hx hb dX10_isRight_175 ?_
                      refine lv_topi (fun x_54 ex_54 => ?_)
                      try have tx_54 : x_54.toInt = f.toInt + x_53.toInt := by rw [ex_54]; exact gz_addI (x := f.toInt) (y := x_53.toInt) rfl rfl (by omega) (by omega)
                      refine gs_iald hx hb hK hM 36 0 (by decide) rfl (vp_in_iff.mpr ⟨by omega, by omega⟩) dX10_isRight_176 ?_
                      refine lv_topi (fun x_55 ex_55 => ?_)
                      have qx_55 : x_55.toInt = (st 36 0 (x_54.toNatClampNeg)).toInt := congrArg Int32.toInt ex_55
                      refine lv_iload_n hx hb dX10_isRight_177 rfl (lv_at hl 4 rfl) ?_
                      refine lv_icmp_ne (tgt := 183) hx hb dX10_isRight_178 (by decide) (fun c_56 => ?_) (fun c_56 => ?_)
                      · have ic_56 := gz_ne (rfl : x_55.toInt = x_55.toInt) (rfl : y.toInt = y.toInt) c_56
                        obtain ⟨x_57, ex_57⟩ : ∃ y : Int32, y = y7_0 + 1 := ⟨_, rfl⟩
                        try have tx_57 : x_57.toInt = y7_0.toInt + 1 := by rw [ex_57]; exact gz_addP (x := y7_0.toInt) (y := 1) rfl (by decide) (by omega) (by omega)
                        refine lv_iinc (v := (x_57)) (lv' := [(9, .int x_57), (8, .int x_3), (0, .ref (ad 0 0)), (1, .int x), (2, .int y), (3, .ref (ad 36 0)), (4, .int f), (5, .int 1), (6, .ref (ad 35 0)), (7, .int g)]) hx hb dX10_isRight_183 hl (k := 0) rfl (by rw [ex_57]; rfl) (by decide) rfl (fun ls hl => ?_)
                        refine lv_goto (tgt := 28) hx hb dX10_isRight_186 (by decide) ?_
                        exact ih_7  (x_57 : Int32) H _ ls (by omega)  (by have hb0 : (0 : Int) ≤ (st 0 0 28).toInt ∧ (st 0 0 28).toInt ≤ (1 : Int) := hB_st.1 0 0 28; omega) hM hS (lv_sub hl [0, 1, 2, 3, 4, 5, 6, 7, 8, 9] rfl)
                      · have ic_56 := gz_eqn (rfl : x_55.toInt = x_55.toInt) (rfl : y.toInt = y.toInt) c_56
                        refine lv_iconst (v := 1) hx hb dX10_isRight_181 (by decide) ?_
                        rw [← hQe]
                        exact gs_iret hx hb hr hlocks hM hS (by decide) ⟨hB_st, (Or.inl rfl)⟩ (by exact Nat.le_refl _) (by exact Nat.le_refl _) dX10_isRight_182
            · have ic_36 := gz_nlt (rfl : x_3.toInt = x_3.toInt) (by decide : (0 : Int32).toInt = 0) c_36
              refine lv_aload_n hx hb dX10_isRight_61 rfl (lv_at hl 2 rfl) ?_
              refine gs_get (C := RX10) (T := TX10) (N := 59) hx hb hts inX10 hown hK hM 0 0 21 (by decide) rfl rfl (by decide) (hts _ gm_918) (fun _ h9 => h9) rfl dX10_isRight_62 ?_
              refine lv_iload hx hb dX10_isRight_65 (lv_at hl 0 rfl) ?_
              refine gs_iald hx hb hK hM 9 0 (by decide) rfl (vp_in_iff.mpr ⟨by omega, by omega⟩) dX10_isRight_67 ?_
              refine lv_topi (fun x_58 ex_58 => ?_)
              have qx_58 : x_58.toInt = (st 9 0 (y7_0.toNatClampNeg)).toInt := congrArg Int32.toInt ex_58
              have bx_58 : (0 : Int) ≤ x_58.toInt ∧ x_58.toInt ≤ (5 : Int) := by rw [qx_58]; exact hB_st.1 9 0 (y7_0.toNatClampNeg)
              refine lv_iload_n hx hb dX10_isRight_68 rfl (lv_at hl 4 rfl) ?_
              refine lv_icmp_ne (tgt := 84) hx hb dX10_isRight_69 (by decide) (fun c_59 => ?_) (fun c_59 => ?_)
              · have ic_59 := gz_ne (rfl : x_58.toInt = x_58.toInt) (rfl : y.toInt = y.toInt) c_59
                refine lv_aload_n hx hb dX10_isRight_84 rfl (lv_at hl 2 rfl) ?_
                refine gs_get (C := RX10) (T := TX10) (N := 59) hx hb hts inX10 hown hK hM 0 0 22 (by decide) rfl rfl (by decide) (hts _ gm_919) (fun _ h9 => h9) rfl dX10_isRight_85 ?_
                refine lv_iload hx hb dX10_isRight_88 (lv_at hl 0 rfl) ?_
                refine gs_iald hx hb hK hM 10 0 (by decide) rfl (vp_in_iff.mpr ⟨by omega, by omega⟩) dX10_isRight_90 ?_
                refine lv_topi (fun x_60 ex_60 => ?_)
                have qx_60 : x_60.toInt = (st 10 0 (y7_0.toNatClampNeg)).toInt := congrArg Int32.toInt ex_60
                refine lv_iload_n hx hb dX10_isRight_91 rfl (lv_at hl 4 rfl) ?_
                refine lv_icmp_ne (tgt := 109) hx hb dX10_isRight_92 (by decide) (fun c_61 => ?_) (fun c_61 => ?_)
                · have ic_61 := gz_ne (rfl : x_60.toInt = x_60.toInt) (rfl : y.toInt = y.toInt) c_61
                  refine lv_aload_n hx hb dX10_isRight_109 rfl (lv_at hl 2 rfl) ?_
                  refine gs_get (C := RX10) (T := TX10) (N := 59) hx hb hts inX10 hown hK hM 0 0 20 (by decide) rfl rfl (by decide) (hts _ gm_917) (fun _ h9 => h9) rfl dX10_isRight_110 ?_
                  refine lv_iload hx hb dX10_isRight_113 (lv_at hl 0 rfl) ?_
                  refine gs_iald hx hb hK hM 8 0 (by decide) rfl (vp_in_iff.mpr ⟨by omega, by omega⟩) dX10_isRight_115 ?_
                  refine lv_topi (fun x_62 ex_62 => ?_)
                  have qx_62 : x_62.toInt = (st 8 0 (y7_0.toNatClampNeg)).toInt := congrArg Int32.toInt ex_62
                  refine lv_iconst (v := 4) hx hb dX10_isRight_116 (by decide) ?_
                  refine lv_icmp_ne (tgt := 183) hx hb dX10_isRight_117 (by decide) (fun c_63 => ?_) (fun c_63 => ?_)
                  · have ic_63 := gz_ne (rfl : x_62.toInt = x_62.toInt) (by decide : (4 : Int32).toInt = 4) c_63
                    obtain ⟨x_64, ex_64⟩ : ∃ y : Int32, y = y7_0 + 1 := ⟨_, rfl⟩
                    try have tx_64 : x_64.toInt = y7_0.toInt + 1 := by rw [ex_64]; exact gz_addP (x := y7_0.toInt) (y := 1) rfl (by decide) (by omega) (by omega)
                    refine lv_iinc (v := (x_64)) (lv' := [(9, .int x_64), (8, .int x_3), (0, .ref (ad 0 0)), (1, .int x), (2, .int y), (3, .ref (ad 36 0)), (4, .int f), (5, .int 1), (6, .ref (ad 35 0)), (7, .int g)]) hx hb dX10_isRight_183 hl (k := 0) rfl (by rw [ex_64]; rfl) (by decide) rfl (fun ls hl => ?_)
                    refine lv_goto (tgt := 28) hx hb dX10_isRight_186 (by decide) ?_
                    exact ih_7  (x_64 : Int32) H _ ls (by omega)  (by have hb0 : (0 : Int) ≤ (st 0 0 28).toInt ∧ (st 0 0 28).toInt ≤ (1 : Int) := hB_st.1 0 0 28; omega) hM hS (lv_sub hl [0, 1, 2, 3, 4, 5, 6, 7, 8, 9] rfl)
                  · have ic_63 := gz_eqn (rfl : x_62.toInt = x_62.toInt) (by decide : (4 : Int32).toInt = 4) c_63
                    refine lv_aload_n hx hb dX10_isRight_120 rfl (lv_at hl 2 rfl) ?_
                    refine gs_get (C := RX10) (T := TX10) (N := 59) hx hb hts inX10 hown hK hM 0 0 22 (by decide) rfl rfl (by decide) (hts _ gm_919) (fun _ h9 => h9) rfl dX10_isRight_121 ?_
                    refine lv_iload hx hb dX10_isRight_124 (lv_at hl 0 rfl) ?_
                    refine gs_iald hx hb hK hM 10 0 (by decide) rfl (vp_in_iff.mpr ⟨by omega, by omega⟩) dX10_isRight_126 ?_
                    refine lv_topi (fun x_65 ex_65 => ?_)
                    have qx_65 : x_65.toInt = (st 10 0 (y7_0.toNatClampNeg)).toInt := congrArg Int32.toInt ex_65
                    refine lv_iload_n hx hb dX10_isRight_127 rfl (lv_at hl 3 rfl) ?_
                    refine lv_icmp_ne (tgt := 183) hx hb dX10_isRight_128 (by decide) (fun c_66 => ?_) (fun c_66 => ?_)
                    · have ic_66 := gz_ne (rfl : x_65.toInt = x_65.toInt) (rfl : x.toInt = x.toInt) c_66
                      obtain ⟨x_67, ex_67⟩ : ∃ y : Int32, y = y7_0 + 1 := ⟨_, rfl⟩
                      try have tx_67 : x_67.toInt = y7_0.toInt + 1 := by rw [ex_67]; exact gz_addP (x := y7_0.toInt) (y := 1) rfl (by decide) (by omega) (by omega)
                      refine lv_iinc (v := (x_67)) (lv' := [(9, .int x_67), (8, .int x_3), (0, .ref (ad 0 0)), (1, .int x), (2, .int y), (3, .ref (ad 36 0)), (4, .int f), (5, .int 1), (6, .ref (ad 35 0)), (7, .int g)]) hx hb dX10_isRight_183 hl (k := 0) rfl (by rw [ex_67]; rfl) (by decide) rfl (fun ls hl => ?_)
                      refine lv_goto (tgt := 28) hx hb dX10_isRight_186 (by decide) ?_
                      exact ih_7  (x_67 : Int32) H _ ls (by omega)  (by have hb0 : (0 : Int) ≤ (st 0 0 28).toInt ∧ (st 0 0 28).toInt ≤ (1 : Int) := hB_st.1 0 0 28; omega) hM hS (lv_sub hl [0, 1, 2, 3, 4, 5, 6, 7, 8, 9] rfl)
                    · have ic_66 := gz_eqn (rfl : x_65.toInt = x_65.toInt) (rfl : x.toInt = x.toInt) c_66
                      refine lv_aload_n hx hb dX10_isRight_131 rfl (lv_at hl 2 rfl) ?_
                      refine gs_get (C := RX10) (T := TX10) (N := 59) hx hb hts inX10 hown hK hM 0 0 1 (by decide) rfl rfl (by decide) (hts _ gm_898) (fun _ h9 => h9) rfl dX10_isRight_132 ?_
                      refine lv_aload_n hx hb dX10_isRight_135 rfl (lv_at hl 2 rfl) ?_
                      refine gs_get (C := RX10) (T := TX10) (N := 59) hx hb hts inX10 hown hK hM 0 0 21 (by decide) rfl rfl (by decide) (hts _ gm_918) (fun _ h9 => h9) rfl dX10_isRight_136 ?_
                      refine lv_iload hx hb dX10_isRight_139 (lv_at hl 0 rfl) ?_
                      refine gs_iald hx hb hK hM 9 0 (by decide) rfl (vp_in_iff.mpr ⟨by omega, by omega⟩) dX10_isRight_141 ?_
                      refine lv_topi (fun x_68 ex_68 => ?_)
                      have qx_68 : x_68.toInt = (st 9 0 (y7_0.toNatClampNeg)).toInt := congrArg Int32.toInt ex_68
                      have bx_68 : (0 : Int) ≤ x_68.toInt ∧ x_68.toInt ≤ (5 : Int) := by rw [qx_68]; exact hB_st.1 9 0 (y7_0.toNatClampNeg)
                      refine gs_zald hx hb hK hM 1 0 (by decide) rfl (vp_in_iff.mpr ⟨by omega, by omega⟩) dX10_isRight_142 ?_
                      refine lv_topi (fun x_69 ex_69 => ?_)
                      have qx_69 : x_69.toInt = (st 1 0 (x_68.toNatClampNeg)).toInt := congrArg Int32.toInt ex_69
                      refine lv_if_eq (tgt := 183) hx hb dX10_isRight_143 (by decide) (fun c_70 => ?_) (fun c_70 => ?_)
                      · have ic_70 := gz_eq (rfl : x_69.toInt = x_69.toInt) (by decide : (0 : Int32).toInt = 0) c_70
                        obtain ⟨x_71, ex_71⟩ : ∃ y : Int32, y = y7_0 + 1 := ⟨_, rfl⟩
                        try have tx_71 : x_71.toInt = y7_0.toInt + 1 := by rw [ex_71]; exact gz_addP (x := y7_0.toInt) (y := 1) rfl (by decide) (by omega) (by omega)
                        refine lv_iinc (v := (x_71)) (lv' := [(9, .int x_71), (8, .int x_3), (0, .ref (ad 0 0)), (1, .int x), (2, .int y), (3, .ref (ad 36 0)), (4, .int f), (5, .int 1), (6, .ref (ad 35 0)), (7, .int g)]) hx hb dX10_isRight_183 hl (k := 0) rfl (by rw [ex_71]; rfl) (by decide) rfl (fun ls hl => ?_)
                        refine lv_goto (tgt := 28) hx hb dX10_isRight_186 (by decide) ?_
                        exact ih_7  (x_71 : Int32) H _ ls (by omega)  (by have hb0 : (0 : Int) ≤ (st 0 0 28).toInt ∧ (st 0 0 28).toInt ≤ (1 : Int) := hB_st.1 0 0 28; omega) hM hS (lv_sub hl [0, 1, 2, 3, 4, 5, 6, 7, 8, 9] rfl)
                      · have ic_70 := gz_ne (rfl : x_69.toInt = x_69.toInt) (by decide : (0 : Int32).toInt = 0) c_70
                        refine lv_aload hx hb dX10_isRight_146 (lv_at hl 8 rfl) ?_
                        refine lv_iload hx hb dX10_isRight_148 (lv_at hl 9 rfl) ?_
                        refine lv_aload_n hx hb dX10_isRight_150 rfl (lv_at hl 2 rfl) ?_
                        refine gs_get (C := RX10) (T := TX10) (N := 59) hx hb hts inX10 hown hK hM 0 0 21 (by decide) rfl rfl (by decide) (hts _ gm_918) (fun _ h9 => h9) rfl dX10_isRight_151 ?_
                        refine lv_iload hx hb dX10_isRight_154 (lv_at hl 0 rfl) ?_
                        refine gs_iald hx hb hK hM 9 0 (by decide) rfl (vp_in_iff.mpr ⟨by omega, by omega⟩) dX10_isRight_156 ?_
                        refine lv_topi (fun x_72 ex_72 => ?_)
                        have qx_72 : x_72.toInt = (st 9 0 (y7_0.toNatClampNeg)).toInt := congrArg Int32.toInt ex_72
                        have bx_72 : (0 : Int) ≤ x_72.toInt ∧ x_72.toInt ≤ (5 : Int) := by rw [qx_72]; exact hB_st.1 9 0 (y7_0.toNatClampNeg)
                        refine lv_iadd hx hb dX10_isRight_157 ?_
                        refine lv_topi (fun x_73 ex_73 => ?_)
                        try have tx_73 : x_73.toInt = g.toInt + x_72.toInt := by rw [ex_73]; exact gz_addI (x := g.toInt) (y := x_72.toInt) rfl rfl (by omega) (by omega)
                        refine gs_iald hx hb hK hM 35 0 (by decide) rfl (vp_in_iff.mpr ⟨by omega, by omega⟩) dX10_isRight_158 ?_
                        refine lv_topi (fun x_74 ex_74 => ?_)
                        have qx_74 : x_74.toInt = (st 35 0 (x_73.toNatClampNeg)).toInt := congrArg Int32.toInt ex_74
                        refine lv_if_ne (tgt := 183) hx hb dX10_isRight_159 (by decide) (fun c_75 => ?_) (fun c_75 => ?_)
                        · have ic_75 := gz_ne (rfl : x_74.toInt = x_74.toInt) (by decide : (0 : Int32).toInt = 0) c_75
                          obtain ⟨x_76, ex_76⟩ : ∃ y : Int32, y = y7_0 + 1 := ⟨_, rfl⟩
                          try have tx_76 : x_76.toInt = y7_0.toInt + 1 := by rw [ex_76]; exact gz_addP (x := y7_0.toInt) (y := 1) rfl (by decide) (by omega) (by omega)
                          refine lv_iinc (v := (x_76)) (lv' := [(9, .int x_76), (8, .int x_3), (0, .ref (ad 0 0)), (1, .int x), (2, .int y), (3, .ref (ad 36 0)), (4, .int f), (5, .int 1), (6, .ref (ad 35 0)), (7, .int g)]) hx hb dX10_isRight_183 hl (k := 0) rfl (by rw [ex_76]; rfl) (by decide) rfl (fun ls hl => ?_)
                          refine lv_goto (tgt := 28) hx hb dX10_isRight_186 (by decide) ?_
                          exact ih_7  (x_76 : Int32) H _ ls (by omega)  (by have hb0 : (0 : Int) ≤ (st 0 0 28).toInt ∧ (st 0 0 28).toInt ≤ (1 : Int) := hB_st.1 0 0 28; omega) hM hS (lv_sub hl [0, 1, 2, 3, 4, 5, 6, 7, 8, 9] rfl)
                        · have ic_75 := gz_eqn (rfl : x_74.toInt = x_74.toInt) (by decide : (0 : Int32).toInt = 0) c_75
                          refine lv_aload_n hx hb dX10_isRight_162 rfl (lv_at hl 5 rfl) ?_
                          refine lv_iload hx hb dX10_isRight_163 (lv_at hl 6 rfl) ?_
                          refine lv_iload hx hb dX10_isRight_165 (lv_at hl 7 rfl) ?_
                          refine lv_aload_n hx hb dX10_isRight_167 rfl (lv_at hl 2 rfl) ?_
                          refine gs_get (C := RX10) (T := TX10) (N := 59) hx hb hts inX10 hown hK hM 0 0 21 (by decide) rfl rfl (by decide) (hts _ gm_918) (fun _ h9 => h9) rfl dX10_isRight_168 ?_
                          refine lv_iload hx hb dX10_isRight_171 (lv_at hl 0 rfl) ?_
                          refine gs_iald hx hb hK hM 9 0 (by decide) rfl (vp_in_iff.mpr ⟨by omega, by omega⟩) dX10_isRight_173 ?_
                          refine lv_topi (fun x_77 ex_77 => ?_)
                          have qx_77 : x_77.toInt = (st 9 0 (y7_0.toNatClampNeg)).toInt := congrArg Int32.toInt ex_77
                          have bx_77 : (0 : Int) ≤ x_77.toInt ∧ x_77.toInt ≤ (5 : Int) := by rw [qx_77]; exact hB_st.1 9 0 (y7_0.toNatClampNeg)
                          refine lv_imul hx hb dX10_isRight_174 ?_
                          refine lv_topi (fun x_78 ex_78 => ?_)
                          try have tx_78 : x_78.toInt = 1 * x_77.toInt := by rw [ex_78]; exact gz_mulI (x := 1) (y := x_77.toInt) (by decide) rfl (by omega) (by omega)
                          refine lv_iadd hx hb dX10_isRight_175 ?_
                          refine lv_topi (fun x_79 ex_79 => ?_)
                          try have tx_79 : x_79.toInt = f.toInt + x_78.toInt := by rw [ex_79]; exact gz_addI (x := f.toInt) (y := x_78.toInt) rfl rfl (by omega) (by omega)
                          refine gs_iald hx hb hK hM 36 0 (by decide) rfl (vp_in_iff.mpr ⟨by omega, by omega⟩) dX10_isRight_176 ?_
                          refine lv_topi (fun x_80 ex_80 => ?_)
                          have qx_80 : x_80.toInt = (st 36 0 (x_79.toNatClampNeg)).toInt := congrArg Int32.toInt ex_80
                          refine lv_iload_n hx hb dX10_isRight_177 rfl (lv_at hl 4 rfl) ?_
                          refine lv_icmp_ne (tgt := 183) hx hb dX10_isRight_178 (by decide) (fun c_81 => ?_) (fun c_81 => ?_)
                          · have ic_81 := gz_ne (rfl : x_80.toInt = x_80.toInt) (rfl : y.toInt = y.toInt) c_81
                            obtain ⟨x_82, ex_82⟩ : ∃ y : Int32, y = y7_0 + 1 := ⟨_, rfl⟩
                            try have tx_82 : x_82.toInt = y7_0.toInt + 1 := by rw [ex_82]; exact gz_addP (x := y7_0.toInt) (y := 1) rfl (by decide) (by omega) (by omega)
                            refine lv_iinc (v := (x_82)) (lv' := [(9, .int x_82), (8, .int x_3), (0, .ref (ad 0 0)), (1, .int x), (2, .int y), (3, .ref (ad 36 0)), (4, .int f), (5, .int 1), (6, .ref (ad 35 0)), (7, .int g)]) hx hb dX10_isRight_183 hl (k := 0) rfl (by rw [ex_82]; rfl) (by decide) rfl (fun ls hl => ?_)
                            refine lv_goto (tgt := 28) hx hb dX10_isRight_186 (by decide) ?_
                            exact ih_7  (x_82 : Int32) H _ ls (by omega)  (by have hb0 : (0 : Int) ≤ (st 0 0 28).toInt ∧ (st 0 0 28).toInt ≤ (1 : Int) := hB_st.1 0 0 28; omega) hM hS (lv_sub hl [0, 1, 2, 3, 4, 5, 6, 7, 8, 9] rfl)
                          · have ic_81 := gz_eqn (rfl : x_80.toInt = x_80.toInt) (rfl : y.toInt = y.toInt) c_81
                            refine lv_iconst (v := 1) hx hb dX10_isRight_181 (by decide) ?_
                            rw [← hQe]
                            exact gs_iret hx hb hr hlocks hM hS (by decide) ⟨hB_st, (Or.inl rfl)⟩ (by exact Nat.le_refl _) (by exact Nat.le_refl _) dX10_isRight_182
                · have ic_61 := gz_eqn (rfl : x_60.toInt = x_60.toInt) (rfl : y.toInt = y.toInt) c_61
                  refine lv_aload_n hx hb dX10_isRight_95 rfl (lv_at hl 2 rfl) ?_
                  refine gs_get (C := RX10) (T := TX10) (N := 59) hx hb hts inX10 hown hK hM 0 0 21 (by decide) rfl rfl (by decide) (hts _ gm_918) (fun _ h9 => h9) rfl dX10_isRight_96 ?_
                  refine lv_iload hx hb dX10_isRight_99 (lv_at hl 0 rfl) ?_
                  refine gs_iald hx hb hK hM 9 0 (by decide) rfl (vp_in_iff.mpr ⟨by omega, by omega⟩) dX10_isRight_101 ?_
                  refine lv_topi (fun x_83 ex_83 => ?_)
                  have qx_83 : x_83.toInt = (st 9 0 (y7_0.toNatClampNeg)).toInt := congrArg Int32.toInt ex_83
                  have bx_83 : (0 : Int) ≤ x_83.toInt ∧ x_83.toInt ≤ (5 : Int) := by rw [qx_83]; exact hB_st.1 9 0 (y7_0.toNatClampNeg)
                  refine lv_iload hx hb dX10_isRight_102 (lv_at hl 1 rfl) ?_
                  refine lv_icmp_ne (tgt := 109) hx hb dX10_isRight_104 (by decide) (fun c_84 => ?_) (fun c_84 => ?_)
                  · have ic_84 := gz_ne (rfl : x_83.toInt = x_83.toInt) (rfl : x_3.toInt = x_3.toInt) c_84
                    refine lv_aload_n hx hb dX10_isRight_109 rfl (lv_at hl 2 rfl) ?_
                    refine gs_get (C := RX10) (T := TX10) (N := 59) hx hb hts inX10 hown hK hM 0 0 20 (by decide) rfl rfl (by decide) (hts _ gm_917) (fun _ h9 => h9) rfl dX10_isRight_110 ?_
                    refine lv_iload hx hb dX10_isRight_113 (lv_at hl 0 rfl) ?_
                    refine gs_iald hx hb hK hM 8 0 (by decide) rfl (vp_in_iff.mpr ⟨by omega, by omega⟩) dX10_isRight_115 ?_
                    refine lv_topi (fun x_85 ex_85 => ?_)
                    have qx_85 : x_85.toInt = (st 8 0 (y7_0.toNatClampNeg)).toInt := congrArg Int32.toInt ex_85
                    refine lv_iconst (v := 4) hx hb dX10_isRight_116 (by decide) ?_
                    refine lv_icmp_ne (tgt := 183) hx hb dX10_isRight_117 (by decide) (fun c_86 => ?_) (fun c_86 => ?_)
                    · have ic_86 := gz_ne (rfl : x_85.toInt = x_85.toInt) (by decide : (4 : Int32).toInt = 4) c_86
                      obtain ⟨x_87, ex_87⟩ : ∃ y : Int32, y = y7_0 + 1 := ⟨_, rfl⟩
                      try have tx_87 : x_87.toInt = y7_0.toInt + 1 := by rw [ex_87]; exact gz_addP (x := y7_0.toInt) (y := 1) rfl (by decide) (by omega) (by omega)
                      refine lv_iinc (v := (x_87)) (lv' := [(9, .int x_87), (8, .int x_3), (0, .ref (ad 0 0)), (1, .int x), (2, .int y), (3, .ref (ad 36 0)), (4, .int f), (5, .int 1), (6, .ref (ad 35 0)), (7, .int g)]) hx hb dX10_isRight_183 hl (k := 0) rfl (by rw [ex_87]; rfl) (by decide) rfl (fun ls hl => ?_)
                      refine lv_goto (tgt := 28) hx hb dX10_isRight_186 (by decide) ?_
                      exact ih_7  (x_87 : Int32) H _ ls (by omega)  (by have hb0 : (0 : Int) ≤ (st 0 0 28).toInt ∧ (st 0 0 28).toInt ≤ (1 : Int) := hB_st.1 0 0 28; omega) hM hS (lv_sub hl [0, 1, 2, 3, 4, 5, 6, 7, 8, 9] rfl)
                    · have ic_86 := gz_eqn (rfl : x_85.toInt = x_85.toInt) (by decide : (4 : Int32).toInt = 4) c_86
                      refine lv_aload_n hx hb dX10_isRight_120 rfl (lv_at hl 2 rfl) ?_
                      refine gs_get (C := RX10) (T := TX10) (N := 59) hx hb hts inX10 hown hK hM 0 0 22 (by decide) rfl rfl (by decide) (hts _ gm_919) (fun _ h9 => h9) rfl dX10_isRight_121 ?_
                      refine lv_iload hx hb dX10_isRight_124 (lv_at hl 0 rfl) ?_
                      refine gs_iald hx hb hK hM 10 0 (by decide) rfl (vp_in_iff.mpr ⟨by omega, by omega⟩) dX10_isRight_126 ?_
                      refine lv_topi (fun x_88 ex_88 => ?_)
                      have qx_88 : x_88.toInt = (st 10 0 (y7_0.toNatClampNeg)).toInt := congrArg Int32.toInt ex_88
                      refine lv_iload_n hx hb dX10_isRight_127 rfl (lv_at hl 3 rfl) ?_
                      refine lv_icmp_ne (tgt := 183) hx hb dX10_isRight_128 (by decide) (fun c_89 => ?_) (fun c_89 => ?_)
                      · have ic_89 := gz_ne (rfl : x_88.toInt = x_88.toInt) (rfl : x.toInt = x.toInt) c_89
                        obtain ⟨x_90, ex_90⟩ : ∃ y : Int32, y = y7_0 + 1 := ⟨_, rfl⟩
                        try have tx_90 : x_90.toInt = y7_0.toInt + 1 := by rw [ex_90]; exact gz_addP (x := y7_0.toInt) (y := 1) rfl (by decide) (by omega) (by omega)
                        refine lv_iinc (v := (x_90)) (lv' := [(9, .int x_90), (8, .int x_3), (0, .ref (ad 0 0)), (1, .int x), (2, .int y), (3, .ref (ad 36 0)), (4, .int f), (5, .int 1), (6, .ref (ad 35 0)), (7, .int g)]) hx hb dX10_isRight_183 hl (k := 0) rfl (by rw [ex_90]; rfl) (by decide) rfl (fun ls hl => ?_)
                        refine lv_goto (tgt := 28) hx hb dX10_isRight_186 (by decide) ?_
                        exact ih_7  (x_90 : Int32) H _ ls (by omega)  (by have hb0 : (0 : Int) ≤ (st 0 0 28).toInt ∧ (st 0 0 28).toInt ≤ (1 : Int) := hB_st.1 0 0 28; omega) hM hS (lv_sub hl [0, 1, 2, 3, 4, 5, 6, 7, 8, 9] rfl)
                      · have ic_89 := gz_eqn (rfl : x_88.toInt = x_88.toInt) (rfl : x.toInt = x.toInt) c_89
                        refine lv_aload_n hx hb dX10_isRight_131 rfl (lv_at hl 2 rfl) ?_
                        refine gs_get (C := RX10) (T := TX10) (N := 59) hx hb hts inX10 hown hK hM 0 0 1 (by decide) rfl rfl (by decide) (hts _ gm_898) (fun _ h9 => h9) rfl dX10_isRight_132 ?_
                        refine lv_aload_n hx hb dX10_isRight_135 rfl (lv_at hl 2 rfl) ?_
                        refine gs_get (C := RX10) (T := TX10) (N := 59) hx hb hts inX10 hown hK hM 0 0 21 (by decide) rfl rfl (by decide) (hts _ gm_918) (fun _ h9 => h9) rfl dX10_isRight_136 ?_
                        refine lv_iload hx hb dX10_isRight_139 (lv_at hl 0 rfl) ?_
                        refine gs_iald hx hb hK hM 9 0 (by decide) rfl (vp_in_iff.mpr ⟨by omega, by omega⟩) dX10_isRight_141 ?_
                        refine lv_topi (fun x_91 ex_91 => ?_)
                        have qx_91 : x_91.toInt = (st 9 0 (y7_0.toNatClampNeg)).toInt := congrArg Int32.toInt ex_91
                        have bx_91 : (0 : Int) ≤ x_91.toInt ∧ x_91.toInt ≤ (5 : Int) := by rw [qx_91]; exact hB_st.1 9 0 (y7_0.toNatClampNeg)
                        refine gs_zald hx hb hK hM 1 0 (by decide) rfl (vp_in_iff.mpr ⟨by omega, by omega⟩) dX10_isRight_142 ?_
                        refine lv_topi (fun x_92 ex_92 => ?_)
                        have qx_92 : x_92.toInt = (st 1 0 (x_91.toNatClampNeg)).toInt := congrArg Int32.toInt ex_92
                        refine lv_if_eq (tgt := 183) hx hb dX10_isRight_143 (by decide) (fun c_93 => ?_) (fun c_93 => ?_)
                        · have ic_93 := gz_eq (rfl : x_92.toInt = x_92.toInt) (by decide : (0 : Int32).toInt = 0) c_93
                          obtain ⟨x_94, ex_94⟩ : ∃ y : Int32, y = y7_0 + 1 := ⟨_, rfl⟩
                          try have tx_94 : x_94.toInt = y7_0.toInt + 1 := by rw [ex_94]; exact gz_addP (x := y7_0.toInt) (y := 1) rfl (by decide) (by omega) (by omega)
                          refine lv_iinc (v := (x_94)) (lv' := [(9, .int x_94), (8, .int x_3), (0, .ref (ad 0 0)), (1, .int x), (2, .int y), (3, .ref (ad 36 0)), (4, .int f), (5, .int 1), (6, .ref (ad 35 0)), (7, .int g)]) hx hb dX10_isRight_183 hl (k := 0) rfl (by rw [ex_94]; rfl) (by decide) rfl (fun ls hl => ?_)
                          refine lv_goto (tgt := 28) hx hb dX10_isRight_186 (by decide) ?_
                          exact ih_7  (x_94 : Int32) H _ ls (by omega)  (by have hb0 : (0 : Int) ≤ (st 0 0 28).toInt ∧ (st 0 0 28).toInt ≤ (1 : Int) := hB_st.1 0 0 28; omega) hM hS (lv_sub hl [0, 1, 2, 3, 4, 5, 6, 7, 8, 9] rfl)
                        · have ic_93 := gz_ne (rfl : x_92.toInt = x_92.toInt) (by decide : (0 : Int32).toInt = 0) c_93
                          refine lv_aload hx hb dX10_isRight_146 (lv_at hl 8 rfl) ?_
                          refine lv_iload hx hb dX10_isRight_148 (lv_at hl 9 rfl) ?_
                          refine lv_aload_n hx hb dX10_isRight_150 rfl (lv_at hl 2 rfl) ?_
                          refine gs_get (C := RX10) (T := TX10) (N := 59) hx hb hts inX10 hown hK hM 0 0 21 (by decide) rfl rfl (by decide) (hts _ gm_918) (fun _ h9 => h9) rfl dX10_isRight_151 ?_
                          refine lv_iload hx hb dX10_isRight_154 (lv_at hl 0 rfl) ?_
                          refine gs_iald hx hb hK hM 9 0 (by decide) rfl (vp_in_iff.mpr ⟨by omega, by omega⟩) dX10_isRight_156 ?_
                          refine lv_topi (fun x_95 ex_95 => ?_)
                          have qx_95 : x_95.toInt = (st 9 0 (y7_0.toNatClampNeg)).toInt := congrArg Int32.toInt ex_95
                          have bx_95 : (0 : Int) ≤ x_95.toInt ∧ x_95.toInt ≤ (5 : Int) := by rw [qx_95]; exact hB_st.1 9 0 (y7_0.toNatClampNeg)
                          refine lv_iadd hx hb dX10_isRight_157 ?_
                          refine lv_topi (fun x_96 ex_96 => ?_)
                          try have tx_96 : x_96.toInt = g.toInt + x_95.toInt := by rw [ex_96]; exact gz_addI (x := g.toInt) (y := x_95.toInt) rfl rfl (by omega) (by omega)
                          refine gs_iald hx hb hK hM 35 0 (by decide) rfl (vp_in_iff.mpr ⟨by omega, by omega⟩) dX10_isRight_158 ?_
                          refine lv_topi (fun x_97 ex_97 => ?_)
                          have qx_97 : x_97.toInt = (st 35 0 (x_96.toNatClampNeg)).toInt := congrArg Int32.toInt ex_97
                          refine lv_if_ne (tgt := 183) hx hb dX10_isRight_159 (by decide) (fun c_98 => ?_) (fun c_98 => ?_)
                          · have ic_98 := gz_ne (rfl : x_97.toInt = x_97.toInt) (by decide : (0 : Int32).toInt = 0) c_98
                            obtain ⟨x_99, ex_99⟩ : ∃ y : Int32, y = y7_0 + 1 := ⟨_, rfl⟩
                            try have tx_99 : x_99.toInt = y7_0.toInt + 1 := by rw [ex_99]; exact gz_addP (x := y7_0.toInt) (y := 1) rfl (by decide) (by omega) (by omega)
                            refine lv_iinc (v := (x_99)) (lv' := [(9, .int x_99), (8, .int x_3), (0, .ref (ad 0 0)), (1, .int x), (2, .int y), (3, .ref (ad 36 0)), (4, .int f), (5, .int 1), (6, .ref (ad 35 0)), (7, .int g)]) hx hb dX10_isRight_183 hl (k := 0) rfl (by rw [ex_99]; rfl) (by decide) rfl (fun ls hl => ?_)
                            refine lv_goto (tgt := 28) hx hb dX10_isRight_186 (by decide) ?_
                            exact ih_7  (x_99 : Int32) H _ ls (by omega)  (by have hb0 : (0 : Int) ≤ (st 0 0 28).toInt ∧ (st 0 0 28).toInt ≤ (1 : Int) := hB_st.1 0 0 28; omega) hM hS (lv_sub hl [0, 1, 2, 3, 4, 5, 6, 7, 8, 9] rfl)
                          · have ic_98 := gz_eqn (rfl : x_97.toInt = x_97.toInt) (by decide : (0 : Int32).toInt = 0) c_98
                            refine lv_aload_n hx hb dX10_isRight_162 rfl (lv_at hl 5 rfl) ?_
                            refine lv_iload hx hb dX10_isRight_163 (lv_at hl 6 rfl) ?_
                            refine lv_iload hx hb dX10_isRight_165 (lv_at hl 7 rfl) ?_
                            refine lv_aload_n hx hb dX10_isRight_167 rfl (lv_at hl 2 rfl) ?_
                            refine gs_get (C := RX10) (T := TX10) (N := 59) hx hb hts inX10 hown hK hM 0 0 21 (by decide) rfl rfl (by decide) (hts _ gm_918) (fun _ h9 => h9) rfl dX10_isRight_168 ?_
                            refine lv_iload hx hb dX10_isRight_171 (lv_at hl 0 rfl) ?_
                            refine gs_iald hx hb hK hM 9 0 (by decide) rfl (vp_in_iff.mpr ⟨by omega, by omega⟩) dX10_isRight_173 ?_
                            refine lv_topi (fun x_100 ex_100 => ?_)
                            have qx_100 : x_100.toInt = (st 9 0 (y7_0.toNatClampNeg)).toInt := congrArg Int32.toInt ex_100
                            have bx_100 : (0 : Int) ≤ x_100.toInt ∧ x_100.toInt ≤ (5 : Int) := by rw [qx_100]; exact hB_st.1 9 0 (y7_0.toNatClampNeg)
                            refine lv_imul hx hb dX10_isRight_174 ?_
                            refine lv_topi (fun x_101 ex_101 => ?_)
                            try have tx_101 : x_101.toInt = 1 * x_100.toInt := by rw [ex_101]; exact gz_mulI (x := 1) (y := x_100.toInt) (by decide) rfl (by omega) (by omega)
                            refine lv_iadd hx hb dX10_isRight_175 ?_
                            refine lv_topi (fun x_102 ex_102 => ?_)
                            try have tx_102 : x_102.toInt = f.toInt + x_101.toInt := by rw [ex_102]; exact gz_addI (x := f.toInt) (y := x_101.toInt) rfl rfl (by omega) (by omega)
                            refine gs_iald hx hb hK hM 36 0 (by decide) rfl (vp_in_iff.mpr ⟨by omega, by omega⟩) dX10_isRight_176 ?_
                            refine lv_topi (fun x_103 ex_103 => ?_)
                            have qx_103 : x_103.toInt = (st 36 0 (x_102.toNatClampNeg)).toInt := congrArg Int32.toInt ex_103
                            refine lv_iload_n hx hb dX10_isRight_177 rfl (lv_at hl 4 rfl) ?_
                            refine lv_icmp_ne (tgt := 183) hx hb dX10_isRight_178 (by decide) (fun c_104 => ?_) (fun c_104 => ?_)
                            · have ic_104 := gz_ne (rfl : x_103.toInt = x_103.toInt) (rfl : y.toInt = y.toInt) c_104
                              obtain ⟨x_105, ex_105⟩ : ∃ y : Int32, y = y7_0 + 1 := ⟨_, rfl⟩
                              try have tx_105 : x_105.toInt = y7_0.toInt + 1 := by rw [ex_105]; exact gz_addP (x := y7_0.toInt) (y := 1) rfl (by decide) (by omega) (by omega)
                              refine lv_iinc (v := (x_105)) (lv' := [(9, .int x_105), (8, .int x_3), (0, .ref (ad 0 0)), (1, .int x), (2, .int y), (3, .ref (ad 36 0)), (4, .int f), (5, .int 1), (6, .ref (ad 35 0)), (7, .int g)]) hx hb dX10_isRight_183 hl (k := 0) rfl (by rw [ex_105]; rfl) (by decide) rfl (fun ls hl => ?_)
                              refine lv_goto (tgt := 28) hx hb dX10_isRight_186 (by decide) ?_
                              exact ih_7  (x_105 : Int32) H _ ls (by omega)  (by have hb0 : (0 : Int) ≤ (st 0 0 28).toInt ∧ (st 0 0 28).toInt ≤ (1 : Int) := hB_st.1 0 0 28; omega) hM hS (lv_sub hl [0, 1, 2, 3, 4, 5, 6, 7, 8, 9] rfl)
                            · have ic_104 := gz_eqn (rfl : x_103.toInt = x_103.toInt) (rfl : y.toInt = y.toInt) c_104
                              refine lv_iconst (v := 1) hx hb dX10_isRight_181 (by decide) ?_
                              rw [← hQe]
                              exact gs_iret hx hb hr hlocks hM hS (by decide) ⟨hB_st, (Or.inl rfl)⟩ (by exact Nat.le_refl _) (by exact Nat.le_refl _) dX10_isRight_182
                  · have ic_84 := gz_eqn (rfl : x_83.toInt = x_83.toInt) (rfl : x_3.toInt = x_3.toInt) c_84
                    refine lv_iconst (v := 1) hx hb dX10_isRight_107 (by decide) ?_
                    rw [← hQe]
                    exact gs_iret hx hb hr hlocks hM hS (by decide) ⟨hB_st, (Or.inl rfl)⟩ (by exact Nat.le_refl _) (by exact Nat.le_refl _) dX10_isRight_108
              · have ic_59 := gz_eqn (rfl : x_58.toInt = x_58.toInt) (rfl : y.toInt = y.toInt) c_59
                refine lv_aload_n hx hb dX10_isRight_72 rfl (lv_at hl 2 rfl) ?_
                refine gs_get (C := RX10) (T := TX10) (N := 59) hx hb hts inX10 hown hK hM 0 0 22 (by decide) rfl rfl (by decide) (hts _ gm_919) (fun _ h9 => h9) rfl dX10_isRight_73 ?_
                refine lv_iload hx hb dX10_isRight_76 (lv_at hl 0 rfl) ?_
                refine gs_iald hx hb hK hM 10 0 (by decide) rfl (vp_in_iff.mpr ⟨by omega, by omega⟩) dX10_isRight_78 ?_
                refine lv_topi (fun x_106 ex_106 => ?_)
                have qx_106 : x_106.toInt = (st 10 0 (y7_0.toNatClampNeg)).toInt := congrArg Int32.toInt ex_106
                refine lv_iload hx hb dX10_isRight_79 (lv_at hl 1 rfl) ?_
                refine lv_icmp_eq (tgt := 107) hx hb dX10_isRight_81 (by decide) (fun c_107 => ?_) (fun c_107 => ?_)
                · have ic_107 := gz_eq (rfl : x_106.toInt = x_106.toInt) (rfl : x_3.toInt = x_3.toInt) c_107
                  refine lv_iconst (v := 1) hx hb dX10_isRight_107 (by decide) ?_
                  rw [← hQe]
                  exact gs_iret hx hb hr hlocks hM hS (by decide) ⟨hB_st, (Or.inl rfl)⟩ (by exact Nat.le_refl _) (by exact Nat.le_refl _) dX10_isRight_108
                · have ic_107 := gz_ne (rfl : x_106.toInt = x_106.toInt) (rfl : x_3.toInt = x_3.toInt) c_107
                  refine lv_aload_n hx hb dX10_isRight_84 rfl (lv_at hl 2 rfl) ?_
                  refine gs_get (C := RX10) (T := TX10) (N := 59) hx hb hts inX10 hown hK hM 0 0 22 (by decide) rfl rfl (by decide) (hts _ gm_919) (fun _ h9 => h9) rfl dX10_isRight_85 ?_
                  refine lv_iload hx hb dX10_isRight_88 (lv_at hl 0 rfl) ?_
                  refine gs_iald hx hb hK hM 10 0 (by decide) rfl (vp_in_iff.mpr ⟨by omega, by omega⟩) dX10_isRight_90 ?_
                  refine lv_topi (fun x_108 ex_108 => ?_)
                  have qx_108 : x_108.toInt = (st 10 0 (y7_0.toNatClampNeg)).toInt := congrArg Int32.toInt ex_108
                  refine lv_iload_n hx hb dX10_isRight_91 rfl (lv_at hl 4 rfl) ?_
                  refine lv_icmp_ne (tgt := 109) hx hb dX10_isRight_92 (by decide) (fun c_109 => ?_) (fun c_109 => ?_)
                  · have ic_109 := gz_ne (rfl : x_108.toInt = x_108.toInt) (rfl : y.toInt = y.toInt) c_109
                    refine lv_aload_n hx hb dX10_isRight_109 rfl (lv_at hl 2 rfl) ?_
                    refine gs_get (C := RX10) (T := TX10) (N := 59) hx hb hts inX10 hown hK hM 0 0 20 (by decide) rfl rfl (by decide) (hts _ gm_917) (fun _ h9 => h9) rfl dX10_isRight_110 ?_
                    refine lv_iload hx hb dX10_isRight_113 (lv_at hl 0 rfl) ?_
                    refine gs_iald hx hb hK hM 8 0 (by decide) rfl (vp_in_iff.mpr ⟨by omega, by omega⟩) dX10_isRight_115 ?_
                    refine lv_topi (fun x_110 ex_110 => ?_)
                    have qx_110 : x_110.toInt = (st 8 0 (y7_0.toNatClampNeg)).toInt := congrArg Int32.toInt ex_110
                    refine lv_iconst (v := 4) hx hb dX10_isRight_116 (by decide) ?_
                    refine lv_icmp_ne (tgt := 183) hx hb dX10_isRight_117 (by decide) (fun c_111 => ?_) (fun c_111 => ?_)
                    · have ic_111 := gz_ne (rfl : x_110.toInt = x_110.toInt) (by decide : (4 : Int32).toInt = 4) c_111
                      obtain ⟨x_112, ex_112⟩ : ∃ y : Int32, y = y7_0 + 1 := ⟨_, rfl⟩
                      try have tx_112 : x_112.toInt = y7_0.toInt + 1 := by rw [ex_112]; exact gz_addP (x := y7_0.toInt) (y := 1) rfl (by decide) (by omega) (by omega)
                      refine lv_iinc (v := (x_112)) (lv' := [(9, .int x_112), (8, .int x_3), (0, .ref (ad 0 0)), (1, .int x), (2, .int y), (3, .ref (ad 36 0)), (4, .int f), (5, .int 1), (6, .ref (ad 35 0)), (7, .int g)]) hx hb dX10_isRight_183 hl (k := 0) rfl (by rw [ex_112]; rfl) (by decide) rfl (fun ls hl => ?_)
                      refine lv_goto (tgt := 28) hx hb dX10_isRight_186 (by decide) ?_
                      exact ih_7  (x_112 : Int32) H _ ls (by omega)  (by have hb0 : (0 : Int) ≤ (st 0 0 28).toInt ∧ (st 0 0 28).toInt ≤ (1 : Int) := hB_st.1 0 0 28; omega) hM hS (lv_sub hl [0, 1, 2, 3, 4, 5, 6, 7, 8, 9] rfl)
                    · have ic_111 := gz_eqn (rfl : x_110.toInt = x_110.toInt) (by decide : (4 : Int32).toInt = 4) c_111
                      refine lv_aload_n hx hb dX10_isRight_120 rfl (lv_at hl 2 rfl) ?_
                      refine gs_get (C := RX10) (T := TX10) (N := 59) hx hb hts inX10 hown hK hM 0 0 22 (by decide) rfl rfl (by decide) (hts _ gm_919) (fun _ h9 => h9) rfl dX10_isRight_121 ?_
                      refine lv_iload hx hb dX10_isRight_124 (lv_at hl 0 rfl) ?_
                      refine gs_iald hx hb hK hM 10 0 (by decide) rfl (vp_in_iff.mpr ⟨by omega, by omega⟩) dX10_isRight_126 ?_
                      refine lv_topi (fun x_113 ex_113 => ?_)
                      have qx_113 : x_113.toInt = (st 10 0 (y7_0.toNatClampNeg)).toInt := congrArg Int32.toInt ex_113
                      refine lv_iload_n hx hb dX10_isRight_127 rfl (lv_at hl 3 rfl) ?_
                      refine lv_icmp_ne (tgt := 183) hx hb dX10_isRight_128 (by decide) (fun c_114 => ?_) (fun c_114 => ?_)
                      · have ic_114 := gz_ne (rfl : x_113.toInt = x_113.toInt) (rfl : x.toInt = x.toInt) c_114
                        obtain ⟨x_115, ex_115⟩ : ∃ y : Int32, y = y7_0 + 1 := ⟨_, rfl⟩
                        try have tx_115 : x_115.toInt = y7_0.toInt + 1 := by rw [ex_115]; exact gz_addP (x := y7_0.toInt) (y := 1) rfl (by decide) (by omega) (by omega)
                        refine lv_iinc (v := (x_115)) (lv' := [(9, .int x_115), (8, .int x_3), (0, .ref (ad 0 0)), (1, .int x), (2, .int y), (3, .ref (ad 36 0)), (4, .int f), (5, .int 1), (6, .ref (ad 35 0)), (7, .int g)]) hx hb dX10_isRight_183 hl (k := 0) rfl (by rw [ex_115]; rfl) (by decide) rfl (fun ls hl => ?_)
                        refine lv_goto (tgt := 28) hx hb dX10_isRight_186 (by decide) ?_
                        exact ih_7  (x_115 : Int32) H _ ls (by omega)  (by have hb0 : (0 : Int) ≤ (st 0 0 28).toInt ∧ (st 0 0 28).toInt ≤ (1 : Int) := hB_st.1 0 0 28; omega) hM hS (lv_sub hl [0, 1, 2, 3, 4, 5, 6, 7, 8, 9] rfl)
                      · have ic_114 := gz_eqn (rfl : x_113.toInt = x_113.toInt) (rfl : x.toInt = x.toInt) c_114
                        refine lv_aload_n hx hb dX10_isRight_131 rfl (lv_at hl 2 rfl) ?_
                        refine gs_get (C := RX10) (T := TX10) (N := 59) hx hb hts inX10 hown hK hM 0 0 1 (by decide) rfl rfl (by decide) (hts _ gm_898) (fun _ h9 => h9) rfl dX10_isRight_132 ?_
                        refine lv_aload_n hx hb dX10_isRight_135 rfl (lv_at hl 2 rfl) ?_
                        refine gs_get (C := RX10) (T := TX10) (N := 59) hx hb hts inX10 hown hK hM 0 0 21 (by decide) rfl rfl (by decide) (hts _ gm_918) (fun _ h9 => h9) rfl dX10_isRight_136 ?_
                        refine lv_iload hx hb dX10_isRight_139 (lv_at hl 0 rfl) ?_
                        refine gs_iald hx hb hK hM 9 0 (by decide) rfl (vp_in_iff.mpr ⟨by omega, by omega⟩) dX10_isRight_141 ?_
                        refine lv_topi (fun x_116 ex_116 => ?_)
                        have qx_116 : x_116.toInt = (st 9 0 (y7_0.toNatClampNeg)).toInt := congrArg Int32.toInt ex_116
                        have bx_116 : (0 : Int) ≤ x_116.toInt ∧ x_116.toInt ≤ (5 : Int) := by rw [qx_116]; exact hB_st.1 9 0 (y7_0.toNatClampNeg)
                        refine gs_zald hx hb hK hM 1 0 (by decide) rfl (vp_in_iff.mpr ⟨by omega, by omega⟩) dX10_isRight_142 ?_
                        refine lv_topi (fun x_117 ex_117 => ?_)
                        have qx_117 : x_117.toInt = (st 1 0 (x_116.toNatClampNeg)).toInt := congrArg Int32.toInt ex_117
                        refine lv_if_eq (tgt := 183) hx hb dX10_isRight_143 (by decide) (fun c_118 => ?_) (fun c_118 => ?_)
                        · have ic_118 := gz_eq (rfl : x_117.toInt = x_117.toInt) (by decide : (0 : Int32).toInt = 0) c_118
                          obtain ⟨x_119, ex_119⟩ : ∃ y : Int32, y = y7_0 + 1 := ⟨_, rfl⟩
                          try have tx_119 : x_119.toInt = y7_0.toInt + 1 := by rw [ex_119]; exact gz_addP (x := y7_0.toInt) (y := 1) rfl (by decide) (by omega) (by omega)
                          refine lv_iinc (v := (x_119)) (lv' := [(9, .int x_119), (8, .int x_3), (0, .ref (ad 0 0)), (1, .int x), (2, .int y), (3, .ref (ad 36 0)), (4, .int f), (5, .int 1), (6, .ref (ad 35 0)), (7, .int g)]) hx hb dX10_isRight_183 hl (k := 0) rfl (by rw [ex_119]; rfl) (by decide) rfl (fun ls hl => ?_)
                          refine lv_goto (tgt := 28) hx hb dX10_isRight_186 (by decide) ?_
                          exact ih_7  (x_119 : Int32) H _ ls (by omega)  (by have hb0 : (0 : Int) ≤ (st 0 0 28).toInt ∧ (st 0 0 28).toInt ≤ (1 : Int) := hB_st.1 0 0 28; omega) hM hS (lv_sub hl [0, 1, 2, 3, 4, 5, 6, 7, 8, 9] rfl)
                        · have ic_118 := gz_ne (rfl : x_117.toInt = x_117.toInt) (by decide : (0 : Int32).toInt = 0) c_118
                          refine lv_aload hx hb dX10_isRight_146 (lv_at hl 8 rfl) ?_
                          refine lv_iload hx hb dX10_isRight_148 (lv_at hl 9 rfl) ?_
                          refine lv_aload_n hx hb dX10_isRight_150 rfl (lv_at hl 2 rfl) ?_
                          refine gs_get (C := RX10) (T := TX10) (N := 59) hx hb hts inX10 hown hK hM 0 0 21 (by decide) rfl rfl (by decide) (hts _ gm_918) (fun _ h9 => h9) rfl dX10_isRight_151 ?_
                          refine lv_iload hx hb dX10_isRight_154 (lv_at hl 0 rfl) ?_
                          refine gs_iald hx hb hK hM 9 0 (by decide) rfl (vp_in_iff.mpr ⟨by omega, by omega⟩) dX10_isRight_156 ?_
                          refine lv_topi (fun x_120 ex_120 => ?_)
                          have qx_120 : x_120.toInt = (st 9 0 (y7_0.toNatClampNeg)).toInt := congrArg Int32.toInt ex_120
                          have bx_120 : (0 : Int) ≤ x_120.toInt ∧ x_120.toInt ≤ (5 : Int) := by rw [qx_120]; exact hB_st.1 9 0 (y7_0.toNatClampNeg)
                          refine lv_iadd hx hb dX10_isRight_157 ?_
                          refine lv_topi (fun x_121 ex_121 => ?_)
                          try have tx_121 : x_121.toInt = g.toInt + x_120.toInt := by rw [ex_121]; exact gz_addI (x := g.toInt) (y := x_120.toInt) rfl rfl (by omega) (by omega)
                          refine gs_iald hx hb hK hM 35 0 (by decide) rfl (vp_in_iff.mpr ⟨by omega, by omega⟩) dX10_isRight_158 ?_
                          refine lv_topi (fun x_122 ex_122 => ?_)
                          have qx_122 : x_122.toInt = (st 35 0 (x_121.toNatClampNeg)).toInt := congrArg Int32.toInt ex_122
                          refine lv_if_ne (tgt := 183) hx hb dX10_isRight_159 (by decide) (fun c_123 => ?_) (fun c_123 => ?_)
                          · have ic_123 := gz_ne (rfl : x_122.toInt = x_122.toInt) (by decide : (0 : Int32).toInt = 0) c_123
                            obtain ⟨x_124, ex_124⟩ : ∃ y : Int32, y = y7_0 + 1 := ⟨_, rfl⟩
                            try have tx_124 : x_124.toInt = y7_0.toInt + 1 := by rw [ex_124]; exact gz_addP (x := y7_0.toInt) (y := 1) rfl (by decide) (by omega) (by omega)
                            refine lv_iinc (v := (x_124)) (lv' := [(9, .int x_124), (8, .int x_3), (0, .ref (ad 0 0)), (1, .int x), (2, .int y), (3, .ref (ad 36 0)), (4, .int f), (5, .int 1), (6, .ref (ad 35 0)), (7, .int g)]) hx hb dX10_isRight_183 hl (k := 0) rfl (by rw [ex_124]; rfl) (by decide) rfl (fun ls hl => ?_)
                            refine lv_goto (tgt := 28) hx hb dX10_isRight_186 (by decide) ?_
                            exact ih_7  (x_124 : Int32) H _ ls (by omega)  (by have hb0 : (0 : Int) ≤ (st 0 0 28).toInt ∧ (st 0 0 28).toInt ≤ (1 : Int) := hB_st.1 0 0 28; omega) hM hS (lv_sub hl [0, 1, 2, 3, 4, 5, 6, 7, 8, 9] rfl)
                          · have ic_123 := gz_eqn (rfl : x_122.toInt = x_122.toInt) (by decide : (0 : Int32).toInt = 0) c_123
                            refine lv_aload_n hx hb dX10_isRight_162 rfl (lv_at hl 5 rfl) ?_
                            refine lv_iload hx hb dX10_isRight_163 (lv_at hl 6 rfl) ?_
                            refine lv_iload hx hb dX10_isRight_165 (lv_at hl 7 rfl) ?_
                            refine lv_aload_n hx hb dX10_isRight_167 rfl (lv_at hl 2 rfl) ?_
                            refine gs_get (C := RX10) (T := TX10) (N := 59) hx hb hts inX10 hown hK hM 0 0 21 (by decide) rfl rfl (by decide) (hts _ gm_918) (fun _ h9 => h9) rfl dX10_isRight_168 ?_
                            refine lv_iload hx hb dX10_isRight_171 (lv_at hl 0 rfl) ?_
                            refine gs_iald hx hb hK hM 9 0 (by decide) rfl (vp_in_iff.mpr ⟨by omega, by omega⟩) dX10_isRight_173 ?_
                            refine lv_topi (fun x_125 ex_125 => ?_)
                            have qx_125 : x_125.toInt = (st 9 0 (y7_0.toNatClampNeg)).toInt := congrArg Int32.toInt ex_125
                            have bx_125 : (0 : Int) ≤ x_125.toInt ∧ x_125.toInt ≤ (5 : Int) := by rw [qx_125]; exact hB_st.1 9 0 (y7_0.toNatClampNeg)
                            refine lv_imul hx hb dX10_isRight_174 ?_
                            refine lv_topi (fun x_126 ex_126 => ?_)
                            try have tx_126 : x_126.toInt = 1 * x_125.toInt := by rw [ex_126]; exact gz_mulI (x := 1) (y := x_125.toInt) (by decide) rfl (by omega) (by omega)
                            refine lv_iadd hx hb dX10_isRight_175 ?_
                            refine lv_topi (fun x_127 ex_127 => ?_)
                            try have tx_127 : x_127.toInt = f.toInt + x_126.toInt := by rw [ex_127]; exact gz_addI (x := f.toInt) (y := x_126.toInt) rfl rfl (by omega) (by omega)
                            refine gs_iald hx hb hK hM 36 0 (by decide) rfl (vp_in_iff.mpr ⟨by omega, by omega⟩) dX10_isRight_176 ?_
                            refine lv_topi (fun x_128 ex_128 => ?_)
                            have qx_128 : x_128.toInt = (st 36 0 (x_127.toNatClampNeg)).toInt := congrArg Int32.toInt ex_128
                            refine lv_iload_n hx hb dX10_isRight_177 rfl (lv_at hl 4 rfl) ?_
                            refine lv_icmp_ne (tgt := 183) hx hb dX10_isRight_178 (by decide) (fun c_129 => ?_) (fun c_129 => ?_)
                            · have ic_129 := gz_ne (rfl : x_128.toInt = x_128.toInt) (rfl : y.toInt = y.toInt) c_129
                              obtain ⟨x_130, ex_130⟩ : ∃ y : Int32, y = y7_0 + 1 := ⟨_, rfl⟩
                              try have tx_130 : x_130.toInt = y7_0.toInt + 1 := by rw [ex_130]; exact gz_addP (x := y7_0.toInt) (y := 1) rfl (by decide) (by omega) (by omega)
                              refine lv_iinc (v := (x_130)) (lv' := [(9, .int x_130), (8, .int x_3), (0, .ref (ad 0 0)), (1, .int x), (2, .int y), (3, .ref (ad 36 0)), (4, .int f), (5, .int 1), (6, .ref (ad 35 0)), (7, .int g)]) hx hb dX10_isRight_183 hl (k := 0) rfl (by rw [ex_130]; rfl) (by decide) rfl (fun ls hl => ?_)
                              refine lv_goto (tgt := 28) hx hb dX10_isRight_186 (by decide) ?_
                              exact ih_7  (x_130 : Int32) H _ ls (by omega)  (by have hb0 : (0 : Int) ≤ (st 0 0 28).toInt ∧ (st 0 0 28).toInt ≤ (1 : Int) := hB_st.1 0 0 28; omega) hM hS (lv_sub hl [0, 1, 2, 3, 4, 5, 6, 7, 8, 9] rfl)
                            · have ic_129 := gz_eqn (rfl : x_128.toInt = x_128.toInt) (rfl : y.toInt = y.toInt) c_129
                              refine lv_iconst (v := 1) hx hb dX10_isRight_181 (by decide) ?_
                              rw [← hQe]
                              exact gs_iret hx hb hr hlocks hM hS (by decide) ⟨hB_st, (Or.inl rfl)⟩ (by exact Nat.le_refl _) (by exact Nat.le_refl _) dX10_isRight_182
                  · have ic_109 := gz_eqn (rfl : x_108.toInt = x_108.toInt) (rfl : y.toInt = y.toInt) c_109
                    refine lv_aload_n hx hb dX10_isRight_95 rfl (lv_at hl 2 rfl) ?_
                    refine gs_get (C := RX10) (T := TX10) (N := 59) hx hb hts inX10 hown hK hM 0 0 21 (by decide) rfl rfl (by decide) (hts _ gm_918) (fun _ h9 => h9) rfl dX10_isRight_96 ?_
                    refine lv_iload hx hb dX10_isRight_99 (lv_at hl 0 rfl) ?_
                    refine gs_iald hx hb hK hM 9 0 (by decide) rfl (vp_in_iff.mpr ⟨by omega, by omega⟩) dX10_isRight_101 ?_
                    refine lv_topi (fun x_131 ex_131 => ?_)
                    have qx_131 : x_131.toInt = (st 9 0 (y7_0.toNatClampNeg)).toInt := congrArg Int32.toInt ex_131
                    have bx_131 : (0 : Int) ≤ x_131.toInt ∧ x_131.toInt ≤ (5 : Int) := by rw [qx_131]; exact hB_st.1 9 0 (y7_0.toNatClampNeg)
                    refine lv_iload hx hb dX10_isRight_102 (lv_at hl 1 rfl) ?_
                    refine lv_icmp_ne (tgt := 109) hx hb dX10_isRight_104 (by decide) (fun c_132 => ?_) (fun c_132 => ?_)
                    · have ic_132 := gz_ne (rfl : x_131.toInt = x_131.toInt) (rfl : x_3.toInt = x_3.toInt) c_132
                      refine lv_aload_n hx hb dX10_isRight_109 rfl (lv_at hl 2 rfl) ?_
                      refine gs_get (C := RX10) (T := TX10) (N := 59) hx hb hts inX10 hown hK hM 0 0 20 (by decide) rfl rfl (by decide) (hts _ gm_917) (fun _ h9 => h9) rfl dX10_isRight_110 ?_
                      refine lv_iload hx hb dX10_isRight_113 (lv_at hl 0 rfl) ?_
                      refine gs_iald hx hb hK hM 8 0 (by decide) rfl (vp_in_iff.mpr ⟨by omega, by omega⟩) dX10_isRight_115 ?_
                      refine lv_topi (fun x_133 ex_133 => ?_)
                      have qx_133 : x_133.toInt = (st 8 0 (y7_0.toNatClampNeg)).toInt := congrArg Int32.toInt ex_133
                      refine lv_iconst (v := 4) hx hb dX10_isRight_116 (by decide) ?_
                      refine lv_icmp_ne (tgt := 183) hx hb dX10_isRight_117 (by decide) (fun c_134 => ?_) (fun c_134 => ?_)
                      · have ic_134 := gz_ne (rfl : x_133.toInt = x_133.toInt) (by decide : (4 : Int32).toInt = 4) c_134
                        obtain ⟨x_135, ex_135⟩ : ∃ y : Int32, y = y7_0 + 1 := ⟨_, rfl⟩
                        try have tx_135 : x_135.toInt = y7_0.toInt + 1 := by rw [ex_135]; exact gz_addP (x := y7_0.toInt) (y := 1) rfl (by decide) (by omega) (by omega)
                        refine lv_iinc (v := (x_135)) (lv' := [(9, .int x_135), (8, .int x_3), (0, .ref (ad 0 0)), (1, .int x), (2, .int y), (3, .ref (ad 36 0)), (4, .int f), (5, .int 1), (6, .ref (ad 35 0)), (7, .int g)]) hx hb dX10_isRight_183 hl (k := 0) rfl (by rw [ex_135]; rfl) (by decide) rfl (fun ls hl => ?_)
                        refine lv_goto (tgt := 28) hx hb dX10_isRight_186 (by decide) ?_
                        exact ih_7  (x_135 : Int32) H _ ls (by omega)  (by have hb0 : (0 : Int) ≤ (st 0 0 28).toInt ∧ (st 0 0 28).toInt ≤ (1 : Int) := hB_st.1 0 0 28; omega) hM hS (lv_sub hl [0, 1, 2, 3, 4, 5, 6, 7, 8, 9] rfl)
                      · have ic_134 := gz_eqn (rfl : x_133.toInt = x_133.toInt) (by decide : (4 : Int32).toInt = 4) c_134
                        refine lv_aload_n hx hb dX10_isRight_120 rfl (lv_at hl 2 rfl) ?_
                        refine gs_get (C := RX10) (T := TX10) (N := 59) hx hb hts inX10 hown hK hM 0 0 22 (by decide) rfl rfl (by decide) (hts _ gm_919) (fun _ h9 => h9) rfl dX10_isRight_121 ?_
                        refine lv_iload hx hb dX10_isRight_124 (lv_at hl 0 rfl) ?_
                        refine gs_iald hx hb hK hM 10 0 (by decide) rfl (vp_in_iff.mpr ⟨by omega, by omega⟩) dX10_isRight_126 ?_
                        refine lv_topi (fun x_136 ex_136 => ?_)
                        have qx_136 : x_136.toInt = (st 10 0 (y7_0.toNatClampNeg)).toInt := congrArg Int32.toInt ex_136
                        refine lv_iload_n hx hb dX10_isRight_127 rfl (lv_at hl 3 rfl) ?_
                        refine lv_icmp_ne (tgt := 183) hx hb dX10_isRight_128 (by decide) (fun c_137 => ?_) (fun c_137 => ?_)
                        · have ic_137 := gz_ne (rfl : x_136.toInt = x_136.toInt) (rfl : x.toInt = x.toInt) c_137
                          obtain ⟨x_138, ex_138⟩ : ∃ y : Int32, y = y7_0 + 1 := ⟨_, rfl⟩
                          try have tx_138 : x_138.toInt = y7_0.toInt + 1 := by rw [ex_138]; exact gz_addP (x := y7_0.toInt) (y := 1) rfl (by decide) (by omega) (by omega)
                          refine lv_iinc (v := (x_138)) (lv' := [(9, .int x_138), (8, .int x_3), (0, .ref (ad 0 0)), (1, .int x), (2, .int y), (3, .ref (ad 36 0)), (4, .int f), (5, .int 1), (6, .ref (ad 35 0)), (7, .int g)]) hx hb dX10_isRight_183 hl (k := 0) rfl (by rw [ex_138]; rfl) (by decide) rfl (fun ls hl => ?_)
                          refine lv_goto (tgt := 28) hx hb dX10_isRight_186 (by decide) ?_
                          exact ih_7  (x_138 : Int32) H _ ls (by omega)  (by have hb0 : (0 : Int) ≤ (st 0 0 28).toInt ∧ (st 0 0 28).toInt ≤ (1 : Int) := hB_st.1 0 0 28; omega) hM hS (lv_sub hl [0, 1, 2, 3, 4, 5, 6, 7, 8, 9] rfl)
                        · have ic_137 := gz_eqn (rfl : x_136.toInt = x_136.toInt) (rfl : x.toInt = x.toInt) c_137
                          refine lv_aload_n hx hb dX10_isRight_131 rfl (lv_at hl 2 rfl) ?_
                          refine gs_get (C := RX10) (T := TX10) (N := 59) hx hb hts inX10 hown hK hM 0 0 1 (by decide) rfl rfl (by decide) (hts _ gm_898) (fun _ h9 => h9) rfl dX10_isRight_132 ?_
                          refine lv_aload_n hx hb dX10_isRight_135 rfl (lv_at hl 2 rfl) ?_
                          refine gs_get (C := RX10) (T := TX10) (N := 59) hx hb hts inX10 hown hK hM 0 0 21 (by decide) rfl rfl (by decide) (hts _ gm_918) (fun _ h9 => h9) rfl dX10_isRight_136 ?_
                          refine lv_iload hx hb dX10_isRight_139 (lv_at hl 0 rfl) ?_
                          refine gs_iald hx hb hK hM 9 0 (by decide) rfl (vp_in_iff.mpr ⟨by omega, by omega⟩) dX10_isRight_141 ?_
                          refine lv_topi (fun x_139 ex_139 => ?_)
                          have qx_139 : x_139.toInt = (st 9 0 (y7_0.toNatClampNeg)).toInt := congrArg Int32.toInt ex_139
                          have bx_139 : (0 : Int) ≤ x_139.toInt ∧ x_139.toInt ≤ (5 : Int) := by rw [qx_139]; exact hB_st.1 9 0 (y7_0.toNatClampNeg)
                          refine gs_zald hx hb hK hM 1 0 (by decide) rfl (vp_in_iff.mpr ⟨by omega, by omega⟩) dX10_isRight_142 ?_
                          refine lv_topi (fun x_140 ex_140 => ?_)
                          have qx_140 : x_140.toInt = (st 1 0 (x_139.toNatClampNeg)).toInt := congrArg Int32.toInt ex_140
                          refine lv_if_eq (tgt := 183) hx hb dX10_isRight_143 (by decide) (fun c_141 => ?_) (fun c_141 => ?_)
                          · have ic_141 := gz_eq (rfl : x_140.toInt = x_140.toInt) (by decide : (0 : Int32).toInt = 0) c_141
                            obtain ⟨x_142, ex_142⟩ : ∃ y : Int32, y = y7_0 + 1 := ⟨_, rfl⟩
                            try have tx_142 : x_142.toInt = y7_0.toInt + 1 := by rw [ex_142]; exact gz_addP (x := y7_0.toInt) (y := 1) rfl (by decide) (by omega) (by omega)
                            refine lv_iinc (v := (x_142)) (lv' := [(9, .int x_142), (8, .int x_3), (0, .ref (ad 0 0)), (1, .int x), (2, .int y), (3, .ref (ad 36 0)), (4, .int f), (5, .int 1), (6, .ref (ad 35 0)), (7, .int g)]) hx hb dX10_isRight_183 hl (k := 0) rfl (by rw [ex_142]; rfl) (by decide) rfl (fun ls hl => ?_)
                            refine lv_goto (tgt := 28) hx hb dX10_isRight_186 (by decide) ?_
                            exact ih_7  (x_142 : Int32) H _ ls (by omega)  (by have hb0 : (0 : Int) ≤ (st 0 0 28).toInt ∧ (st 0 0 28).toInt ≤ (1 : Int) := hB_st.1 0 0 28; omega) hM hS (lv_sub hl [0, 1, 2, 3, 4, 5, 6, 7, 8, 9] rfl)
                          · have ic_141 := gz_ne (rfl : x_140.toInt = x_140.toInt) (by decide : (0 : Int32).toInt = 0) c_141
                            refine lv_aload hx hb dX10_isRight_146 (lv_at hl 8 rfl) ?_
                            refine lv_iload hx hb dX10_isRight_148 (lv_at hl 9 rfl) ?_
                            refine lv_aload_n hx hb dX10_isRight_150 rfl (lv_at hl 2 rfl) ?_
                            refine gs_get (C := RX10) (T := TX10) (N := 59) hx hb hts inX10 hown hK hM 0 0 21 (by decide) rfl rfl (by decide) (hts _ gm_918) (fun _ h9 => h9) rfl dX10_isRight_151 ?_
                            refine lv_iload hx hb dX10_isRight_154 (lv_at hl 0 rfl) ?_
                            refine gs_iald hx hb hK hM 9 0 (by decide) rfl (vp_in_iff.mpr ⟨by omega, by omega⟩) dX10_isRight_156 ?_
                            refine lv_topi (fun x_143 ex_143 => ?_)
                            have qx_143 : x_143.toInt = (st 9 0 (y7_0.toNatClampNeg)).toInt := congrArg Int32.toInt ex_143
                            have bx_143 : (0 : Int) ≤ x_143.toInt ∧ x_143.toInt ≤ (5 : Int) := by rw [qx_143]; exact hB_st.1 9 0 (y7_0.toNatClampNeg)
                            refine lv_iadd hx hb dX10_isRight_157 ?_
                            refine lv_topi (fun x_144 ex_144 => ?_)
                            try have tx_144 : x_144.toInt = g.toInt + x_143.toInt := by rw [ex_144]; exact gz_addI (x := g.toInt) (y := x_143.toInt) rfl rfl (by omega) (by omega)
                            refine gs_iald hx hb hK hM 35 0 (by decide) rfl (vp_in_iff.mpr ⟨by omega, by omega⟩) dX10_isRight_158 ?_
                            refine lv_topi (fun x_145 ex_145 => ?_)
                            have qx_145 : x_145.toInt = (st 35 0 (x_144.toNatClampNeg)).toInt := congrArg Int32.toInt ex_145
                            refine lv_if_ne (tgt := 183) hx hb dX10_isRight_159 (by decide) (fun c_146 => ?_) (fun c_146 => ?_)
                            · have ic_146 := gz_ne (rfl : x_145.toInt = x_145.toInt) (by decide : (0 : Int32).toInt = 0) c_146
                              obtain ⟨x_147, ex_147⟩ : ∃ y : Int32, y = y7_0 + 1 := ⟨_, rfl⟩
                              try have tx_147 : x_147.toInt = y7_0.toInt + 1 := by rw [ex_147]; exact gz_addP (x := y7_0.toInt) (y := 1) rfl (by decide) (by omega) (by omega)
                              refine lv_iinc (v := (x_147)) (lv' := [(9, .int x_147), (8, .int x_3), (0, .ref (ad 0 0)), (1, .int x), (2, .int y), (3, .ref (ad 36 0)), (4, .int f), (5, .int 1), (6, .ref (ad 35 0)), (7, .int g)]) hx hb dX10_isRight_183 hl (k := 0) rfl (by rw [ex_147]; rfl) (by decide) rfl (fun ls hl => ?_)
                              refine lv_goto (tgt := 28) hx hb dX10_isRight_186 (by decide) ?_
                              exact ih_7  (x_147 : Int32) H _ ls (by omega)  (by have hb0 : (0 : Int) ≤ (st 0 0 28).toInt ∧ (st 0 0 28).toInt ≤ (1 : Int) := hB_st.1 0 0 28; omega) hM hS (lv_sub hl [0, 1, 2, 3, 4, 5, 6, 7, 8, 9] rfl)
                            · have ic_146 := gz_eqn (rfl : x_145.toInt = x_145.toInt) (by decide : (0 : Int32).toInt = 0) c_146
                              refine lv_aload_n hx hb dX10_isRight_162 rfl (lv_at hl 5 rfl) ?_
                              refine lv_iload hx hb dX10_isRight_163 (lv_at hl 6 rfl) ?_
                              refine lv_iload hx hb dX10_isRight_165 (lv_at hl 7 rfl) ?_
                              refine lv_aload_n hx hb dX10_isRight_167 rfl (lv_at hl 2 rfl) ?_
                              refine gs_get (C := RX10) (T := TX10) (N := 59) hx hb hts inX10 hown hK hM 0 0 21 (by decide) rfl rfl (by decide) (hts _ gm_918) (fun _ h9 => h9) rfl dX10_isRight_168 ?_
                              refine lv_iload hx hb dX10_isRight_171 (lv_at hl 0 rfl) ?_
                              refine gs_iald hx hb hK hM 9 0 (by decide) rfl (vp_in_iff.mpr ⟨by omega, by omega⟩) dX10_isRight_173 ?_
                              refine lv_topi (fun x_148 ex_148 => ?_)
                              have qx_148 : x_148.toInt = (st 9 0 (y7_0.toNatClampNeg)).toInt := congrArg Int32.toInt ex_148
                              have bx_148 : (0 : Int) ≤ x_148.toInt ∧ x_148.toInt ≤ (5 : Int) := by rw [qx_148]; exact hB_st.1 9 0 (y7_0.toNatClampNeg)
                              refine lv_imul hx hb dX10_isRight_174 ?_
                              refine lv_topi (fun x_149 ex_149 => ?_)
                              try have tx_149 : x_149.toInt = 1 * x_148.toInt := by rw [ex_149]; exact gz_mulI (x := 1) (y := x_148.toInt) (by decide) rfl (by omega) (by omega)
                              refine lv_iadd hx hb dX10_isRight_175 ?_
                              refine lv_topi (fun x_150 ex_150 => ?_)
                              try have tx_150 : x_150.toInt = f.toInt + x_149.toInt := by rw [ex_150]; exact gz_addI (x := f.toInt) (y := x_149.toInt) rfl rfl (by omega) (by omega)
                              refine gs_iald hx hb hK hM 36 0 (by decide) rfl (vp_in_iff.mpr ⟨by omega, by omega⟩) dX10_isRight_176 ?_
                              refine lv_topi (fun x_151 ex_151 => ?_)
                              have qx_151 : x_151.toInt = (st 36 0 (x_150.toNatClampNeg)).toInt := congrArg Int32.toInt ex_151
                              refine lv_iload_n hx hb dX10_isRight_177 rfl (lv_at hl 4 rfl) ?_
                              refine lv_icmp_ne (tgt := 183) hx hb dX10_isRight_178 (by decide) (fun c_152 => ?_) (fun c_152 => ?_)
                              · have ic_152 := gz_ne (rfl : x_151.toInt = x_151.toInt) (rfl : y.toInt = y.toInt) c_152
                                obtain ⟨x_153, ex_153⟩ : ∃ y : Int32, y = y7_0 + 1 := ⟨_, rfl⟩
                                try have tx_153 : x_153.toInt = y7_0.toInt + 1 := by rw [ex_153]; exact gz_addP (x := y7_0.toInt) (y := 1) rfl (by decide) (by omega) (by omega)
                                refine lv_iinc (v := (x_153)) (lv' := [(9, .int x_153), (8, .int x_3), (0, .ref (ad 0 0)), (1, .int x), (2, .int y), (3, .ref (ad 36 0)), (4, .int f), (5, .int 1), (6, .ref (ad 35 0)), (7, .int g)]) hx hb dX10_isRight_183 hl (k := 0) rfl (by rw [ex_153]; rfl) (by decide) rfl (fun ls hl => ?_)
                                refine lv_goto (tgt := 28) hx hb dX10_isRight_186 (by decide) ?_
                                exact ih_7  (x_153 : Int32) H _ ls (by omega)  (by have hb0 : (0 : Int) ≤ (st 0 0 28).toInt ∧ (st 0 0 28).toInt ≤ (1 : Int) := hB_st.1 0 0 28; omega) hM hS (lv_sub hl [0, 1, 2, 3, 4, 5, 6, 7, 8, 9] rfl)
                              · have ic_152 := gz_eqn (rfl : x_151.toInt = x_151.toInt) (rfl : y.toInt = y.toInt) c_152
                                refine lv_iconst (v := 1) hx hb dX10_isRight_181 (by decide) ?_
                                rw [← hQe]
                                exact gs_iret hx hb hr hlocks hM hS (by decide) ⟨hB_st, (Or.inl rfl)⟩ (by exact Nat.le_refl _) (by exact Nat.le_refl _) dX10_isRight_182
                    · have ic_132 := gz_eqn (rfl : x_131.toInt = x_131.toInt) (rfl : x_3.toInt = x_3.toInt) c_132
                      refine lv_iconst (v := 1) hx hb dX10_isRight_107 (by decide) ?_
                      rw [← hQe]
                      exact gs_iret hx hb hr hlocks hM hS (by decide) ⟨hB_st, (Or.inl rfl)⟩ (by exact Nat.le_refl _) (by exact Nat.le_refl _) dX10_isRight_108
    exact lp7 ((48 - (x_6 : Int32).toInt).toNat + 1)  (x_6 : Int32) H _ ls (Nat.lt_succ_self _)  (by have hb0 : (0 : Int) ≤ (st 0 0 28).toInt ∧ (st 0 0 28).toInt ≤ (1 : Int) := hB_st.1 0 0 28; omega) hM hS (lv_sub hl [0, 1, 2, 3, 4, 5, 6, 7, 8, 9] rfl)
  · have ic_4 := gz_eqn (rfl : x_3.toInt = x_3.toInt) (rfl : y.toInt = y.toInt) c_4
    refine lv_iconst (v := 1) hx hb dX10_isRight_17 (by decide) ?_
    rw [← hQe]
    exact gs_iret hx hb hr hlocks hM hS (by decide) ⟨hB_st, (Or.inl rfl)⟩ (by exact Nat.le_refl _) (by exact Nat.le_refl _) dX10_isRight_18

set_option maxHeartbeats 4000000 in
set_option maxRecDepth 100000 in
/-- WellCourtModel.isRightNow -/
theorem m_isRightNow (l : Launch) (G : va_G) (cy : Nat → ClassId) (sK sV : Nat → Nat) (ad : Nat → Nat → Nat) (sz : Nat) (st : gS) (hB : gBd bM st) (x : Int32) (y : Int32) (Xx : Int) (Xy : Int) (kx : x.toInt = Xx) (ky : y.toInt = Xy) (hx0 : 0 ≤ Xx) (hx1 : Xx < 6) : gsMi l yX10_isRightNow cX10_isRightNow 3 (some .boolean) ({ frames := 1, cells := 0, slots := 0, locals := 29 } : Room) G cy sK sV (shM cy ad) cnM ad sz [.ref (ad 0 0), .int x, .int y] st (fun (r : Int32) (u : gS) => gBN bM kM [] st u ∧ ((r = 1) ∨ (r = 0))) := by
  refine gs_start (fun A => gsQi G (shM cy ad) cnM ad _ A) (by decide) (Nat.le_of_ble_eq_true rfl) ?_
  intro p e s m below meth c A ls H hx hb hr hml hlocks hown hts hK hov hE hI hM hm hS hA hl
  have hl : lv_has ls 3 [(0, .ref (ad 0 0)), (1, .int x), (2, .int y)] := hl
  have hB_st : gBN bM kM [] st st := gBN.rf hB
  refine lv_aload_n hx hb dX10_isRightNow_0 rfl (lv_at hl 0 rfl) ?_
  refine lv_iload_n hx hb dX10_isRightNow_1 rfl (lv_at hl 1 rfl) ?_
  refine lv_iload_n hx hb dX10_isRightNow_2 rfl (lv_at hl 2 rfl) ?_
  refine lv_aload_n hx hb dX10_isRightNow_3 rfl (lv_at hl 0 rfl) ?_
  refine gs_get (C := RX10) (T := TX10) (N := 59) hx hb hts inX10 hown hK hM 0 0 6 (by decide) rfl rfl (by decide) (hts _ gm_903) (fun _ h9 => h9) rfl dX10_isRightNow_4 ?_
  refine lv_aload_n hx hb dX10_isRightNow_7 rfl (lv_at hl 0 rfl) ?_
  refine gs_get (C := RX10) (T := TX10) (N := 59) hx hb hts inX10 hown hK hM 0 0 7 (by decide) rfl rfl (by decide) (hts _ gm_904) (fun _ h9 => h9) rfl dX10_isRightNow_8 ?_
  have bf_1 : (0 : Int) ≤ (st 0 0 7).toInt ∧ (st 0 0 7).toInt ≤ (199 : Int) := hB_st.1 0 0 7
  refine lv_sipush (v := 200) hx hb dX10_isRightNow_11 (by decide) ?_
  refine lv_aload_n hx hb dX10_isRightNow_14 rfl (lv_at hl 0 rfl) ?_
  refine gs_get (C := RX10) (T := TX10) (N := 59) hx hb hts inX10 hown hK hM 0 0 5 (by decide) rfl rfl (by decide) (hts _ gm_902) (fun _ h9 => h9) rfl dX10_isRightNow_15 ?_
  refine lv_iconst (v := 0) hx hb dX10_isRightNow_18 (by decide) ?_
  refine gs_calli (va_runV (As := [.int x, .int y, .ref (ad 6 0), .int (st 0 0 7), .int 200, .ref (ad 5 0), .int 0]) (rest := []) ⟨hx, hb, hml, hown, hts⟩ (m_isRightA l G cy sK sV ad H.size st hB_st.1 x y (st 0 0 7) x.toInt y.toInt ((st 0 0 7).toInt) rfl rfl rfl (by first | decide | omega) (by first | decide | omega) (by first | decide | omega) (by first | decide | omega)) ⟨(gz_cb (n := 7) hts gm_1216 gm_12 gm_1219 ⟨by decide +kernel, by decide +kernel, by decide +kernel⟩ ⟨Nat.le_of_ble_eq_true rfl, Nat.le_of_ble_eq_true rfl⟩), hts _ gm_1218, hts _ gs_52⟩ (gs_preV hK hov hE hI hM hm hS hA 0 0 (by decide) rfl rfl) rfl rfl hl.1 rfl (lv_room (Nat.le_of_ble_eq_true rfl)) dX10_isRightNow_19 ⟨Nat.le_of_ble_eq_true rfl, Nat.le_of_ble_eq_true rfl⟩) hm hS hA (fun r_2 st_2 H locs hw_2 hM hS => ?_)
  obtain ⟨n_2, hw_2⟩ := hw_2
  have n_2 := gBN.nil n_2
  subst n_2
  rcases hw_2 with rfl | rfl
  · skip
    exact gs_iret hx hb hr hlocks hM hS (by decide) ⟨hB_st, (Or.inl rfl)⟩ (by exact Nat.le_refl _) (by exact Nat.le_refl _) dX10_isRightNow_22
  · skip
    exact gs_iret hx hb hr hlocks hM hS (by decide) ⟨hB_st, (Or.inr (rfl))⟩ (by exact Nat.le_refl _) (by exact Nat.le_refl _) dX10_isRightNow_22

set_option maxHeartbeats 4000000 in
set_option maxRecDepth 100000 in
/-- WellCourtModel.guestRule -/
theorem m_guestRule (l : Launch) (G : va_G) (cy : Nat → ClassId) (sK sV : Nat → Nat) (ad : Nat → Nat → Nat) (sz : Nat) (st : gS) (hB : gBd bM st) (x : Int32) (y : Int32) (Xx : Int) (Xy : Int) (kx : x.toInt = Xx) (ky : y.toInt = Xy) (hx0 : 0 ≤ Xx) (hx1 : Xx < 6) : gsMi l yX10_guestRule cX10_guestRule 5 (some .int) ({ frames := 0, cells := 0, slots := 0, locals := 0 } : Room) G cy sK sV (shM cy ad) cnM ad sz [.ref (ad 0 0), .int x, .int y] st (fun (r : Int32) (u : gS) => gBN bM kM [] st u ∧ ((r.toInt = -1 ∨ (0 ≤ r.toInt ∧ r.toInt < 48)))) := by
  refine gs_start (fun A => gsQi G (shM cy ad) cnM ad _ A) (by decide) (Nat.le_of_ble_eq_true rfl) ?_
  intro p e s m below meth c A ls H hx hb hr hml hlocks hown hts hK hov hE hI hM hm hS hA hl
  have hl : lv_has ls 5 [(0, .ref (ad 0 0)), (1, .int x), (2, .int y)] := hl
  have hB_st : gBN bM kM [] st st := gBN.rf hB
  have bb1 : (0 : Int) ≤ (st 0 0 28).toInt ∧ (st 0 0 28).toInt ≤ (1 : Int) := hB 0 0 28
  have bb2 : (0 : Int) ≤ (st 0 0 29).toInt ∧ (st 0 0 29).toInt ≤ (20 : Int) := hB 0 0 29
  have bb3 : (0 : Int) ≤ (st 0 0 30).toInt ∧ (st 0 0 30).toInt ≤ (20 : Int) := hB 0 0 30
  generalize hQe : MQ below _ _ s _ _ A = Q
  refine lv_aload_n hx hb dX10_guestRule_0 rfl (lv_at hl 0 rfl) ?_
  refine gs_get (C := RX10) (T := TX10) (N := 59) hx hb hts inX10 hown hK hM 0 0 6 (by decide) rfl rfl (by decide) (hts _ gm_903) (fun _ h9 => h9) rfl dX10_guestRule_1 ?_
  refine lv_sipush (v := 200) hx hb dX10_guestRule_4 (by decide) ?_
  refine lv_iload_n hx hb dX10_guestRule_7 rfl (lv_at hl 1 rfl) ?_
  refine lv_imul hx hb dX10_guestRule_8 ?_
  refine lv_topi (fun x_1 ex_1 => ?_)
  try have tx_1 : x_1.toInt = 200 * x.toInt := by rw [ex_1]; exact gz_mulI (x := 200) (y := x.toInt) (by decide) rfl (by omega) (by omega)
  refine lv_aload_n hx hb dX10_guestRule_9 rfl (lv_at hl 0 rfl) ?_
  refine gs_get (C := RX10) (T := TX10) (N := 59) hx hb hts inX10 hown hK hM 0 0 7 (by decide) rfl rfl (by decide) (hts _ gm_904) (fun _ h9 => h9) rfl dX10_guestRule_10 ?_
  have bf_2 : (0 : Int) ≤ (st 0 0 7).toInt ∧ (st 0 0 7).toInt ≤ (199 : Int) := hB_st.1 0 0 7
  refine lv_iadd hx hb dX10_guestRule_13 ?_
  refine lv_topi (fun x_3 ex_3 => ?_)
  try have tx_3 : x_3.toInt = x_1.toInt + (st 0 0 7).toInt := by rw [ex_3]; exact gz_addI (x := x_1.toInt) (y := (st 0 0 7).toInt) rfl rfl (by omega) (by omega)
  refine gs_iald hx hb hK hM 6 0 (by decide) rfl (vp_in_iff.mpr ⟨by omega, by omega⟩) dX10_guestRule_14 ?_
  refine lv_topi (fun x_4 ex_4 => ?_)
  have qx_4 : x_4.toInt = (st 6 0 (x_3.toNatClampNeg)).toInt := congrArg Int32.toInt ex_4
  refine lv_istore_n (lv' := [(3, .int x_4), (0, .ref (ad 0 0)), (1, .int x), (2, .int y)]) hx hb dX10_guestRule_15 rfl hl (by decide) rfl (fun ls hl => ?_)
  refine lv_bipush (v := 24) hx hb dX10_guestRule_16 (by decide) ?_
  refine lv_aload_n hx hb dX10_guestRule_18 rfl (lv_at hl 1 rfl) ?_
  refine gs_get (C := RX10) (T := TX10) (N := 59) hx hb hts inX10 hown hK hM 0 0 28 (by decide) rfl rfl (by decide) (hts _ gm_925) (fun _ h9 => h9) rfl dX10_guestRule_19 ?_
  have bf_5 : (0 : Int) ≤ (st 0 0 28).toInt ∧ (st 0 0 28).toInt ≤ (1 : Int) := hB_st.1 0 0 28
  refine lv_imul hx hb dX10_guestRule_22 ?_
  refine lv_topi (fun x_6 ex_6 => ?_)
  try have tx_6 : x_6.toInt = 24 * (st 0 0 28).toInt := by rw [ex_6]; exact gz_mulI (x := 24) (y := (st 0 0 28).toInt) (by decide) rfl (by omega) (by omega)
  refine lv_istore (lv' := [(4, .int x_6), (3, .int x_4), (0, .ref (ad 0 0)), (1, .int x), (2, .int y)]) hx hb dX10_guestRule_23 hl (by decide) rfl (fun ls hl => ?_)
  have lp7 : ∀ (n7 : Nat)  (y7_0 : Int32) (H : Heap) (locs : List Loc) (ls : Array Slot), (48 - y7_0.toInt).toNat < n7 →  (24 * (st 0 0 28).toInt ≤ y7_0.toInt) → gM G (shM cy ad) cnM ad st H → va_S A s.heap H locs → lv_has ls 5 [(4, .int y7_0), (3, .int x_4), (0, .ref (ad 0 0)), (1, .int x), (2, .int y)] → W p l e ({ frames := 0, cells := 0, slots := 0, locals := 0 } : Room) s m [.ref (ad 0 0), .int x, .int y].toArray below meth c H locs 0 0 Q (F0 m 25 ls []) := by
    intro n7
    induction n7 with
    | zero => intro  y7_0 H locs ls h9; exact absurd h9 (Nat.not_lt_zero _)
    | succ n7 ih_7 =>
      intro  y7_0 H locs ls hme7  hv7_0 hM hS hl
      have hb7_0 : (0 : Int) ≤ (st 0 0 28).toInt ∧ (st 0 0 28).toInt ≤ (1 : Int) := hB_st.1 0 0 28
      refine lv_iload hx hb dX10_guestRule_25 (lv_at hl 0 rfl) ?_
      refine lv_bipush (v := 24) hx hb dX10_guestRule_27 (by decide) ?_
      refine lv_aload_n hx hb dX10_guestRule_29 rfl (lv_at hl 2 rfl) ?_
      refine gs_get (C := RX10) (T := TX10) (N := 59) hx hb hts inX10 hown hK hM 0 0 28 (by decide) rfl rfl (by decide) (hts _ gm_925) (fun _ h9 => h9) rfl dX10_guestRule_30 ?_
      have bf_8 : (0 : Int) ≤ (st 0 0 28).toInt ∧ (st 0 0 28).toInt ≤ (1 : Int) := hB_st.1 0 0 28
      refine lv_imul hx hb dX10_guestRule_33 ?_
      refine lv_topi (fun x_9 ex_9 => ?_)
      try have tx_9 : x_9.toInt = 24 * (st 0 0 28).toInt := by rw [ex_9]; exact gz_mulI (x := 24) (y := (st 0 0 28).toInt) (by decide) rfl (by omega) (by omega)
      refine lv_aload_n hx hb dX10_guestRule_34 rfl (lv_at hl 2 rfl) ?_
      refine gs_get (C := RX10) (T := TX10) (N := 59) hx hb hts inX10 hown hK hM 0 0 29 (by decide) rfl rfl (by decide) (hts _ gm_926) (fun _ h9 => h9) rfl dX10_guestRule_35 ?_
      have bf_10 : (0 : Int) ≤ (st 0 0 29).toInt ∧ (st 0 0 29).toInt ≤ (20 : Int) := hB_st.1 0 0 29
      refine lv_iadd hx hb dX10_guestRule_38 ?_
      refine lv_topi (fun x_11 ex_11 => ?_)
      try have tx_11 : x_11.toInt = x_9.toInt + (st 0 0 29).toInt := by rw [ex_11]; exact gz_addI (x := x_9.toInt) (y := (st 0 0 29).toInt) rfl rfl (by omega) (by omega)
      refine lv_icmp_ge (tgt := 95) hx hb dX10_guestRule_39 (by decide) (fun c_12 => ?_) (fun c_12 => ?_)
      · have ic_12 := gz_le (rfl : x_11.toInt = x_11.toInt) (rfl : y7_0.toInt = y7_0.toInt) c_12
        refine lv_iconst (v := (-1)) hx hb dX10_guestRule_95 (by decide) ?_
        rw [← hQe]
        exact gs_iret hx hb hr hlocks hM hS rfl ⟨hB_st, (by have hl0 : ((-1) : Int32).toInt = -1 := (by decide); omega)⟩ (by exact Nat.le_refl _) (by exact Nat.le_refl _) dX10_guestRule_96
      · have ic_12 := gz_nle (rfl : x_11.toInt = x_11.toInt) (rfl : y7_0.toInt = y7_0.toInt) c_12
        have lc_12 := gi_hi x_11
        refine lv_aload_n hx hb dX10_guestRule_42 rfl (lv_at hl 2 rfl) ?_
        refine gs_get (C := RX10) (T := TX10) (N := 59) hx hb hts inX10 hown hK hM 0 0 20 (by decide) rfl rfl (by decide) (hts _ gm_917) (fun _ h9 => h9) rfl dX10_guestRule_43 ?_
        refine lv_iload hx hb dX10_guestRule_46 (lv_at hl 0 rfl) ?_
        refine gs_iald hx hb hK hM 8 0 (by decide) rfl (vp_in_iff.mpr ⟨by omega, by omega⟩) dX10_guestRule_48 ?_
        refine lv_topi (fun x_13 ex_13 => ?_)
        have qx_13 : x_13.toInt = (st 8 0 (y7_0.toNatClampNeg)).toInt := congrArg Int32.toInt ex_13
        refine lv_iconst (v := 1) hx hb dX10_guestRule_49 (by decide) ?_
        refine lv_icmp_ne (tgt := 89) hx hb dX10_guestRule_50 (by decide) (fun c_14 => ?_) (fun c_14 => ?_)
        · have ic_14 := gz_ne (rfl : x_13.toInt = x_13.toInt) (by decide : (1 : Int32).toInt = 1) c_14
          obtain ⟨x_15, ex_15⟩ : ∃ y : Int32, y = y7_0 + 1 := ⟨_, rfl⟩
          try have tx_15 : x_15.toInt = y7_0.toInt + 1 := by rw [ex_15]; exact gz_addP (x := y7_0.toInt) (y := 1) rfl (by decide) (by omega) (by omega)
          refine lv_iinc (v := (x_15)) (lv' := [(4, .int x_15), (3, .int x_4), (0, .ref (ad 0 0)), (1, .int x), (2, .int y)]) hx hb dX10_guestRule_89 hl (k := 0) rfl (by rw [ex_15]; rfl) (by decide) rfl (fun ls hl => ?_)
          refine lv_goto (tgt := 25) hx hb dX10_guestRule_92 (by decide) ?_
          exact ih_7  (x_15 : Int32) H _ ls (by omega)  (by have hb0 : (0 : Int) ≤ (st 0 0 28).toInt ∧ (st 0 0 28).toInt ≤ (1 : Int) := hB_st.1 0 0 28; omega) hM hS (lv_sub hl [0, 1, 2, 3, 4] rfl)
        · have ic_14 := gz_eqn (rfl : x_13.toInt = x_13.toInt) (by decide : (1 : Int32).toInt = 1) c_14
          refine lv_aload_n hx hb dX10_guestRule_53 rfl (lv_at hl 2 rfl) ?_
          refine gs_get (C := RX10) (T := TX10) (N := 59) hx hb hts inX10 hown hK hM 0 0 21 (by decide) rfl rfl (by decide) (hts _ gm_918) (fun _ h9 => h9) rfl dX10_guestRule_54 ?_
          refine lv_iload hx hb dX10_guestRule_57 (lv_at hl 0 rfl) ?_
          refine gs_iald hx hb hK hM 9 0 (by decide) rfl (vp_in_iff.mpr ⟨by omega, by omega⟩) dX10_guestRule_59 ?_
          refine lv_topi (fun x_16 ex_16 => ?_)
          have qx_16 : x_16.toInt = (st 9 0 (y7_0.toNatClampNeg)).toInt := congrArg Int32.toInt ex_16
          have bx_16 : (0 : Int) ≤ x_16.toInt ∧ x_16.toInt ≤ (5 : Int) := by rw [qx_16]; exact hB_st.1 9 0 (y7_0.toNatClampNeg)
          refine lv_iload_n hx hb dX10_guestRule_60 rfl (lv_at hl 4 rfl) ?_
          refine lv_icmp_ne (tgt := 89) hx hb dX10_guestRule_61 (by decide) (fun c_17 => ?_) (fun c_17 => ?_)
          · have ic_17 := gz_ne (rfl : x_16.toInt = x_16.toInt) (rfl : y.toInt = y.toInt) c_17
            obtain ⟨x_18, ex_18⟩ : ∃ y : Int32, y = y7_0 + 1 := ⟨_, rfl⟩
            try have tx_18 : x_18.toInt = y7_0.toInt + 1 := by rw [ex_18]; exact gz_addP (x := y7_0.toInt) (y := 1) rfl (by decide) (by omega) (by omega)
            refine lv_iinc (v := (x_18)) (lv' := [(4, .int x_18), (3, .int x_4), (0, .ref (ad 0 0)), (1, .int x), (2, .int y)]) hx hb dX10_guestRule_89 hl (k := 0) rfl (by rw [ex_18]; rfl) (by decide) rfl (fun ls hl => ?_)
            refine lv_goto (tgt := 25) hx hb dX10_guestRule_92 (by decide) ?_
            exact ih_7  (x_18 : Int32) H _ ls (by omega)  (by have hb0 : (0 : Int) ≤ (st 0 0 28).toInt ∧ (st 0 0 28).toInt ≤ (1 : Int) := hB_st.1 0 0 28; omega) hM hS (lv_sub hl [0, 1, 2, 3, 4] rfl)
          · have ic_17 := gz_eqn (rfl : x_16.toInt = x_16.toInt) (rfl : y.toInt = y.toInt) c_17
            refine lv_aload_n hx hb dX10_guestRule_64 rfl (lv_at hl 2 rfl) ?_
            refine gs_get (C := RX10) (T := TX10) (N := 59) hx hb hts inX10 hown hK hM 0 0 22 (by decide) rfl rfl (by decide) (hts _ gm_919) (fun _ h9 => h9) rfl dX10_guestRule_65 ?_
            refine lv_iload hx hb dX10_guestRule_68 (lv_at hl 0 rfl) ?_
            refine gs_iald hx hb hK hM 10 0 (by decide) rfl (vp_in_iff.mpr ⟨by omega, by omega⟩) dX10_guestRule_70 ?_
            refine lv_topi (fun x_19 ex_19 => ?_)
            have qx_19 : x_19.toInt = (st 10 0 (y7_0.toNatClampNeg)).toInt := congrArg Int32.toInt ex_19
            refine lv_iload_n hx hb dX10_guestRule_71 rfl (lv_at hl 3 rfl) ?_
            refine lv_icmp_ne (tgt := 89) hx hb dX10_guestRule_72 (by decide) (fun c_20 => ?_) (fun c_20 => ?_)
            · have ic_20 := gz_ne (rfl : x_19.toInt = x_19.toInt) (rfl : x.toInt = x.toInt) c_20
              obtain ⟨x_21, ex_21⟩ : ∃ y : Int32, y = y7_0 + 1 := ⟨_, rfl⟩
              try have tx_21 : x_21.toInt = y7_0.toInt + 1 := by rw [ex_21]; exact gz_addP (x := y7_0.toInt) (y := 1) rfl (by decide) (by omega) (by omega)
              refine lv_iinc (v := (x_21)) (lv' := [(4, .int x_21), (3, .int x_4), (0, .ref (ad 0 0)), (1, .int x), (2, .int y)]) hx hb dX10_guestRule_89 hl (k := 0) rfl (by rw [ex_21]; rfl) (by decide) rfl (fun ls hl => ?_)
              refine lv_goto (tgt := 25) hx hb dX10_guestRule_92 (by decide) ?_
              exact ih_7  (x_21 : Int32) H _ ls (by omega)  (by have hb0 : (0 : Int) ≤ (st 0 0 28).toInt ∧ (st 0 0 28).toInt ≤ (1 : Int) := hB_st.1 0 0 28; omega) hM hS (lv_sub hl [0, 1, 2, 3, 4] rfl)
            · have ic_20 := gz_eqn (rfl : x_19.toInt = x_19.toInt) (rfl : x.toInt = x.toInt) c_20
              refine lv_aload_n hx hb dX10_guestRule_75 rfl (lv_at hl 2 rfl) ?_
              refine gs_get (C := RX10) (T := TX10) (N := 59) hx hb hts inX10 hown hK hM 0 0 23 (by decide) rfl rfl (by decide) (hts _ gm_920) (fun _ h9 => h9) rfl dX10_guestRule_76 ?_
              refine lv_iload hx hb dX10_guestRule_79 (lv_at hl 0 rfl) ?_
              refine gs_iald hx hb hK hM 11 0 (by decide) rfl (vp_in_iff.mpr ⟨by omega, by omega⟩) dX10_guestRule_81 ?_
              refine lv_topi (fun x_22 ex_22 => ?_)
              have qx_22 : x_22.toInt = (st 11 0 (y7_0.toNatClampNeg)).toInt := congrArg Int32.toInt ex_22
              refine lv_iload_n hx hb dX10_guestRule_82 rfl (lv_at hl 1 rfl) ?_
              refine lv_icmp_ne (tgt := 89) hx hb dX10_guestRule_83 (by decide) (fun c_23 => ?_) (fun c_23 => ?_)
              · have ic_23 := gz_ne (rfl : x_22.toInt = x_22.toInt) (rfl : x_4.toInt = x_4.toInt) c_23
                obtain ⟨x_24, ex_24⟩ : ∃ y : Int32, y = y7_0 + 1 := ⟨_, rfl⟩
                try have tx_24 : x_24.toInt = y7_0.toInt + 1 := by rw [ex_24]; exact gz_addP (x := y7_0.toInt) (y := 1) rfl (by decide) (by omega) (by omega)
                refine lv_iinc (v := (x_24)) (lv' := [(4, .int x_24), (3, .int x_4), (0, .ref (ad 0 0)), (1, .int x), (2, .int y)]) hx hb dX10_guestRule_89 hl (k := 0) rfl (by rw [ex_24]; rfl) (by decide) rfl (fun ls hl => ?_)
                refine lv_goto (tgt := 25) hx hb dX10_guestRule_92 (by decide) ?_
                exact ih_7  (x_24 : Int32) H _ ls (by omega)  (by have hb0 : (0 : Int) ≤ (st 0 0 28).toInt ∧ (st 0 0 28).toInt ≤ (1 : Int) := hB_st.1 0 0 28; omega) hM hS (lv_sub hl [0, 1, 2, 3, 4] rfl)
              · have ic_23 := gz_eqn (rfl : x_22.toInt = x_22.toInt) (rfl : x_4.toInt = x_4.toInt) c_23
                refine lv_iload hx hb dX10_guestRule_86 (lv_at hl 0 rfl) ?_
                rw [← hQe]
                exact gs_iret hx hb hr hlocks hM hS rfl ⟨hB_st, (by omega)⟩ (by exact Nat.le_refl _) (by exact Nat.le_refl _) dX10_guestRule_88
  exact lp7 ((48 - (x_6 : Int32).toInt).toNat + 1)  (x_6 : Int32) H _ ls (Nat.lt_succ_self _)  (by have hb0 : (0 : Int) ≤ (st 0 0 28).toInt ∧ (st 0 0 28).toInt ≤ (1 : Int) := hB_st.1 0 0 28; omega) hM hS (lv_sub hl [0, 1, 2, 3, 4] rfl)

set_option maxHeartbeats 4000000 in
set_option maxRecDepth 100000 in
/-- WellCourtModel.may -/
theorem m_may (l : Launch) (G : va_G) (cy : Nat → ClassId) (sK sV : Nat → Nat) (ad : Nat → Nat → Nat) (sz : Nat) (st : gS) (hB : gBd bM st) (x : Int32) (y : Int32) (Xx : Int) (Xy : Int) (kx : x.toInt = Xx) (ky : y.toInt = Xy) : gsMi l yX10_may cX10_may 3 (some .int) ({ frames := 2, cells := 0, slots := 0, locals := 51 } : Room) G cy sK sV (shM cy ad) cnM ad sz [.ref (ad 0 0), .int x, .int y] st (fun (r : Int32) (u : gS) => gBN bM kM [0] st u ∧ (True)) := by
  refine gs_start (fun A => gsQi G (shM cy ad) cnM ad _ A) (by decide) (Nat.le_of_ble_eq_true rfl) ?_
  intro p e s m below meth c A ls H hx hb hr hml hlocks hown hts hK hov hE hI hM hm hS hA hl
  have hl : lv_has ls 3 [(0, .ref (ad 0 0)), (1, .int x), (2, .int y)] := hl
  have hB_st : gBN bM kM [0] st st := gBN.rf hB
  refine lv_aload_n hx hb dX10_may_0 rfl (lv_at hl 0 rfl) ?_
  refine lv_iconst (v := 0) hx hb dX10_may_1 (by decide) ?_
  refine gs_put (C := RX10) (T := TX10) (N := 59) (ty := .int) (val := .int 0) hx hb hts inX10 tyX10 tyX10_ok nmX10 hown hK hI hm hM hS 0 0 0 (by decide) rfl rfl (by decide) (hts _ gm_897) (fun _ h9 => h9) rfl (0 : Int32) rfl (by decide +kernel) rfl rfl (Nat.le_of_ble_eq_true rfl) dX10_may_2 (fun st_1 H locs est_1 hM hS => ?_)
  have hB_st_1 : gBN bM kM [0] st st_1 := by rw [est_1]; exact hB_st.up (show (0 : Nat) ∈ _ from by decide) (gi_lo _) (gi_hi _)
  refine lv_aload_n hx hb dX10_may_5 rfl (lv_at hl 0 rfl) ?_
  refine lv_iload_n hx hb dX10_may_6 rfl (lv_at hl 1 rfl) ?_
  refine gs_calli (va_runV (As := [.int x]) (rest := []) ⟨hx, hb, hml, hown, hts⟩ (m_hasWell l G cy sK sV ad H.size st_1 hB_st_1.1 x x.toInt rfl ) ⟨(gz_cb (n := 1) hts gm_1197 gm_12 gm_1200 ⟨by decide +kernel, by decide +kernel, by decide +kernel⟩ ⟨Nat.le_of_ble_eq_true rfl, Nat.le_of_ble_eq_true rfl⟩), hts _ gm_1199, hts _ gs_50⟩ (gs_preV hK hov hE hI hM hm hS hA 0 0 (by decide) rfl rfl) rfl rfl hl.1 rfl (lv_room (Nat.le_of_ble_eq_true rfl)) dX10_may_7 ⟨Nat.le_of_ble_eq_true rfl, Nat.le_of_ble_eq_true rfl⟩) hm hS hA (fun r_2 st_2 H locs hw_2 hM hS => ?_)
  obtain ⟨n_2, hw_2⟩ := hw_2
  have n_2 := gBN.nil n_2
  subst n_2
  rcases hw_2 with ⟨rfl, hw_2_0, hw_2_1, hw_2_2⟩ | ⟨rfl, hw_2_0⟩
  · skip
    refine lv_if_eq (tgt := 20) hx hb dX10_may_10 (by decide) (fun h9 => absurd h9 (by decide)) (fun _ => ?_)
    refine lv_iload_n hx hb dX10_may_13 rfl (lv_at hl 2 rfl) ?_
    refine gs_calli (va_runS (As := [.int y]) (rest := []) ⟨hx, hb, hml, hown, hts⟩ (m_isClan l G cy sK sV ad H.size st_1 hB_st_1.1 y y.toInt rfl ) ⟨(gz_cb (n := 1) hts gm_1209 gm_12 gm_1211 ⟨by decide +kernel, by decide +kernel, by decide +kernel⟩ ⟨Nat.le_of_ble_eq_true rfl, Nat.le_of_ble_eq_true rfl⟩), hts _ gm_1210⟩ (gs_preS hK hov hE hI hM hm hS hA) rfl rfl hl.1 rfl (lv_room (Nat.le_of_ble_eq_true rfl)) dX10_may_14 ⟨Nat.le_of_ble_eq_true rfl, Nat.le_of_ble_eq_true rfl⟩) hm hS hA (fun r_3 st_3 H locs hw_3 hM hS => ?_)
    obtain ⟨n_3, hw_3⟩ := hw_3
    have n_3 := gBN.nil n_3
    subst n_3
    rcases hw_3 with ⟨rfl, hw_3_0, hw_3_1⟩ | ⟨rfl, hw_3_0⟩
    · skip
      refine lv_if_ne (tgt := 22) hx hb dX10_may_17 (by decide) (fun _ => ?_) (fun h9 => absurd h9 (by decide))
      refine lv_aload_n hx hb dX10_may_22 rfl (lv_at hl 0 rfl) ?_
      refine lv_iload_n hx hb dX10_may_23 rfl (lv_at hl 1 rfl) ?_
      refine lv_iload_n hx hb dX10_may_24 rfl (lv_at hl 2 rfl) ?_
      refine gs_calli (va_runV (As := [.int x, .int y]) (rest := []) ⟨hx, hb, hml, hown, hts⟩ (m_isRightNow l G cy sK sV ad H.size st_1 hB_st_1.1 x y x.toInt y.toInt rfl rfl (by first | decide | omega) (by first | decide | omega)) ⟨(gz_cb (n := 2) hts gm_1212 gm_12 gm_1215 ⟨by decide +kernel, by decide +kernel, by decide +kernel⟩ ⟨Nat.le_of_ble_eq_true rfl, Nat.le_of_ble_eq_true rfl⟩), hts _ gm_1214, hts _ gs_51⟩ (gs_preV hK hov hE hI hM hm hS hA 0 0 (by decide) rfl rfl) rfl rfl hl.1 rfl (lv_room (Nat.le_of_ble_eq_true rfl)) dX10_may_25 ⟨Nat.le_of_ble_eq_true rfl, Nat.le_of_ble_eq_true rfl⟩) hm hS hA (fun r_4 st_4 H locs hw_4 hM hS => ?_)
      obtain ⟨n_4, hw_4⟩ := hw_4
      have n_4 := gBN.nil n_4
      subst n_4
      rcases hw_4 with rfl | rfl
      · skip
        refine lv_if_eq (tgt := 35) hx hb dX10_may_28 (by decide) (fun h9 => absurd h9 (by decide)) (fun _ => ?_)
        refine lv_iconst (v := 1) hx hb dX10_may_31 (by decide) ?_
        refine lv_goto (tgt := 49) hx hb dX10_may_32 (by decide) ?_
        exact gs_iret hx hb hr hlocks hM hS rfl ⟨hB_st_1, trivial⟩ (by exact Nat.le_refl _) (by exact Nat.le_refl _) dX10_may_49
      · skip
        refine lv_if_eq (tgt := 35) hx hb dX10_may_28 (by decide) (fun _ => ?_) (fun h9 => absurd (by decide) h9)
        refine lv_aload_n hx hb dX10_may_35 rfl (lv_at hl 0 rfl) ?_
        refine lv_iload_n hx hb dX10_may_36 rfl (lv_at hl 1 rfl) ?_
        refine lv_iload_n hx hb dX10_may_37 rfl (lv_at hl 2 rfl) ?_
        refine gs_calli (va_runV (As := [.int x, .int y]) (rest := []) ⟨hx, hb, hml, hown, hts⟩ (m_guestRule l G cy sK sV ad H.size st_1 hB_st_1.1 x y x.toInt y.toInt rfl rfl (by first | decide | omega) (by first | decide | omega)) ⟨(gz_cb (n := 2) hts gm_1220 gm_12 gm_1223 ⟨by decide +kernel, by decide +kernel, by decide +kernel⟩ ⟨Nat.le_of_ble_eq_true rfl, Nat.le_of_ble_eq_true rfl⟩), hts _ gm_1222, hts _ gs_53⟩ (gs_preV hK hov hE hI hM hm hS hA 0 0 (by decide) rfl rfl) rfl rfl hl.1 rfl (lv_room (Nat.le_of_ble_eq_true rfl)) dX10_may_38 ⟨Nat.le_of_ble_eq_true rfl, Nat.le_of_ble_eq_true rfl⟩) hm hS hA (fun r_5 st_5 H locs hw_5 hM hS => ?_)
        obtain ⟨n_5, hw_5⟩ := hw_5
        have n_5 := gBN.nil n_5
        subst n_5
        have hw_5_0 := hw_5
        refine lv_if_lt (tgt := 48) hx hb dX10_may_41 (by decide) (fun c_6 => ?_) (fun c_6 => ?_)
        · have ic_6 := gz_lt (rfl : r_5.toInt = r_5.toInt) (by decide : (0 : Int32).toInt = 0) c_6
          refine lv_iconst (v := 0) hx hb dX10_may_48 (by decide) ?_
          exact gs_iret hx hb hr hlocks hM hS rfl ⟨hB_st_1, trivial⟩ (by exact Nat.le_refl _) (by exact Nat.le_refl _) dX10_may_49
        · have ic_6 := gz_nlt (rfl : r_5.toInt = r_5.toInt) (by decide : (0 : Int32).toInt = 0) c_6
          refine lv_iconst (v := 2) hx hb dX10_may_44 (by decide) ?_
          refine lv_goto (tgt := 49) hx hb dX10_may_45 (by decide) ?_
          exact gs_iret hx hb hr hlocks hM hS rfl ⟨hB_st_1, trivial⟩ (by exact Nat.le_refl _) (by exact Nat.le_refl _) dX10_may_49
    · skip
      refine lv_if_ne (tgt := 22) hx hb dX10_may_17 (by decide) (fun h9 => absurd (by decide) h9) (fun _ => ?_)
      refine lv_iconst (v := (-1)) hx hb dX10_may_20 (by decide) ?_
      exact gs_iret hx hb hr hlocks hM hS rfl ⟨hB_st_1, trivial⟩ (by exact Nat.le_refl _) (by exact Nat.le_refl _) dX10_may_21
  · skip
    refine lv_if_eq (tgt := 20) hx hb dX10_may_10 (by decide) (fun _ => ?_) (fun h9 => absurd (by decide) h9)
    refine lv_iconst (v := (-1)) hx hb dX10_may_20 (by decide) ?_
    exact gs_iret hx hb hr hlocks hM hS rfl ⟨hB_st_1, trivial⟩ (by exact Nat.le_refl _) (by exact Nat.le_refl _) dX10_may_21

set_option maxHeartbeats 4000000 in
set_option maxRecDepth 100000 in
/-- WellCourtModel.lend -/
theorem m_lend (l : Launch) (G : va_G) (cy : Nat → ClassId) (sK sV : Nat → Nat) (ad : Nat → Nat → Nat) (sz : Nat) (st : gS) (hB : gBd bM st) (x : Int32) (y : Int32) (w : Int32) (Xx : Int) (Xy : Int) (Xw : Int) (kx : x.toInt = Xx) (ky : y.toInt = Xy) (kw : w.toInt = Xw) : gsMi l yX10_lend cX10_lend 5 (some .int) ({ frames := 1, cells := 0, slots := 0, locals := 20 } : Room) G cy sK sV (shM cy ad) cnM ad sz [.ref (ad 0 0), .int x, .int y, .int w] st (fun (r : Int32) (u : gS) => gBN bM kM [0, 600] st u ∧ (True)) := by
  refine gs_start (fun A => gsQi G (shM cy ad) cnM ad _ A) (by decide) (Nat.le_of_ble_eq_true rfl) ?_
  intro p e s m below meth c A ls H hx hb hr hml hlocks hown hts hK hov hE hI hM hm hS hA hl
  have hl : lv_has ls 5 [(0, .ref (ad 0 0)), (1, .int x), (2, .int y), (3, .int w)] := hl
  have hB_st : gBN bM kM [0, 600] st st := gBN.rf hB
  generalize hQe : MQ below _ _ s _ _ A = Q
  refine lv_aload_n hx hb dX10_lend_0 rfl (lv_at hl 0 rfl) ?_
  refine lv_iconst (v := 0) hx hb dX10_lend_1 (by decide) ?_
  refine gs_put (C := RX10) (T := TX10) (N := 59) (ty := .int) (val := .int 0) hx hb hts inX10 tyX10 tyX10_ok nmX10 hown hK hI hm hM hS 0 0 0 (by decide) rfl rfl (by decide) (hts _ gm_897) (fun _ h9 => h9) rfl (0 : Int32) rfl (by decide +kernel) rfl rfl (Nat.le_of_ble_eq_true rfl) dX10_lend_2 (fun st_1 H locs est_1 hM hS => ?_)
  have hB_st_1 : gBN bM kM [0, 600] st st_1 := by rw [est_1]; exact hB_st.up (show (0 : Nat) ∈ _ from by decide) (gi_lo _) (gi_hi _)
  refine lv_iload_n hx hb dX10_lend_5 rfl (lv_at hl 1 rfl) ?_
  refine lv_if_lt (tgt := 68) hx hb dX10_lend_6 (by decide) (fun c_2 => ?_) (fun c_2 => ?_)
  · have ic_2 := gz_lt (rfl : x.toInt = x.toInt) (by decide : (0 : Int32).toInt = 0) c_2
    refine lv_iconst (v := (-1)) hx hb dX10_lend_68 (by decide) ?_
    rw [← hQe]
    exact gs_iret hx hb hr hlocks hM hS rfl ⟨hB_st_1, trivial⟩ (by exact Nat.le_refl _) (by exact Nat.le_refl _) dX10_lend_69
  · have ic_2 := gz_nlt (rfl : x.toInt = x.toInt) (by decide : (0 : Int32).toInt = 0) c_2
    refine lv_iload_n hx hb dX10_lend_9 rfl (lv_at hl 1 rfl) ?_
    refine lv_bipush (v := 6) hx hb dX10_lend_10 (by decide) ?_
    refine lv_icmp_ge (tgt := 68) hx hb dX10_lend_12 (by decide) (fun c_3 => ?_) (fun c_3 => ?_)
    · have ic_3 := gz_le (by decide : (6 : Int32).toInt = 6) (rfl : x.toInt = x.toInt) c_3
      refine lv_iconst (v := (-1)) hx hb dX10_lend_68 (by decide) ?_
      rw [← hQe]
      exact gs_iret hx hb hr hlocks hM hS rfl ⟨hB_st_1, trivial⟩ (by exact Nat.le_refl _) (by exact Nat.le_refl _) dX10_lend_69
    · have ic_3 := gz_nle (by decide : (6 : Int32).toInt = 6) (rfl : x.toInt = x.toInt) c_3
      refine lv_iload_n hx hb dX10_lend_15 rfl (lv_at hl 3 rfl) ?_
      refine gs_calli (va_runS (As := [.int w]) (rest := []) ⟨hx, hb, hml, hown, hts⟩ (m_isClan l G cy sK sV ad H.size st_1 hB_st_1.1 w w.toInt rfl ) ⟨(gz_cb (n := 1) hts gm_1209 gm_12 gm_1211 ⟨by decide +kernel, by decide +kernel, by decide +kernel⟩ ⟨Nat.le_of_ble_eq_true rfl, Nat.le_of_ble_eq_true rfl⟩), hts _ gm_1210⟩ (gs_preS hK hov hE hI hM hm hS hA) rfl rfl hl.1 rfl (lv_room (Nat.le_of_ble_eq_true rfl)) dX10_lend_16 ⟨Nat.le_of_ble_eq_true rfl, Nat.le_of_ble_eq_true rfl⟩) hm hS hA (fun r_4 st_4 H locs hw_4 hM hS => ?_)
      obtain ⟨n_4, hw_4⟩ := hw_4
      have n_4 := gBN.nil n_4
      subst n_4
      rcases hw_4 with ⟨rfl, hw_4_0, hw_4_1⟩ | ⟨rfl, hw_4_0⟩
      · skip
        refine lv_if_eq (tgt := 68) hx hb dX10_lend_19 (by decide) (fun h9 => absurd h9 (by decide)) (fun _ => ?_)
        refine lv_iload_n hx hb dX10_lend_22 rfl (lv_at hl 2 rfl) ?_
        refine lv_aload_n hx hb dX10_lend_23 rfl (lv_at hl 0 rfl) ?_
        refine gs_get (C := RX10) (T := TX10) (N := 59) hx hb hts inX10 hown hK hM 0 0 7 (by decide) rfl rfl (by decide) (hts _ gm_904) (fun _ h9 => h9) rfl dX10_lend_24 ?_
        refine lv_topi (fun x_5 ex_5 => ?_)
        have ex_5 : (st 0 0 7) = x_5 := Eq.symm (ex_5.trans ((congrFun (congrFun (congrFun est_1 0) 0) 7).trans (gU_other (by decide))))
        subst ex_5
        have bf_6 : (0 : Int) ≤ (st 0 0 7).toInt ∧ (st 0 0 7).toInt ≤ (199 : Int) := hB_st.1 0 0 7
        refine lv_icmp_le (tgt := 68) hx hb dX10_lend_27 (by decide) (fun c_7 => ?_) (fun c_7 => ?_)
        · have ic_7 := gz_le (rfl : y.toInt = y.toInt) (rfl : (st 0 0 7).toInt = (st 0 0 7).toInt) c_7
          refine lv_iconst (v := (-1)) hx hb dX10_lend_68 (by decide) ?_
          rw [← hQe]
          exact gs_iret hx hb hr hlocks hM hS rfl ⟨hB_st_1, trivial⟩ (by exact Nat.le_refl _) (by exact Nat.le_refl _) dX10_lend_69
        · have ic_7 := gz_nle (rfl : y.toInt = y.toInt) (rfl : (st 0 0 7).toInt = (st 0 0 7).toInt) c_7
          have lc_7 := gi_hi y
          refine lv_iload_n hx hb dX10_lend_30 rfl (lv_at hl 2 rfl) ?_
          refine lv_sipush (v := 199) hx hb dX10_lend_31 (by decide) ?_
          refine lv_icmp_gt (tgt := 68) hx hb dX10_lend_34 (by decide) (fun c_8 => ?_) (fun c_8 => ?_)
          · have ic_8 := gz_lt (by decide : (199 : Int32).toInt = 199) (rfl : y.toInt = y.toInt) c_8
            refine lv_iconst (v := (-1)) hx hb dX10_lend_68 (by decide) ?_
            rw [← hQe]
            exact gs_iret hx hb hr hlocks hM hS rfl ⟨hB_st_1, trivial⟩ (by exact Nat.le_refl _) (by exact Nat.le_refl _) dX10_lend_69
          · have ic_8 := gz_nlt (by decide : (199 : Int32).toInt = 199) (rfl : y.toInt = y.toInt) c_8
            refine lv_aload_n hx hb dX10_lend_37 rfl (lv_at hl 0 rfl) ?_
            refine gs_get (C := RX10) (T := TX10) (N := 59) hx hb hts inX10 hown hK hM 0 0 6 (by decide) rfl rfl (by decide) (hts _ gm_903) (fun _ h9 => h9) rfl dX10_lend_38 ?_
            refine lv_sipush (v := 200) hx hb dX10_lend_41 (by decide) ?_
            refine lv_iload_n hx hb dX10_lend_44 rfl (lv_at hl 1 rfl) ?_
            refine lv_imul hx hb dX10_lend_45 ?_
            refine lv_topi (fun x_9 ex_9 => ?_)
            try have tx_9 : x_9.toInt = 200 * x.toInt := by rw [ex_9]; exact gz_mulI (x := 200) (y := x.toInt) (by decide) rfl (by omega) (by omega)
            refine lv_iload_n hx hb dX10_lend_46 rfl (lv_at hl 2 rfl) ?_
            refine lv_iadd hx hb dX10_lend_47 ?_
            refine lv_topi (fun x_10 ex_10 => ?_)
            try have tx_10 : x_10.toInt = x_9.toInt + y.toInt := by rw [ex_10]; exact gz_addI (x := x_9.toInt) (y := y.toInt) rfl rfl (by omega) (by omega)
            refine gs_iald hx hb hK hM 6 0 (by decide) rfl (vp_in_iff.mpr ⟨by omega, by omega⟩) dX10_lend_48 ?_
            refine lv_topi (fun x_11 ex_11 => ?_)
            have qx_11 : x_11.toInt = (st_1 6 0 (x_10.toNatClampNeg)).toInt := congrArg Int32.toInt ex_11
            have rx_11 : x_11.toInt = ((st 6 0 (x_10.toNatClampNeg)) : Int32).toInt := by rw [ex_11]; exact congrArg Int32.toInt (((congrFun (congrFun (congrFun est_1 6) 0) (x_10.toNatClampNeg)).trans (congrFun (congrFun (gU_k (by decide)) 0) (x_10.toNatClampNeg))))
            refine lv_if_lt (tgt := 68) hx hb dX10_lend_49 (by decide) (fun c_12 => ?_) (fun c_12 => ?_)
            · have ic_12 := gz_lt (rfl : x_11.toInt = x_11.toInt) (by decide : (0 : Int32).toInt = 0) c_12
              refine lv_iconst (v := (-1)) hx hb dX10_lend_68 (by decide) ?_
              rw [← hQe]
              exact gs_iret hx hb hr hlocks hM hS rfl ⟨hB_st_1, trivial⟩ (by exact Nat.le_refl _) (by exact Nat.le_refl _) dX10_lend_69
            · have ic_12 := gz_nlt (rfl : x_11.toInt = x_11.toInt) (by decide : (0 : Int32).toInt = 0) c_12
              refine lv_aload_n hx hb dX10_lend_52 rfl (lv_at hl 0 rfl) ?_
              refine gs_get (C := RX10) (T := TX10) (N := 59) hx hb hts inX10 hown hK hM 0 0 6 (by decide) rfl rfl (by decide) (hts _ gm_903) (fun _ h9 => h9) rfl dX10_lend_53 ?_
              refine lv_sipush (v := 200) hx hb dX10_lend_56 (by decide) ?_
              refine lv_iload_n hx hb dX10_lend_59 rfl (lv_at hl 1 rfl) ?_
              refine lv_imul hx hb dX10_lend_60 ?_
              refine lv_topi (fun x_13 ex_13 => ?_)
              try have tx_13 : x_13.toInt = 200 * x.toInt := by rw [ex_13]; exact gz_mulI (x := 200) (y := x.toInt) (by decide) rfl (by omega) (by omega)
              refine lv_iload_n hx hb dX10_lend_61 rfl (lv_at hl 2 rfl) ?_
              refine lv_iadd hx hb dX10_lend_62 ?_
              refine lv_topi (fun x_14 ex_14 => ?_)
              try have tx_14 : x_14.toInt = x_13.toInt + y.toInt := by rw [ex_14]; exact gz_addI (x := x_13.toInt) (y := y.toInt) rfl rfl (by omega) (by omega)
              refine gs_iald hx hb hK hM 6 0 (by decide) rfl (vp_in_iff.mpr ⟨by omega, by omega⟩) dX10_lend_63 ?_
              refine lv_topi (fun x_15 ex_15 => ?_)
              have qx_15 : x_15.toInt = (st_1 6 0 (x_14.toNatClampNeg)).toInt := congrArg Int32.toInt ex_15
              have rx_15 : x_15.toInt = ((st 6 0 (x_14.toNatClampNeg)) : Int32).toInt := by rw [ex_15]; exact congrArg Int32.toInt (((congrFun (congrFun (congrFun est_1 6) 0) (x_14.toNatClampNeg)).trans (congrFun (congrFun (gU_k (by decide)) 0) (x_14.toNatClampNeg))))
              refine lv_iload_n hx hb dX10_lend_64 rfl (lv_at hl 3 rfl) ?_
              refine lv_icmp_ne (tgt := 70) hx hb dX10_lend_65 (by decide) (fun c_16 => ?_) (fun c_16 => ?_)
              · have ic_16 := gz_ne (rfl : x_15.toInt = x_15.toInt) (rfl : w.toInt = w.toInt) c_16
                refine lv_iload_n hx hb dX10_lend_70 rfl (lv_at hl 2 rfl) ?_
                refine lv_iconst (v := 1) hx hb dX10_lend_71 (by decide) ?_
                refine lv_iadd hx hb dX10_lend_72 ?_
                refine lv_topi (fun x_17 ex_17 => ?_)
                try have tx_17 : x_17.toInt = y.toInt + 1 := by rw [ex_17]; exact gz_addP (x := y.toInt) (y := 1) rfl (by decide) (by omega) (by omega)
                refine lv_istore (lv' := [(4, .int x_17), (0, .ref (ad 0 0)), (1, .int x), (2, .int y), (3, .int w)]) hx hb dX10_lend_73 hl (by decide) rfl (fun ls hl => ?_)
                have lp18 : ∀ (n18 : Nat) (sv18 : gS) (y18_0 : Int32) (H : Heap) (locs : List Loc) (ls : Array Slot), (200 - y18_0.toInt).toNat < n18 → gBN bM kM [0, 600] st sv18 → (Xy < y18_0.toInt) → (y18_0.toInt ≤ 200) → gM G (shM cy ad) cnM ad sv18 H → va_S A s.heap H locs → lv_has ls 5 [(4, .int y18_0), (0, .ref (ad 0 0)), (1, .int x), (2, .int y), (3, .int w)] → W p l e ({ frames := 1, cells := 0, slots := 0, locals := 20 } : Room) s m [.ref (ad 0 0), .int x, .int y, .int w].toArray below meth c H locs 0 0 Q (F0 m 75 ls []) := by
                  intro n18
                  induction n18 with
                  | zero => intro sv18 y18_0 H locs ls h9; exact absurd h9 (Nat.not_lt_zero _)
                  | succ n18 ih_18 =>
                    intro sv18 y18_0 H locs ls hme18 hB_sv18 hv18_0 hv18_1 hM hS hl
                    refine lv_iload hx hb dX10_lend_75 (lv_at hl 0 rfl) ?_
                    refine lv_sipush (v := 199) hx hb dX10_lend_77 (by decide) ?_
                    refine lv_icmp_gt (tgt := 106) hx hb dX10_lend_80 (by decide) (fun c_19 => ?_) (fun c_19 => ?_)
                    · have ic_19 := gz_lt (by decide : (199 : Int32).toInt = 199) (rfl : y18_0.toInt = y18_0.toInt) c_19
                      refine lv_iload hx hb dX10_lend_106 (lv_at hl 0 rfl) ?_
                      refine lv_sipush (v := 199) hx hb dX10_lend_108 (by decide) ?_
                      refine lv_icmp_le (tgt := 116) hx hb dX10_lend_111 (by decide) (fun c_20 => ?_) (fun c_20 => ?_)
                      · have ic_20 := gz_le (rfl : y18_0.toInt = y18_0.toInt) (by decide : (199 : Int32).toInt = 199) c_20
                        refine lv_aload_n hx hb dX10_lend_116 rfl (lv_at hl 1 rfl) ?_
                        refine gs_get (C := RX10) (T := TX10) (N := 59) hx hb hts inX10 hown hK hM 0 0 6 (by decide) rfl rfl (by decide) (hts _ gm_903) (fun _ h9 => h9) rfl dX10_lend_117 ?_
                        refine lv_sipush (v := 200) hx hb dX10_lend_120 (by decide) ?_
                        refine lv_iload_n hx hb dX10_lend_123 rfl (lv_at hl 2 rfl) ?_
                        refine lv_imul hx hb dX10_lend_124 ?_
                        refine lv_topi (fun x_21 ex_21 => ?_)
                        try have tx_21 : x_21.toInt = 200 * x.toInt := by rw [ex_21]; exact gz_mulI (x := 200) (y := x.toInt) (by decide) rfl (by omega) (by omega)
                        refine lv_iload hx hb dX10_lend_125 (lv_at hl 0 rfl) ?_
                        refine lv_iadd hx hb dX10_lend_127 ?_
                        refine lv_topi (fun x_22 ex_22 => ?_)
                        try have tx_22 : x_22.toInt = x_21.toInt + y18_0.toInt := by rw [ex_22]; exact gz_addI (x := x_21.toInt) (y := y18_0.toInt) rfl rfl (by omega) (by omega)
                        refine lv_aload_n hx hb dX10_lend_128 rfl (lv_at hl 1 rfl) ?_
                        refine gs_get (C := RX10) (T := TX10) (N := 59) hx hb hts inX10 hown hK hM 0 0 6 (by decide) rfl rfl (by decide) (hts _ gm_903) (fun _ h9 => h9) rfl dX10_lend_129 ?_
                        refine lv_sipush (v := 200) hx hb dX10_lend_132 (by decide) ?_
                        refine lv_iload_n hx hb dX10_lend_135 rfl (lv_at hl 2 rfl) ?_
                        refine lv_imul hx hb dX10_lend_136 ?_
                        refine lv_topi (fun x_23 ex_23 => ?_)
                        try have tx_23 : x_23.toInt = 200 * x.toInt := by rw [ex_23]; exact gz_mulI (x := 200) (y := x.toInt) (by decide) rfl (by omega) (by omega)
                        refine lv_iload_n hx hb dX10_lend_137 rfl (lv_at hl 3 rfl) ?_
                        refine lv_iadd hx hb dX10_lend_138 ?_
                        refine lv_topi (fun x_24 ex_24 => ?_)
                        try have tx_24 : x_24.toInt = x_23.toInt + y.toInt := by rw [ex_24]; exact gz_addI (x := x_23.toInt) (y := y.toInt) rfl rfl (by omega) (by omega)
                        refine gs_iald hx hb hK hM 6 0 (by decide) rfl (vp_in_iff.mpr ⟨by omega, by omega⟩) dX10_lend_139 ?_
                        refine lv_topi (fun x_25 ex_25 => ?_)
                        have qx_25 : x_25.toInt = (sv18 6 0 (x_24.toNatClampNeg)).toInt := congrArg Int32.toInt ex_25
                        refine gs_iast hx hb hK hI hm hM hS 6 0 (by decide) (fun _ => rfl) (vp_in_iff.mpr ⟨by omega, by omega⟩) dX10_lend_140 (fun st_26 H locs est_26 hM hS => ?_)
                        have hB_st_26 : gBN bM kM [0, 600] st st_26 := by rw [est_26]; exact hB_sv18.up (show (600 : Nat) ∈ _ from by decide) (gi_lo _) (gi_hi _)
                        refine lv_aload_n hx hb dX10_lend_141 rfl (lv_at hl 1 rfl) ?_
                        refine gs_get (C := RX10) (T := TX10) (N := 59) hx hb hts inX10 hown hK hM 0 0 6 (by decide) rfl rfl (by decide) (hts _ gm_903) (fun _ h9 => h9) rfl dX10_lend_142 ?_
                        refine lv_sipush (v := 200) hx hb dX10_lend_145 (by decide) ?_
                        refine lv_iload_n hx hb dX10_lend_148 rfl (lv_at hl 2 rfl) ?_
                        refine lv_imul hx hb dX10_lend_149 ?_
                        refine lv_topi (fun x_27 ex_27 => ?_)
                        try have tx_27 : x_27.toInt = 200 * x.toInt := by rw [ex_27]; exact gz_mulI (x := 200) (y := x.toInt) (by decide) rfl (by omega) (by omega)
                        refine lv_iload_n hx hb dX10_lend_150 rfl (lv_at hl 3 rfl) ?_
                        refine lv_iadd hx hb dX10_lend_151 ?_
                        refine lv_topi (fun x_28 ex_28 => ?_)
                        try have tx_28 : x_28.toInt = x_27.toInt + y.toInt := by rw [ex_28]; exact gz_addI (x := x_27.toInt) (y := y.toInt) rfl rfl (by omega) (by omega)
                        refine lv_iload_n hx hb dX10_lend_152 rfl (lv_at hl 4 rfl) ?_
                        refine gs_iast hx hb hK hI hm hM hS 6 0 (by decide) (fun _ => rfl) (vp_in_iff.mpr ⟨by omega, by omega⟩) dX10_lend_153 (fun st_29 H locs est_29 hM hS => ?_)
                        have hB_st_29 : gBN bM kM [0, 600] st st_29 := by rw [est_29]; exact hB_st_26.up (show (600 : Nat) ∈ _ from by decide) (gi_lo _) (gi_hi _)
                        refine lv_iload hx hb dX10_lend_154 (lv_at hl 0 rfl) ?_
                        rw [← hQe]
                        exact gs_iret hx hb hr hlocks hM hS rfl ⟨hB_st_29, trivial⟩ (by exact Nat.le_refl _) (by exact Nat.le_refl _) dX10_lend_156
                      · have ic_20 := gz_nle (rfl : y18_0.toInt = y18_0.toInt) (by decide : (199 : Int32).toInt = 199) c_20
                        refine lv_iconst (v := (-1)) hx hb dX10_lend_114 (by decide) ?_
                        rw [← hQe]
                        exact gs_iret hx hb hr hlocks hM hS rfl ⟨hB_sv18, trivial⟩ (by exact Nat.le_refl _) (by exact Nat.le_refl _) dX10_lend_115
                    · have ic_19 := gz_nlt (by decide : (199 : Int32).toInt = 199) (rfl : y18_0.toInt = y18_0.toInt) c_19
                      refine lv_aload_n hx hb dX10_lend_83 rfl (lv_at hl 1 rfl) ?_
                      refine gs_get (C := RX10) (T := TX10) (N := 59) hx hb hts inX10 hown hK hM 0 0 6 (by decide) rfl rfl (by decide) (hts _ gm_903) (fun _ h9 => h9) rfl dX10_lend_84 ?_
                      refine lv_sipush (v := 200) hx hb dX10_lend_87 (by decide) ?_
                      refine lv_iload_n hx hb dX10_lend_90 rfl (lv_at hl 2 rfl) ?_
                      refine lv_imul hx hb dX10_lend_91 ?_
                      refine lv_topi (fun x_30 ex_30 => ?_)
                      try have tx_30 : x_30.toInt = 200 * x.toInt := by rw [ex_30]; exact gz_mulI (x := 200) (y := x.toInt) (by decide) rfl (by omega) (by omega)
                      refine lv_iload hx hb dX10_lend_92 (lv_at hl 0 rfl) ?_
                      refine lv_iadd hx hb dX10_lend_94 ?_
                      refine lv_topi (fun x_31 ex_31 => ?_)
                      try have tx_31 : x_31.toInt = x_30.toInt + y18_0.toInt := by rw [ex_31]; exact gz_addI (x := x_30.toInt) (y := y18_0.toInt) rfl rfl (by omega) (by omega)
                      refine gs_iald hx hb hK hM 6 0 (by decide) rfl (vp_in_iff.mpr ⟨by omega, by omega⟩) dX10_lend_95 ?_
                      refine lv_topi (fun x_32 ex_32 => ?_)
                      have qx_32 : x_32.toInt = (sv18 6 0 (x_31.toNatClampNeg)).toInt := congrArg Int32.toInt ex_32
                      refine lv_iload_n hx hb dX10_lend_96 rfl (lv_at hl 4 rfl) ?_
                      refine lv_icmp_eq (tgt := 106) hx hb dX10_lend_97 (by decide) (fun c_33 => ?_) (fun c_33 => ?_)
                      · have ic_33 := gz_eq (rfl : x_32.toInt = x_32.toInt) (rfl : w.toInt = w.toInt) c_33
                        refine lv_iload hx hb dX10_lend_106 (lv_at hl 0 rfl) ?_
                        refine lv_sipush (v := 199) hx hb dX10_lend_108 (by decide) ?_
                        refine lv_icmp_le (tgt := 116) hx hb dX10_lend_111 (by decide) (fun c_34 => ?_) (fun c_34 => ?_)
                        · have ic_34 := gz_le (rfl : y18_0.toInt = y18_0.toInt) (by decide : (199 : Int32).toInt = 199) c_34
                          refine lv_aload_n hx hb dX10_lend_116 rfl (lv_at hl 1 rfl) ?_
                          refine gs_get (C := RX10) (T := TX10) (N := 59) hx hb hts inX10 hown hK hM 0 0 6 (by decide) rfl rfl (by decide) (hts _ gm_903) (fun _ h9 => h9) rfl dX10_lend_117 ?_
                          refine lv_sipush (v := 200) hx hb dX10_lend_120 (by decide) ?_
                          refine lv_iload_n hx hb dX10_lend_123 rfl (lv_at hl 2 rfl) ?_
                          refine lv_imul hx hb dX10_lend_124 ?_
                          refine lv_topi (fun x_35 ex_35 => ?_)
                          try have tx_35 : x_35.toInt = 200 * x.toInt := by rw [ex_35]; exact gz_mulI (x := 200) (y := x.toInt) (by decide) rfl (by omega) (by omega)
                          refine lv_iload hx hb dX10_lend_125 (lv_at hl 0 rfl) ?_
                          refine lv_iadd hx hb dX10_lend_127 ?_
                          refine lv_topi (fun x_36 ex_36 => ?_)
                          try have tx_36 : x_36.toInt = x_35.toInt + y18_0.toInt := by rw [ex_36]; exact gz_addI (x := x_35.toInt) (y := y18_0.toInt) rfl rfl (by omega) (by omega)
                          refine lv_aload_n hx hb dX10_lend_128 rfl (lv_at hl 1 rfl) ?_
                          refine gs_get (C := RX10) (T := TX10) (N := 59) hx hb hts inX10 hown hK hM 0 0 6 (by decide) rfl rfl (by decide) (hts _ gm_903) (fun _ h9 => h9) rfl dX10_lend_129 ?_
                          refine lv_sipush (v := 200) hx hb dX10_lend_132 (by decide) ?_
                          refine lv_iload_n hx hb dX10_lend_135 rfl (lv_at hl 2 rfl) ?_
                          refine lv_imul hx hb dX10_lend_136 ?_
                          refine lv_topi (fun x_37 ex_37 => ?_)
                          try have tx_37 : x_37.toInt = 200 * x.toInt := by rw [ex_37]; exact gz_mulI (x := 200) (y := x.toInt) (by decide) rfl (by omega) (by omega)
                          refine lv_iload_n hx hb dX10_lend_137 rfl (lv_at hl 3 rfl) ?_
                          refine lv_iadd hx hb dX10_lend_138 ?_
                          refine lv_topi (fun x_38 ex_38 => ?_)
                          try have tx_38 : x_38.toInt = x_37.toInt + y.toInt := by rw [ex_38]; exact gz_addI (x := x_37.toInt) (y := y.toInt) rfl rfl (by omega) (by omega)
                          refine gs_iald hx hb hK hM 6 0 (by decide) rfl (vp_in_iff.mpr ⟨by omega, by omega⟩) dX10_lend_139 ?_
                          refine lv_topi (fun x_39 ex_39 => ?_)
                          have qx_39 : x_39.toInt = (sv18 6 0 (x_38.toNatClampNeg)).toInt := congrArg Int32.toInt ex_39
                          refine gs_iast hx hb hK hI hm hM hS 6 0 (by decide) (fun _ => rfl) (vp_in_iff.mpr ⟨by omega, by omega⟩) dX10_lend_140 (fun st_40 H locs est_40 hM hS => ?_)
                          have hB_st_40 : gBN bM kM [0, 600] st st_40 := by rw [est_40]; exact hB_sv18.up (show (600 : Nat) ∈ _ from by decide) (gi_lo _) (gi_hi _)
                          refine lv_aload_n hx hb dX10_lend_141 rfl (lv_at hl 1 rfl) ?_
                          refine gs_get (C := RX10) (T := TX10) (N := 59) hx hb hts inX10 hown hK hM 0 0 6 (by decide) rfl rfl (by decide) (hts _ gm_903) (fun _ h9 => h9) rfl dX10_lend_142 ?_
                          refine lv_sipush (v := 200) hx hb dX10_lend_145 (by decide) ?_
                          refine lv_iload_n hx hb dX10_lend_148 rfl (lv_at hl 2 rfl) ?_
                          refine lv_imul hx hb dX10_lend_149 ?_
                          refine lv_topi (fun x_41 ex_41 => ?_)
                          try have tx_41 : x_41.toInt = 200 * x.toInt := by rw [ex_41]; exact gz_mulI (x := 200) (y := x.toInt) (by decide) rfl (by omega) (by omega)
                          refine lv_iload_n hx hb dX10_lend_150 rfl (lv_at hl 3 rfl) ?_
                          refine lv_iadd hx hb dX10_lend_151 ?_
                          refine lv_topi (fun x_42 ex_42 => ?_)
                          try have tx_42 : x_42.toInt = x_41.toInt + y.toInt := by rw [ex_42]; exact gz_addI (x := x_41.toInt) (y := y.toInt) rfl rfl (by omega) (by omega)
                          refine lv_iload_n hx hb dX10_lend_152 rfl (lv_at hl 4 rfl) ?_
                          refine gs_iast hx hb hK hI hm hM hS 6 0 (by decide) (fun _ => rfl) (vp_in_iff.mpr ⟨by omega, by omega⟩) dX10_lend_153 (fun st_43 H locs est_43 hM hS => ?_)
                          have hB_st_43 : gBN bM kM [0, 600] st st_43 := by rw [est_43]; exact hB_st_40.up (show (600 : Nat) ∈ _ from by decide) (gi_lo _) (gi_hi _)
                          refine lv_iload hx hb dX10_lend_154 (lv_at hl 0 rfl) ?_
                          rw [← hQe]
                          exact gs_iret hx hb hr hlocks hM hS rfl ⟨hB_st_43, trivial⟩ (by exact Nat.le_refl _) (by exact Nat.le_refl _) dX10_lend_156
                        · have ic_34 := gz_nle (rfl : y18_0.toInt = y18_0.toInt) (by decide : (199 : Int32).toInt = 199) c_34
                          refine lv_iconst (v := (-1)) hx hb dX10_lend_114 (by decide) ?_
                          rw [← hQe]
                          exact gs_iret hx hb hr hlocks hM hS rfl ⟨hB_sv18, trivial⟩ (by exact Nat.le_refl _) (by exact Nat.le_refl _) dX10_lend_115
                      · have ic_33 := gz_ne (rfl : x_32.toInt = x_32.toInt) (rfl : w.toInt = w.toInt) c_33
                        obtain ⟨x_44, ex_44⟩ : ∃ y : Int32, y = y18_0 + 1 := ⟨_, rfl⟩
                        try have tx_44 : x_44.toInt = y18_0.toInt + 1 := by rw [ex_44]; exact gz_addP (x := y18_0.toInt) (y := 1) rfl (by decide) (by omega) (by omega)
                        refine lv_iinc (v := (x_44)) (lv' := [(4, .int x_44), (0, .ref (ad 0 0)), (1, .int x), (2, .int y), (3, .int w)]) hx hb dX10_lend_100 hl (k := 0) rfl (by rw [ex_44]; rfl) (by decide) rfl (fun ls hl => ?_)
                        refine lv_goto (tgt := 75) hx hb dX10_lend_103 (by decide) ?_
                        exact ih_18 sv18 (x_44 : Int32) H _ ls (by omega) hB_sv18 (by omega) (by omega) hM hS (lv_sub hl [0, 1, 2, 3, 4] rfl)
                exact lp18 ((200 - (x_17 : Int32).toInt).toNat + 1) st_1 (x_17 : Int32) H _ ls (Nat.lt_succ_self _) hB_st_1 (by omega) (by omega) hM hS (lv_sub hl [0, 1, 2, 3, 4] rfl)
              · have ic_16 := gz_eqn (rfl : x_15.toInt = x_15.toInt) (rfl : w.toInt = w.toInt) c_16
                refine lv_iconst (v := (-1)) hx hb dX10_lend_68 (by decide) ?_
                rw [← hQe]
                exact gs_iret hx hb hr hlocks hM hS rfl ⟨hB_st_1, trivial⟩ (by exact Nat.le_refl _) (by exact Nat.le_refl _) dX10_lend_69
      · skip
        refine lv_if_eq (tgt := 68) hx hb dX10_lend_19 (by decide) (fun _ => ?_) (fun h9 => absurd (by decide) h9)
        refine lv_iconst (v := (-1)) hx hb dX10_lend_68 (by decide) ?_
        rw [← hQe]
        exact gs_iret hx hb hr hlocks hM hS rfl ⟨hB_st_1, trivial⟩ (by exact Nat.le_refl _) (by exact Nat.le_refl _) dX10_lend_69

set_option maxHeartbeats 4000000 in
set_option maxRecDepth 100000 in
/-- WellCourtModel.cantDraw -/
theorem m_cantDraw (l : Launch) (G : va_G) (cy : Nat → ClassId) (sK sV : Nat → Nat) (ad : Nat → Nat → Nat) (sz : Nat) (st : gS) (hB : gBd bM st) (x : Int32) (y : Int32) (w : Int32) (Xx : Int) (Xy : Int) (Xw : Int) (kx : x.toInt = Xx) (ky : y.toInt = Xy) (kw : w.toInt = Xw) : gsMi l yX10_cantDraw cX10_cantDraw 4 (some .boolean) ({ frames := 1, cells := 0, slots := 0, locals := 21 } : Room) G cy sK sV (shM cy ad) cnM ad sz [.ref (ad 0 0), .int x, .int y, .int w] st (fun (r : Int32) (u : gS) => gBN bM kM [] st u ∧ ((r = 1) ∨ (r = 0 ∧ (0 ≤ Xx) ∧ (Xx ≤ 5) ∧ (0 ≤ Xy) ∧ (Xy ≤ 5) ∧ (1 ≤ Xw) ∧ (Xw ≤ 1000) ∧ ((st 0 0 37).toInt < 300)))) := by
  refine gs_start (fun A => gsQi G (shM cy ad) cnM ad _ A) (by decide) (Nat.le_of_ble_eq_true rfl) ?_
  intro p e s m below meth c A ls H hx hb hr hml hlocks hown hts hK hov hE hI hM hm hS hA hl
  have hl : lv_has ls 4 [(0, .ref (ad 0 0)), (1, .int x), (2, .int y), (3, .int w)] := hl
  have hB_st : gBN bM kM [] st st := gBN.rf hB
  refine lv_aload_n hx hb dX10_cantDraw_0 rfl (lv_at hl 0 rfl) ?_
  refine lv_iload_n hx hb dX10_cantDraw_1 rfl (lv_at hl 1 rfl) ?_
  refine gs_calli (va_runV (As := [.int x]) (rest := []) ⟨hx, hb, hml, hown, hts⟩ (m_hasWell l G cy sK sV ad H.size st hB_st.1 x x.toInt rfl ) ⟨(gz_cb (n := 1) hts gm_1197 gm_12 gm_1200 ⟨by decide +kernel, by decide +kernel, by decide +kernel⟩ ⟨Nat.le_of_ble_eq_true rfl, Nat.le_of_ble_eq_true rfl⟩), hts _ gm_1199, hts _ gs_50⟩ (gs_preV hK hov hE hI hM hm hS hA 0 0 (by decide) rfl rfl) rfl rfl hl.1 rfl (lv_room (Nat.le_of_ble_eq_true rfl)) dX10_cantDraw_2 ⟨Nat.le_of_ble_eq_true rfl, Nat.le_of_ble_eq_true rfl⟩) hm hS hA (fun r_1 st_1 H locs hw_1 hM hS => ?_)
  obtain ⟨n_1, hw_1⟩ := hw_1
  have n_1 := gBN.nil n_1
  subst n_1
  rcases hw_1 with ⟨rfl, hw_1_0, hw_1_1, hw_1_2⟩ | ⟨rfl, hw_1_0⟩
  · skip
    refine lv_if_eq (tgt := 37) hx hb dX10_cantDraw_5 (by decide) (fun h9 => absurd h9 (by decide)) (fun _ => ?_)
    refine lv_iload_n hx hb dX10_cantDraw_8 rfl (lv_at hl 2 rfl) ?_
    refine gs_calli (va_runS (As := [.int y]) (rest := []) ⟨hx, hb, hml, hown, hts⟩ (m_isClan l G cy sK sV ad H.size st hB_st.1 y y.toInt rfl ) ⟨(gz_cb (n := 1) hts gm_1209 gm_12 gm_1211 ⟨by decide +kernel, by decide +kernel, by decide +kernel⟩ ⟨Nat.le_of_ble_eq_true rfl, Nat.le_of_ble_eq_true rfl⟩), hts _ gm_1210⟩ (gs_preS hK hov hE hI hM hm hS hA) rfl rfl hl.1 rfl (lv_room (Nat.le_of_ble_eq_true rfl)) dX10_cantDraw_9 ⟨Nat.le_of_ble_eq_true rfl, Nat.le_of_ble_eq_true rfl⟩) hm hS hA (fun r_2 st_2 H locs hw_2 hM hS => ?_)
    obtain ⟨n_2, hw_2⟩ := hw_2
    have n_2 := gBN.nil n_2
    subst n_2
    rcases hw_2 with ⟨rfl, hw_2_0, hw_2_1⟩ | ⟨rfl, hw_2_0⟩
    · skip
      refine lv_if_eq (tgt := 37) hx hb dX10_cantDraw_12 (by decide) (fun h9 => absurd h9 (by decide)) (fun _ => ?_)
      refine lv_iload_n hx hb dX10_cantDraw_15 rfl (lv_at hl 3 rfl) ?_
      refine lv_iconst (v := 1) hx hb dX10_cantDraw_16 (by decide) ?_
      refine lv_icmp_lt (tgt := 37) hx hb dX10_cantDraw_17 (by decide) (fun c_3 => ?_) (fun c_3 => ?_)
      · have ic_3 := gz_lt (rfl : w.toInt = w.toInt) (by decide : (1 : Int32).toInt = 1) c_3
        refine lv_iconst (v := 1) hx hb dX10_cantDraw_37 (by decide) ?_
        refine lv_goto (tgt := 42) hx hb dX10_cantDraw_38 (by decide) ?_
        exact gs_iret hx hb hr hlocks hM hS (by decide) ⟨hB_st, (Or.inl rfl)⟩ (by exact Nat.le_refl _) (by exact Nat.le_refl _) dX10_cantDraw_42
      · have ic_3 := gz_nlt (rfl : w.toInt = w.toInt) (by decide : (1 : Int32).toInt = 1) c_3
        refine lv_iload_n hx hb dX10_cantDraw_20 rfl (lv_at hl 3 rfl) ?_
        refine lv_sipush (v := 1000) hx hb dX10_cantDraw_21 (by decide) ?_
        refine lv_icmp_gt (tgt := 37) hx hb dX10_cantDraw_24 (by decide) (fun c_4 => ?_) (fun c_4 => ?_)
        · have ic_4 := gz_lt (by decide : (1000 : Int32).toInt = 1000) (rfl : w.toInt = w.toInt) c_4
          refine lv_iconst (v := 1) hx hb dX10_cantDraw_37 (by decide) ?_
          refine lv_goto (tgt := 42) hx hb dX10_cantDraw_38 (by decide) ?_
          exact gs_iret hx hb hr hlocks hM hS (by decide) ⟨hB_st, (Or.inl rfl)⟩ (by exact Nat.le_refl _) (by exact Nat.le_refl _) dX10_cantDraw_42
        · have ic_4 := gz_nlt (by decide : (1000 : Int32).toInt = 1000) (rfl : w.toInt = w.toInt) c_4
          refine lv_aload_n hx hb dX10_cantDraw_27 rfl (lv_at hl 0 rfl) ?_
          refine gs_get (C := RX10) (T := TX10) (N := 59) hx hb hts inX10 hown hK hM 0 0 37 (by decide) rfl rfl (by decide) (hts _ gm_934) (fun _ h9 => h9) rfl dX10_cantDraw_28 ?_
          have bf_5 : (0 : Int) ≤ (st 0 0 37).toInt ∧ (st 0 0 37).toInt ≤ (300 : Int) := hB_st.1 0 0 37
          refine lv_sipush (v := 300) hx hb dX10_cantDraw_31 (by decide) ?_
          refine lv_icmp_ne (tgt := 41) hx hb dX10_cantDraw_34 (by decide) (fun c_6 => ?_) (fun c_6 => ?_)
          · have ic_6 := gz_ne (rfl : (st 0 0 37).toInt = (st 0 0 37).toInt) (by decide : (300 : Int32).toInt = 300) c_6
            refine lv_iconst (v := 0) hx hb dX10_cantDraw_41 (by decide) ?_
            exact gs_iret hx hb hr hlocks hM hS (by decide) ⟨hB_st, (Or.inr (⟨rfl, (by have hl0 : (0 : Int32).toInt = 0 := (by decide); omega), (by have hl0 : (0 : Int32).toInt = 0 := (by decide); omega), (by have hl0 : (0 : Int32).toInt = 0 := (by decide); omega), (by have hl0 : (0 : Int32).toInt = 0 := (by decide); omega), (by have hl0 : (0 : Int32).toInt = 0 := (by decide); omega), (by have hl0 : (0 : Int32).toInt = 0 := (by decide); omega), (by have hl0 : (0 : Int32).toInt = 0 := (by decide); have hb1 : (0 : Int) ≤ (st 0 0 37).toInt ∧ (st 0 0 37).toInt ≤ (300 : Int) := hB_st.1 0 0 37; omega)⟩))⟩ (by exact Nat.le_refl _) (by exact Nat.le_refl _) dX10_cantDraw_42
          · have ic_6 := gz_eqn (rfl : (st 0 0 37).toInt = (st 0 0 37).toInt) (by decide : (300 : Int32).toInt = 300) c_6
            refine lv_iconst (v := 1) hx hb dX10_cantDraw_37 (by decide) ?_
            refine lv_goto (tgt := 42) hx hb dX10_cantDraw_38 (by decide) ?_
            exact gs_iret hx hb hr hlocks hM hS (by decide) ⟨hB_st, (Or.inl rfl)⟩ (by exact Nat.le_refl _) (by exact Nat.le_refl _) dX10_cantDraw_42
    · skip
      refine lv_if_eq (tgt := 37) hx hb dX10_cantDraw_12 (by decide) (fun _ => ?_) (fun h9 => absurd (by decide) h9)
      refine lv_iconst (v := 1) hx hb dX10_cantDraw_37 (by decide) ?_
      refine lv_goto (tgt := 42) hx hb dX10_cantDraw_38 (by decide) ?_
      exact gs_iret hx hb hr hlocks hM hS (by decide) ⟨hB_st, (Or.inl rfl)⟩ (by exact Nat.le_refl _) (by exact Nat.le_refl _) dX10_cantDraw_42
  · skip
    refine lv_if_eq (tgt := 37) hx hb dX10_cantDraw_5 (by decide) (fun _ => ?_) (fun h9 => absurd (by decide) h9)
    refine lv_iconst (v := 1) hx hb dX10_cantDraw_37 (by decide) ?_
    refine lv_goto (tgt := 42) hx hb dX10_cantDraw_38 (by decide) ?_
    exact gs_iret hx hb hr hlocks hM hS (by decide) ⟨hB_st, (Or.inl rfl)⟩ (by exact Nat.le_refl _) (by exact Nat.le_refl _) dX10_cantDraw_42

set_option maxHeartbeats 4000000 in
set_option maxRecDepth 100000 in
/-- WellCourtModel.drawn -/
theorem m_enter (l : Launch) (G : va_G) (cy : Nat → ClassId) (sK sV : Nat → Nat) (ad : Nat → Nat → Nat) (sz : Nat) (st : gS) (hB : gBd bM st) (x : Int32) (y : Int32) (w : Int32) (v : Int32) (Xx : Int) (Xy : Int) (Xw : Int) (Xv : Int) (kx : x.toInt = Xx) (ky : y.toInt = Xy) (kw : w.toInt = Xw) (kv : v.toInt = Xv) (hx0 : 0 ≤ Xx) (hx1 : Xx < 6) (hdr : (st 0 0 37).toInt < 300) : gsMi l yX10_drawn cX10_drawn 5 (some .int) ({ frames := 0, cells := 0, slots := 0, locals := 0 } : Room) G cy sK sV (shM cy ad) cnM ad sz [.ref (ad 0 0), .int x, .int y, .int w, .int v] st (fun (r : Int32) (u : gS) => gBN bM kM [37, 400, 1600, 1700, 1800, 1900, 2000, 2100] st u ∧ (True)) := by
  refine gs_start (fun A => gsQi G (shM cy ad) cnM ad _ A) (by decide) (Nat.le_of_ble_eq_true rfl) ?_
  intro p e s m below meth c A ls H hx hb hr hml hlocks hown hts hK hov hE hI hM hm hS hA hl
  have hl : lv_has ls 5 [(0, .ref (ad 0 0)), (1, .int x), (2, .int y), (3, .int w), (4, .int v)] := hl
  have hB_st : gBN bM kM [37, 400, 1600, 1700, 1800, 1900, 2000, 2100] st st := gBN.rf hB
  refine lv_iload_n hx hb dX10_drawn_0 rfl (lv_at hl 3 rfl) ?_
  refine lv_aload_n hx hb dX10_drawn_1 rfl (lv_at hl 0 rfl) ?_
  refine gs_get (C := RX10) (T := TX10) (N := 59) hx hb hts inX10 hown hK hM 0 0 4 (by decide) rfl rfl (by decide) (hts _ gm_901) (fun _ h9 => h9) rfl dX10_drawn_2 ?_
  refine lv_iload_n hx hb dX10_drawn_5 rfl (lv_at hl 1 rfl) ?_
  refine gs_iald hx hb hK hM 4 0 (by decide) rfl (vp_in_iff.mpr ⟨by omega, by omega⟩) dX10_drawn_6 ?_
  refine lv_topi (fun x_1 ex_1 => ?_)
  have qx_1 : x_1.toInt = (st 4 0 (x.toNatClampNeg)).toInt := congrArg Int32.toInt ex_1
  refine lv_icmp_le (tgt := 12) hx hb dX10_drawn_7 (by decide) (fun c_2 => ?_) (fun c_2 => ?_)
  · have ic_2 := gz_le (rfl : w.toInt = w.toInt) (rfl : x_1.toInt = x_1.toInt) c_2
    refine lv_aload_n hx hb dX10_drawn_12 rfl (lv_at hl 0 rfl) ?_
    refine gs_get (C := RX10) (T := TX10) (N := 59) hx hb hts inX10 hown hK hM 0 0 4 (by decide) rfl rfl (by decide) (hts _ gm_901) (fun _ h9 => h9) rfl dX10_drawn_13 ?_
    refine lv_iload_n hx hb dX10_drawn_16 rfl (lv_at hl 1 rfl) ?_
    refine lv_dup2_11 hx hb dX10_drawn_17 rfl rfl ?_
    refine gs_iald hx hb hK hM 4 0 (by decide) rfl (vp_in_iff.mpr ⟨by omega, by omega⟩) dX10_drawn_18 ?_
    refine lv_topi (fun x_3 ex_3 => ?_)
    have qx_3 : x_3.toInt = (st 4 0 (x.toNatClampNeg)).toInt := congrArg Int32.toInt ex_3
    refine lv_iload_n hx hb dX10_drawn_19 rfl (lv_at hl 3 rfl) ?_
    refine lv_isub hx hb dX10_drawn_20 ?_
    refine lv_topi (fun x_4 ex_4 => ?_)
    refine gs_iast hx hb hK hI hm hM hS 4 0 (by decide) (fun _ => rfl) (vp_in_iff.mpr ⟨by omega, by omega⟩) dX10_drawn_21 (fun st_5 H locs est_5 hM hS => ?_)
    have hB_st_5 : gBN bM kM [37, 400, 1600, 1700, 1800, 1900, 2000, 2100] st st_5 := by rw [est_5]; exact hB_st.up (show (400 : Nat) ∈ _ from by decide) (gi_lo _) (gi_hi _)
    refine lv_aload_n hx hb dX10_drawn_22 rfl (lv_at hl 0 rfl) ?_
    refine gs_get (C := RX10) (T := TX10) (N := 59) hx hb hts inX10 hown hK hM 0 0 31 (by decide) rfl rfl (by decide) (hts _ gm_928) (fun _ h9 => h9) rfl dX10_drawn_23 ?_
    refine lv_aload_n hx hb dX10_drawn_26 rfl (lv_at hl 0 rfl) ?_
    refine gs_get (C := RX10) (T := TX10) (N := 59) hx hb hts inX10 hown hK hM 0 0 37 (by decide) rfl rfl (by decide) (hts _ gm_934) (fun _ h9 => h9) rfl dX10_drawn_27 ?_
    refine lv_topi (fun x_6 ex_6 => ?_)
    have ex_6 : (st 0 0 37) = x_6 := Eq.symm (ex_6.trans ((congrFun (congrFun (congrFun est_5 0) 0) 37).trans (congrFun (congrFun (gU_k (by decide)) 0) 37)))
    subst ex_6
    have bf_7 : (0 : Int) ≤ (st 0 0 37).toInt ∧ (st 0 0 37).toInt ≤ (300 : Int) := hB_st.1 0 0 37
    refine lv_aload_n hx hb dX10_drawn_30 rfl (lv_at hl 0 rfl) ?_
    refine gs_get (C := RX10) (T := TX10) (N := 59) hx hb hts inX10 hown hK hM 0 0 7 (by decide) rfl rfl (by decide) (hts _ gm_904) (fun _ h9 => h9) rfl dX10_drawn_31 ?_
    refine lv_topi (fun x_8 ex_8 => ?_)
    have ex_8 : (st 0 0 7) = x_8 := Eq.symm (ex_8.trans ((congrFun (congrFun (congrFun est_5 0) 0) 7).trans (congrFun (congrFun (gU_k (by decide)) 0) 7)))
    subst ex_8
    have bf_9 : (0 : Int) ≤ (st 0 0 7).toInt ∧ (st 0 0 7).toInt ≤ (199 : Int) := hB_st.1 0 0 7
    refine gs_iast hx hb hK hI hm hM hS 16 0 (by decide) (fun _ => rfl) (vp_in_iff.mpr ⟨by omega, by omega⟩) dX10_drawn_34 (fun st_10 H locs est_10 hM hS => ?_)
    have hB_st_10 : gBN bM kM [37, 400, 1600, 1700, 1800, 1900, 2000, 2100] st st_10 := by rw [est_10]; exact hB_st_5.up (show (1600 : Nat) ∈ _ from by decide) (gi_lo _) (gi_hi _)
    refine lv_aload_n hx hb dX10_drawn_35 rfl (lv_at hl 0 rfl) ?_
    refine gs_get (C := RX10) (T := TX10) (N := 59) hx hb hts inX10 hown hK hM 0 0 32 (by decide) rfl rfl (by decide) (hts _ gm_929) (fun _ h9 => h9) rfl dX10_drawn_36 ?_
    refine lv_aload_n hx hb dX10_drawn_39 rfl (lv_at hl 0 rfl) ?_
    refine gs_get (C := RX10) (T := TX10) (N := 59) hx hb hts inX10 hown hK hM 0 0 37 (by decide) rfl rfl (by decide) (hts _ gm_934) (fun _ h9 => h9) rfl dX10_drawn_40 ?_
    refine lv_topi (fun x_11 ex_11 => ?_)
    have ex_11 : (st 0 0 37) = x_11 := Eq.symm (ex_11.trans (((congrFun (congrFun (congrFun est_10 0) 0) 37).trans (congrFun (congrFun (gU_k (by decide)) 0) 37)).trans ((congrFun (congrFun (congrFun est_5 0) 0) 37).trans (congrFun (congrFun (gU_k (by decide)) 0) 37))))
    subst ex_11
    have bf_12 : (0 : Int) ≤ (st 0 0 37).toInt ∧ (st 0 0 37).toInt ≤ (300 : Int) := hB_st.1 0 0 37
    refine lv_iload_n hx hb dX10_drawn_43 rfl (lv_at hl 1 rfl) ?_
    refine gs_iast hx hb hK hI hm hM hS 17 0 (by decide) (fun _ => rfl) (vp_in_iff.mpr ⟨by omega, by omega⟩) dX10_drawn_44 (fun st_13 H locs est_13 hM hS => ?_)
    have hB_st_13 : gBN bM kM [37, 400, 1600, 1700, 1800, 1900, 2000, 2100] st st_13 := by rw [est_13]; exact hB_st_10.up (show (1700 : Nat) ∈ _ from by decide) (gi_lo _) (gi_hi _)
    refine lv_aload_n hx hb dX10_drawn_45 rfl (lv_at hl 0 rfl) ?_
    refine gs_get (C := RX10) (T := TX10) (N := 59) hx hb hts inX10 hown hK hM 0 0 33 (by decide) rfl rfl (by decide) (hts _ gm_930) (fun _ h9 => h9) rfl dX10_drawn_46 ?_
    refine lv_aload_n hx hb dX10_drawn_49 rfl (lv_at hl 0 rfl) ?_
    refine gs_get (C := RX10) (T := TX10) (N := 59) hx hb hts inX10 hown hK hM 0 0 37 (by decide) rfl rfl (by decide) (hts _ gm_934) (fun _ h9 => h9) rfl dX10_drawn_50 ?_
    refine lv_topi (fun x_14 ex_14 => ?_)
    have ex_14 : (st 0 0 37) = x_14 := Eq.symm (ex_14.trans (((congrFun (congrFun (congrFun est_13 0) 0) 37).trans (congrFun (congrFun (gU_k (by decide)) 0) 37)).trans (((congrFun (congrFun (congrFun est_10 0) 0) 37).trans (congrFun (congrFun (gU_k (by decide)) 0) 37)).trans ((congrFun (congrFun (congrFun est_5 0) 0) 37).trans (congrFun (congrFun (gU_k (by decide)) 0) 37)))))
    subst ex_14
    have bf_15 : (0 : Int) ≤ (st 0 0 37).toInt ∧ (st 0 0 37).toInt ≤ (300 : Int) := hB_st.1 0 0 37
    refine lv_iload_n hx hb dX10_drawn_53 rfl (lv_at hl 2 rfl) ?_
    refine gs_iast hx hb hK hI hm hM hS 18 0 (by decide) (fun _ => rfl) (vp_in_iff.mpr ⟨by omega, by omega⟩) dX10_drawn_54 (fun st_16 H locs est_16 hM hS => ?_)
    have hB_st_16 : gBN bM kM [37, 400, 1600, 1700, 1800, 1900, 2000, 2100] st st_16 := by rw [est_16]; exact hB_st_13.up (show (1800 : Nat) ∈ _ from by decide) (gi_lo _) (gi_hi _)
    refine lv_aload_n hx hb dX10_drawn_55 rfl (lv_at hl 0 rfl) ?_
    refine gs_get (C := RX10) (T := TX10) (N := 59) hx hb hts inX10 hown hK hM 0 0 34 (by decide) rfl rfl (by decide) (hts _ gm_931) (fun _ h9 => h9) rfl dX10_drawn_56 ?_
    refine lv_aload_n hx hb dX10_drawn_59 rfl (lv_at hl 0 rfl) ?_
    refine gs_get (C := RX10) (T := TX10) (N := 59) hx hb hts inX10 hown hK hM 0 0 37 (by decide) rfl rfl (by decide) (hts _ gm_934) (fun _ h9 => h9) rfl dX10_drawn_60 ?_
    refine lv_topi (fun x_17 ex_17 => ?_)
    have ex_17 : (st 0 0 37) = x_17 := Eq.symm (ex_17.trans (((congrFun (congrFun (congrFun est_16 0) 0) 37).trans (congrFun (congrFun (gU_k (by decide)) 0) 37)).trans (((congrFun (congrFun (congrFun est_13 0) 0) 37).trans (congrFun (congrFun (gU_k (by decide)) 0) 37)).trans (((congrFun (congrFun (congrFun est_10 0) 0) 37).trans (congrFun (congrFun (gU_k (by decide)) 0) 37)).trans ((congrFun (congrFun (congrFun est_5 0) 0) 37).trans (congrFun (congrFun (gU_k (by decide)) 0) 37))))))
    subst ex_17
    have bf_18 : (0 : Int) ≤ (st 0 0 37).toInt ∧ (st 0 0 37).toInt ≤ (300 : Int) := hB_st.1 0 0 37
    refine lv_iload_n hx hb dX10_drawn_63 rfl (lv_at hl 3 rfl) ?_
    refine gs_iast hx hb hK hI hm hM hS 19 0 (by decide) (fun _ => rfl) (vp_in_iff.mpr ⟨by omega, by omega⟩) dX10_drawn_64 (fun st_19 H locs est_19 hM hS => ?_)
    have hB_st_19 : gBN bM kM [37, 400, 1600, 1700, 1800, 1900, 2000, 2100] st st_19 := by rw [est_19]; exact hB_st_16.up (show (1900 : Nat) ∈ _ from by decide) (gi_lo _) (gi_hi _)
    refine lv_aload_n hx hb dX10_drawn_65 rfl (lv_at hl 0 rfl) ?_
    refine gs_get (C := RX10) (T := TX10) (N := 59) hx hb hts inX10 hown hK hM 0 0 35 (by decide) rfl rfl (by decide) (hts _ gm_932) (fun _ h9 => h9) rfl dX10_drawn_66 ?_
    refine lv_aload_n hx hb dX10_drawn_69 rfl (lv_at hl 0 rfl) ?_
    refine gs_get (C := RX10) (T := TX10) (N := 59) hx hb hts inX10 hown hK hM 0 0 37 (by decide) rfl rfl (by decide) (hts _ gm_934) (fun _ h9 => h9) rfl dX10_drawn_70 ?_
    refine lv_topi (fun x_20 ex_20 => ?_)
    have ex_20 : (st 0 0 37) = x_20 := Eq.symm (ex_20.trans (((congrFun (congrFun (congrFun est_19 0) 0) 37).trans (congrFun (congrFun (gU_k (by decide)) 0) 37)).trans (((congrFun (congrFun (congrFun est_16 0) 0) 37).trans (congrFun (congrFun (gU_k (by decide)) 0) 37)).trans (((congrFun (congrFun (congrFun est_13 0) 0) 37).trans (congrFun (congrFun (gU_k (by decide)) 0) 37)).trans (((congrFun (congrFun (congrFun est_10 0) 0) 37).trans (congrFun (congrFun (gU_k (by decide)) 0) 37)).trans ((congrFun (congrFun (congrFun est_5 0) 0) 37).trans (congrFun (congrFun (gU_k (by decide)) 0) 37)))))))
    subst ex_20
    have bf_21 : (0 : Int) ≤ (st 0 0 37).toInt ∧ (st 0 0 37).toInt ≤ (300 : Int) := hB_st.1 0 0 37
    refine lv_iload hx hb dX10_drawn_73 (lv_at hl 4 rfl) ?_
    refine lv_if_eq (tgt := 82) hx hb dX10_drawn_75 (by decide) (fun c_22 => ?_) (fun c_22 => ?_)
    · have ic_22 := gz_eq (rfl : v.toInt = v.toInt) (by decide : (0 : Int32).toInt = 0) c_22
      refine lv_iconst (v := 0) hx hb dX10_drawn_82 (by decide) ?_
      refine gs_iast hx hb hK hI hm hM hS 20 0 (by decide) (fun _ => rfl) (vp_in_iff.mpr ⟨by omega, by omega⟩) dX10_drawn_83 (fun st_23 H locs est_23 hM hS => ?_)
      have hB_st_23 : gBN bM kM [37, 400, 1600, 1700, 1800, 1900, 2000, 2100] st st_23 := by rw [est_23]; exact hB_st_19.up (show (2000 : Nat) ∈ _ from by decide) (gi_lo _) (gi_hi _)
      refine lv_aload_n hx hb dX10_drawn_84 rfl (lv_at hl 0 rfl) ?_
      refine gs_get (C := RX10) (T := TX10) (N := 59) hx hb hts inX10 hown hK hM 0 0 36 (by decide) rfl rfl (by decide) (hts _ gm_933) (fun _ h9 => h9) rfl dX10_drawn_85 ?_
      refine lv_aload_n hx hb dX10_drawn_88 rfl (lv_at hl 0 rfl) ?_
      refine gs_get (C := RX10) (T := TX10) (N := 59) hx hb hts inX10 hown hK hM 0 0 37 (by decide) rfl rfl (by decide) (hts _ gm_934) (fun _ h9 => h9) rfl dX10_drawn_89 ?_
      refine lv_topi (fun x_24 ex_24 => ?_)
      have ex_24 : (st 0 0 37) = x_24 := Eq.symm (ex_24.trans (((congrFun (congrFun (congrFun est_23 0) 0) 37).trans (congrFun (congrFun (gU_k (by decide)) 0) 37)).trans (((congrFun (congrFun (congrFun est_19 0) 0) 37).trans (congrFun (congrFun (gU_k (by decide)) 0) 37)).trans (((congrFun (congrFun (congrFun est_16 0) 0) 37).trans (congrFun (congrFun (gU_k (by decide)) 0) 37)).trans (((congrFun (congrFun (congrFun est_13 0) 0) 37).trans (congrFun (congrFun (gU_k (by decide)) 0) 37)).trans (((congrFun (congrFun (congrFun est_10 0) 0) 37).trans (congrFun (congrFun (gU_k (by decide)) 0) 37)).trans ((congrFun (congrFun (congrFun est_5 0) 0) 37).trans (congrFun (congrFun (gU_k (by decide)) 0) 37))))))))
      subst ex_24
      have bf_25 : (0 : Int) ≤ (st 0 0 37).toInt ∧ (st 0 0 37).toInt ≤ (300 : Int) := hB_st.1 0 0 37
      refine lv_iload hx hb dX10_drawn_92 (lv_at hl 4 rfl) ?_
      refine lv_if_eq (tgt := 104) hx hb dX10_drawn_94 (by decide) (fun c_26 => ?_) (fun c_26 => ?_)
      · have ic_26 := gz_eq (rfl : v.toInt = v.toInt) (by decide : (0 : Int32).toInt = 0) c_26
        refine lv_iconst (v := (-1)) hx hb dX10_drawn_104 (by decide) ?_
        refine gs_iast hx hb hK hI hm hM hS 21 0 (by decide) (fun _ => rfl) (vp_in_iff.mpr ⟨by omega, by omega⟩) dX10_drawn_105 (fun st_27 H locs est_27 hM hS => ?_)
        have hB_st_27 : gBN bM kM [37, 400, 1600, 1700, 1800, 1900, 2000, 2100] st st_27 := by rw [est_27]; exact hB_st_23.up (show (2100 : Nat) ∈ _ from by decide) (gi_lo _) (gi_hi _)
        refine lv_aload_n hx hb dX10_drawn_106 rfl (lv_at hl 0 rfl) ?_
        refine lv_dup hx hb dX10_drawn_107 rfl ?_
        refine gs_get (C := RX10) (T := TX10) (N := 59) hx hb hts inX10 hown hK hM 0 0 37 (by decide) rfl rfl (by decide) (hts _ gm_934) (fun _ h9 => h9) rfl dX10_drawn_108 ?_
        refine lv_topi (fun x_28 ex_28 => ?_)
        have ex_28 : (st 0 0 37) = x_28 := Eq.symm (ex_28.trans (((congrFun (congrFun (congrFun est_27 0) 0) 37).trans (congrFun (congrFun (gU_k (by decide)) 0) 37)).trans (((congrFun (congrFun (congrFun est_23 0) 0) 37).trans (congrFun (congrFun (gU_k (by decide)) 0) 37)).trans (((congrFun (congrFun (congrFun est_19 0) 0) 37).trans (congrFun (congrFun (gU_k (by decide)) 0) 37)).trans (((congrFun (congrFun (congrFun est_16 0) 0) 37).trans (congrFun (congrFun (gU_k (by decide)) 0) 37)).trans (((congrFun (congrFun (congrFun est_13 0) 0) 37).trans (congrFun (congrFun (gU_k (by decide)) 0) 37)).trans (((congrFun (congrFun (congrFun est_10 0) 0) 37).trans (congrFun (congrFun (gU_k (by decide)) 0) 37)).trans ((congrFun (congrFun (congrFun est_5 0) 0) 37).trans (congrFun (congrFun (gU_k (by decide)) 0) 37)))))))))
        subst ex_28
        have bf_29 : (0 : Int) ≤ (st 0 0 37).toInt ∧ (st 0 0 37).toInt ≤ (300 : Int) := hB_st.1 0 0 37
        refine lv_iconst (v := 1) hx hb dX10_drawn_111 (by decide) ?_
        refine lv_iadd hx hb dX10_drawn_112 ?_
        refine lv_topi (fun x_30 ex_30 => ?_)
        try have tx_30 : x_30.toInt = (st 0 0 37).toInt + 1 := by rw [ex_30]; exact gz_addP (x := (st 0 0 37).toInt) (y := 1) rfl (by decide) (by omega) (by omega)
        refine gs_put (C := RX10) (T := TX10) (N := 59) (ty := .int) (val := .int x_30) hx hb hts inX10 tyX10 tyX10_ok nmX10 hown hK hI hm hM hS 0 0 37 (by decide) rfl rfl (by decide) (hts _ gm_934) (fun _ h9 => h9) rfl (x_30 : Int32) rfl (by decide +kernel) rfl rfl (Nat.le_of_ble_eq_true rfl) dX10_drawn_113 (fun st_31 H locs est_31 hM hS => ?_)
        have hB_st_31 : gBN bM kM [37, 400, 1600, 1700, 1800, 1900, 2000, 2100] st st_31 := by rw [est_31]; exact hB_st_27.up (show (37 : Nat) ∈ _ from by decide) (show (0 : Int) ≤ x_30.toInt from by omega) (show x_30.toInt ≤ (300 : Int) from by omega)
        refine lv_iconst (v := 0) hx hb dX10_drawn_116 (by decide) ?_
        exact gs_iret hx hb hr hlocks hM hS rfl ⟨hB_st_31, trivial⟩ (by exact Nat.le_refl _) (by exact Nat.le_refl _) dX10_drawn_117
      · have ic_26 := gz_ne (rfl : v.toInt = v.toInt) (by decide : (0 : Int32).toInt = 0) c_26
        refine lv_aload_n hx hb dX10_drawn_97 rfl (lv_at hl 0 rfl) ?_
        refine gs_get (C := RX10) (T := TX10) (N := 59) hx hb hts inX10 hown hK hM 0 0 7 (by decide) rfl rfl (by decide) (hts _ gm_904) (fun _ h9 => h9) rfl dX10_drawn_98 ?_
        refine lv_topi (fun x_32 ex_32 => ?_)
        have ex_32 : (st 0 0 7) = x_32 := Eq.symm (ex_32.trans (((congrFun (congrFun (congrFun est_23 0) 0) 7).trans (congrFun (congrFun (gU_k (by decide)) 0) 7)).trans (((congrFun (congrFun (congrFun est_19 0) 0) 7).trans (congrFun (congrFun (gU_k (by decide)) 0) 7)).trans (((congrFun (congrFun (congrFun est_16 0) 0) 7).trans (congrFun (congrFun (gU_k (by decide)) 0) 7)).trans (((congrFun (congrFun (congrFun est_13 0) 0) 7).trans (congrFun (congrFun (gU_k (by decide)) 0) 7)).trans (((congrFun (congrFun (congrFun est_10 0) 0) 7).trans (congrFun (congrFun (gU_k (by decide)) 0) 7)).trans ((congrFun (congrFun (congrFun est_5 0) 0) 7).trans (congrFun (congrFun (gU_k (by decide)) 0) 7))))))))
        subst ex_32
        have bf_33 : (0 : Int) ≤ (st 0 0 7).toInt ∧ (st 0 0 7).toInt ≤ (199 : Int) := hB_st.1 0 0 7
        refine lv_goto (tgt := 105) hx hb dX10_drawn_101 (by decide) ?_
        refine gs_iast hx hb hK hI hm hM hS 21 0 (by decide) (fun _ => rfl) (vp_in_iff.mpr ⟨by omega, by omega⟩) dX10_drawn_105 (fun st_34 H locs est_34 hM hS => ?_)
        have hB_st_34 : gBN bM kM [37, 400, 1600, 1700, 1800, 1900, 2000, 2100] st st_34 := by rw [est_34]; exact hB_st_23.up (show (2100 : Nat) ∈ _ from by decide) (gi_lo _) (gi_hi _)
        refine lv_aload_n hx hb dX10_drawn_106 rfl (lv_at hl 0 rfl) ?_
        refine lv_dup hx hb dX10_drawn_107 rfl ?_
        refine gs_get (C := RX10) (T := TX10) (N := 59) hx hb hts inX10 hown hK hM 0 0 37 (by decide) rfl rfl (by decide) (hts _ gm_934) (fun _ h9 => h9) rfl dX10_drawn_108 ?_
        refine lv_topi (fun x_35 ex_35 => ?_)
        have ex_35 : (st 0 0 37) = x_35 := Eq.symm (ex_35.trans (((congrFun (congrFun (congrFun est_34 0) 0) 37).trans (congrFun (congrFun (gU_k (by decide)) 0) 37)).trans (((congrFun (congrFun (congrFun est_23 0) 0) 37).trans (congrFun (congrFun (gU_k (by decide)) 0) 37)).trans (((congrFun (congrFun (congrFun est_19 0) 0) 37).trans (congrFun (congrFun (gU_k (by decide)) 0) 37)).trans (((congrFun (congrFun (congrFun est_16 0) 0) 37).trans (congrFun (congrFun (gU_k (by decide)) 0) 37)).trans (((congrFun (congrFun (congrFun est_13 0) 0) 37).trans (congrFun (congrFun (gU_k (by decide)) 0) 37)).trans (((congrFun (congrFun (congrFun est_10 0) 0) 37).trans (congrFun (congrFun (gU_k (by decide)) 0) 37)).trans ((congrFun (congrFun (congrFun est_5 0) 0) 37).trans (congrFun (congrFun (gU_k (by decide)) 0) 37)))))))))
        subst ex_35
        have bf_36 : (0 : Int) ≤ (st 0 0 37).toInt ∧ (st 0 0 37).toInt ≤ (300 : Int) := hB_st.1 0 0 37
        refine lv_iconst (v := 1) hx hb dX10_drawn_111 (by decide) ?_
        refine lv_iadd hx hb dX10_drawn_112 ?_
        refine lv_topi (fun x_37 ex_37 => ?_)
        try have tx_37 : x_37.toInt = (st 0 0 37).toInt + 1 := by rw [ex_37]; exact gz_addP (x := (st 0 0 37).toInt) (y := 1) rfl (by decide) (by omega) (by omega)
        refine gs_put (C := RX10) (T := TX10) (N := 59) (ty := .int) (val := .int x_37) hx hb hts inX10 tyX10 tyX10_ok nmX10 hown hK hI hm hM hS 0 0 37 (by decide) rfl rfl (by decide) (hts _ gm_934) (fun _ h9 => h9) rfl (x_37 : Int32) rfl (by decide +kernel) rfl rfl (Nat.le_of_ble_eq_true rfl) dX10_drawn_113 (fun st_38 H locs est_38 hM hS => ?_)
        have hB_st_38 : gBN bM kM [37, 400, 1600, 1700, 1800, 1900, 2000, 2100] st st_38 := by rw [est_38]; exact hB_st_34.up (show (37 : Nat) ∈ _ from by decide) (show (0 : Int) ≤ x_37.toInt from by omega) (show x_37.toInt ≤ (300 : Int) from by omega)
        refine lv_iconst (v := 0) hx hb dX10_drawn_116 (by decide) ?_
        exact gs_iret hx hb hr hlocks hM hS rfl ⟨hB_st_38, trivial⟩ (by exact Nat.le_refl _) (by exact Nat.le_refl _) dX10_drawn_117
    · have ic_22 := gz_ne (rfl : v.toInt = v.toInt) (by decide : (0 : Int32).toInt = 0) c_22
      refine lv_iconst (v := 1) hx hb dX10_drawn_78 (by decide) ?_
      refine lv_goto (tgt := 83) hx hb dX10_drawn_79 (by decide) ?_
      refine gs_iast hx hb hK hI hm hM hS 20 0 (by decide) (fun _ => rfl) (vp_in_iff.mpr ⟨by omega, by omega⟩) dX10_drawn_83 (fun st_39 H locs est_39 hM hS => ?_)
      have hB_st_39 : gBN bM kM [37, 400, 1600, 1700, 1800, 1900, 2000, 2100] st st_39 := by rw [est_39]; exact hB_st_19.up (show (2000 : Nat) ∈ _ from by decide) (gi_lo _) (gi_hi _)
      refine lv_aload_n hx hb dX10_drawn_84 rfl (lv_at hl 0 rfl) ?_
      refine gs_get (C := RX10) (T := TX10) (N := 59) hx hb hts inX10 hown hK hM 0 0 36 (by decide) rfl rfl (by decide) (hts _ gm_933) (fun _ h9 => h9) rfl dX10_drawn_85 ?_
      refine lv_aload_n hx hb dX10_drawn_88 rfl (lv_at hl 0 rfl) ?_
      refine gs_get (C := RX10) (T := TX10) (N := 59) hx hb hts inX10 hown hK hM 0 0 37 (by decide) rfl rfl (by decide) (hts _ gm_934) (fun _ h9 => h9) rfl dX10_drawn_89 ?_
      refine lv_topi (fun x_40 ex_40 => ?_)
      have ex_40 : (st 0 0 37) = x_40 := Eq.symm (ex_40.trans (((congrFun (congrFun (congrFun est_39 0) 0) 37).trans (congrFun (congrFun (gU_k (by decide)) 0) 37)).trans (((congrFun (congrFun (congrFun est_19 0) 0) 37).trans (congrFun (congrFun (gU_k (by decide)) 0) 37)).trans (((congrFun (congrFun (congrFun est_16 0) 0) 37).trans (congrFun (congrFun (gU_k (by decide)) 0) 37)).trans (((congrFun (congrFun (congrFun est_13 0) 0) 37).trans (congrFun (congrFun (gU_k (by decide)) 0) 37)).trans (((congrFun (congrFun (congrFun est_10 0) 0) 37).trans (congrFun (congrFun (gU_k (by decide)) 0) 37)).trans ((congrFun (congrFun (congrFun est_5 0) 0) 37).trans (congrFun (congrFun (gU_k (by decide)) 0) 37))))))))
      subst ex_40
      have bf_41 : (0 : Int) ≤ (st 0 0 37).toInt ∧ (st 0 0 37).toInt ≤ (300 : Int) := hB_st.1 0 0 37
      refine lv_iload hx hb dX10_drawn_92 (lv_at hl 4 rfl) ?_
      refine lv_if_eq (tgt := 104) hx hb dX10_drawn_94 (by decide) (fun c_42 => ?_) (fun c_42 => ?_)
      · have ic_42 := gz_eq (rfl : v.toInt = v.toInt) (by decide : (0 : Int32).toInt = 0) c_42
        refine lv_iconst (v := (-1)) hx hb dX10_drawn_104 (by decide) ?_
        refine gs_iast hx hb hK hI hm hM hS 21 0 (by decide) (fun _ => rfl) (vp_in_iff.mpr ⟨by omega, by omega⟩) dX10_drawn_105 (fun st_43 H locs est_43 hM hS => ?_)
        have hB_st_43 : gBN bM kM [37, 400, 1600, 1700, 1800, 1900, 2000, 2100] st st_43 := by rw [est_43]; exact hB_st_39.up (show (2100 : Nat) ∈ _ from by decide) (gi_lo _) (gi_hi _)
        refine lv_aload_n hx hb dX10_drawn_106 rfl (lv_at hl 0 rfl) ?_
        refine lv_dup hx hb dX10_drawn_107 rfl ?_
        refine gs_get (C := RX10) (T := TX10) (N := 59) hx hb hts inX10 hown hK hM 0 0 37 (by decide) rfl rfl (by decide) (hts _ gm_934) (fun _ h9 => h9) rfl dX10_drawn_108 ?_
        refine lv_topi (fun x_44 ex_44 => ?_)
        have ex_44 : (st 0 0 37) = x_44 := Eq.symm (ex_44.trans (((congrFun (congrFun (congrFun est_43 0) 0) 37).trans (congrFun (congrFun (gU_k (by decide)) 0) 37)).trans (((congrFun (congrFun (congrFun est_39 0) 0) 37).trans (congrFun (congrFun (gU_k (by decide)) 0) 37)).trans (((congrFun (congrFun (congrFun est_19 0) 0) 37).trans (congrFun (congrFun (gU_k (by decide)) 0) 37)).trans (((congrFun (congrFun (congrFun est_16 0) 0) 37).trans (congrFun (congrFun (gU_k (by decide)) 0) 37)).trans (((congrFun (congrFun (congrFun est_13 0) 0) 37).trans (congrFun (congrFun (gU_k (by decide)) 0) 37)).trans (((congrFun (congrFun (congrFun est_10 0) 0) 37).trans (congrFun (congrFun (gU_k (by decide)) 0) 37)).trans ((congrFun (congrFun (congrFun est_5 0) 0) 37).trans (congrFun (congrFun (gU_k (by decide)) 0) 37)))))))))
        subst ex_44
        have bf_45 : (0 : Int) ≤ (st 0 0 37).toInt ∧ (st 0 0 37).toInt ≤ (300 : Int) := hB_st.1 0 0 37
        refine lv_iconst (v := 1) hx hb dX10_drawn_111 (by decide) ?_
        refine lv_iadd hx hb dX10_drawn_112 ?_
        refine lv_topi (fun x_46 ex_46 => ?_)
        try have tx_46 : x_46.toInt = (st 0 0 37).toInt + 1 := by rw [ex_46]; exact gz_addP (x := (st 0 0 37).toInt) (y := 1) rfl (by decide) (by omega) (by omega)
        refine gs_put (C := RX10) (T := TX10) (N := 59) (ty := .int) (val := .int x_46) hx hb hts inX10 tyX10 tyX10_ok nmX10 hown hK hI hm hM hS 0 0 37 (by decide) rfl rfl (by decide) (hts _ gm_934) (fun _ h9 => h9) rfl (x_46 : Int32) rfl (by decide +kernel) rfl rfl (Nat.le_of_ble_eq_true rfl) dX10_drawn_113 (fun st_47 H locs est_47 hM hS => ?_)
        have hB_st_47 : gBN bM kM [37, 400, 1600, 1700, 1800, 1900, 2000, 2100] st st_47 := by rw [est_47]; exact hB_st_43.up (show (37 : Nat) ∈ _ from by decide) (show (0 : Int) ≤ x_46.toInt from by omega) (show x_46.toInt ≤ (300 : Int) from by omega)
        refine lv_iconst (v := 0) hx hb dX10_drawn_116 (by decide) ?_
        exact gs_iret hx hb hr hlocks hM hS rfl ⟨hB_st_47, trivial⟩ (by exact Nat.le_refl _) (by exact Nat.le_refl _) dX10_drawn_117
      · have ic_42 := gz_ne (rfl : v.toInt = v.toInt) (by decide : (0 : Int32).toInt = 0) c_42
        refine lv_aload_n hx hb dX10_drawn_97 rfl (lv_at hl 0 rfl) ?_
        refine gs_get (C := RX10) (T := TX10) (N := 59) hx hb hts inX10 hown hK hM 0 0 7 (by decide) rfl rfl (by decide) (hts _ gm_904) (fun _ h9 => h9) rfl dX10_drawn_98 ?_
        refine lv_topi (fun x_48 ex_48 => ?_)
        have ex_48 : (st 0 0 7) = x_48 := Eq.symm (ex_48.trans (((congrFun (congrFun (congrFun est_39 0) 0) 7).trans (congrFun (congrFun (gU_k (by decide)) 0) 7)).trans (((congrFun (congrFun (congrFun est_19 0) 0) 7).trans (congrFun (congrFun (gU_k (by decide)) 0) 7)).trans (((congrFun (congrFun (congrFun est_16 0) 0) 7).trans (congrFun (congrFun (gU_k (by decide)) 0) 7)).trans (((congrFun (congrFun (congrFun est_13 0) 0) 7).trans (congrFun (congrFun (gU_k (by decide)) 0) 7)).trans (((congrFun (congrFun (congrFun est_10 0) 0) 7).trans (congrFun (congrFun (gU_k (by decide)) 0) 7)).trans ((congrFun (congrFun (congrFun est_5 0) 0) 7).trans (congrFun (congrFun (gU_k (by decide)) 0) 7))))))))
        subst ex_48
        have bf_49 : (0 : Int) ≤ (st 0 0 7).toInt ∧ (st 0 0 7).toInt ≤ (199 : Int) := hB_st.1 0 0 7
        refine lv_goto (tgt := 105) hx hb dX10_drawn_101 (by decide) ?_
        refine gs_iast hx hb hK hI hm hM hS 21 0 (by decide) (fun _ => rfl) (vp_in_iff.mpr ⟨by omega, by omega⟩) dX10_drawn_105 (fun st_50 H locs est_50 hM hS => ?_)
        have hB_st_50 : gBN bM kM [37, 400, 1600, 1700, 1800, 1900, 2000, 2100] st st_50 := by rw [est_50]; exact hB_st_39.up (show (2100 : Nat) ∈ _ from by decide) (gi_lo _) (gi_hi _)
        refine lv_aload_n hx hb dX10_drawn_106 rfl (lv_at hl 0 rfl) ?_
        refine lv_dup hx hb dX10_drawn_107 rfl ?_
        refine gs_get (C := RX10) (T := TX10) (N := 59) hx hb hts inX10 hown hK hM 0 0 37 (by decide) rfl rfl (by decide) (hts _ gm_934) (fun _ h9 => h9) rfl dX10_drawn_108 ?_
        refine lv_topi (fun x_51 ex_51 => ?_)
        have ex_51 : (st 0 0 37) = x_51 := Eq.symm (ex_51.trans (((congrFun (congrFun (congrFun est_50 0) 0) 37).trans (congrFun (congrFun (gU_k (by decide)) 0) 37)).trans (((congrFun (congrFun (congrFun est_39 0) 0) 37).trans (congrFun (congrFun (gU_k (by decide)) 0) 37)).trans (((congrFun (congrFun (congrFun est_19 0) 0) 37).trans (congrFun (congrFun (gU_k (by decide)) 0) 37)).trans (((congrFun (congrFun (congrFun est_16 0) 0) 37).trans (congrFun (congrFun (gU_k (by decide)) 0) 37)).trans (((congrFun (congrFun (congrFun est_13 0) 0) 37).trans (congrFun (congrFun (gU_k (by decide)) 0) 37)).trans (((congrFun (congrFun (congrFun est_10 0) 0) 37).trans (congrFun (congrFun (gU_k (by decide)) 0) 37)).trans ((congrFun (congrFun (congrFun est_5 0) 0) 37).trans (congrFun (congrFun (gU_k (by decide)) 0) 37)))))))))
        subst ex_51
        have bf_52 : (0 : Int) ≤ (st 0 0 37).toInt ∧ (st 0 0 37).toInt ≤ (300 : Int) := hB_st.1 0 0 37
        refine lv_iconst (v := 1) hx hb dX10_drawn_111 (by decide) ?_
        refine lv_iadd hx hb dX10_drawn_112 ?_
        refine lv_topi (fun x_53 ex_53 => ?_)
        try have tx_53 : x_53.toInt = (st 0 0 37).toInt + 1 := by rw [ex_53]; exact gz_addP (x := (st 0 0 37).toInt) (y := 1) rfl (by decide) (by omega) (by omega)
        refine gs_put (C := RX10) (T := TX10) (N := 59) (ty := .int) (val := .int x_53) hx hb hts inX10 tyX10 tyX10_ok nmX10 hown hK hI hm hM hS 0 0 37 (by decide) rfl rfl (by decide) (hts _ gm_934) (fun _ h9 => h9) rfl (x_53 : Int32) rfl (by decide +kernel) rfl rfl (Nat.le_of_ble_eq_true rfl) dX10_drawn_113 (fun st_54 H locs est_54 hM hS => ?_)
        have hB_st_54 : gBN bM kM [37, 400, 1600, 1700, 1800, 1900, 2000, 2100] st st_54 := by rw [est_54]; exact hB_st_50.up (show (37 : Nat) ∈ _ from by decide) (show (0 : Int) ≤ x_53.toInt from by omega) (show x_53.toInt ≤ (300 : Int) from by omega)
        refine lv_iconst (v := 0) hx hb dX10_drawn_116 (by decide) ?_
        exact gs_iret hx hb hr hlocks hM hS rfl ⟨hB_st_54, trivial⟩ (by exact Nat.le_refl _) (by exact Nat.le_refl _) dX10_drawn_117
  · have ic_2 := gz_nle (rfl : w.toInt = w.toInt) (rfl : x_1.toInt = x_1.toInt) c_2
    have lc_2 := gi_hi w
    refine lv_iconst (v := 4) hx hb dX10_drawn_10 (by decide) ?_
    exact gs_iret hx hb hr hlocks hM hS rfl ⟨hB_st, trivial⟩ (by exact Nat.le_refl _) (by exact Nat.le_refl _) dX10_drawn_11

set_option maxHeartbeats 4000000 in
set_option maxRecDepth 100000 in
/-- WellCourtModel.draw -/
theorem m_draw (l : Launch) (G : va_G) (cy : Nat → ClassId) (sK sV : Nat → Nat) (ad : Nat → Nat → Nat) (sz : Nat) (st : gS) (hB : gBd bM st) (x : Int32) (y : Int32) (w : Int32) (Xx : Int) (Xy : Int) (Xw : Int) (kx : x.toInt = Xx) (ky : y.toInt = Xy) (kw : w.toInt = Xw) : gsMi l yX10_draw cX10_draw 7 (some .int) ({ frames := 2, cells := 0, slots := 0, locals := 51 } : Room) G cy sK sV (shM cy ad) cnM ad sz [.ref (ad 0 0), .int x, .int y, .int w] st (fun (r : Int32) (u : gS) => gBN bM kM [0, 37, 400, 1600, 1700, 1800, 1900, 2000, 2100] st u ∧ (True)) := by
  refine gs_start (fun A => gsQi G (shM cy ad) cnM ad _ A) (by decide) (Nat.le_of_ble_eq_true rfl) ?_
  intro p e s m below meth c A ls H hx hb hr hml hlocks hown hts hK hov hE hI hM hm hS hA hl
  have hl : lv_has ls 7 [(0, .ref (ad 0 0)), (1, .int x), (2, .int y), (3, .int w)] := hl
  have hB_st : gBN bM kM [0, 37, 400, 1600, 1700, 1800, 1900, 2000, 2100] st st := gBN.rf hB
  generalize hQe : MQ below _ _ s _ _ A = Q
  refine lv_aload_n hx hb dX10_draw_0 rfl (lv_at hl 0 rfl) ?_
  refine lv_iconst (v := 0) hx hb dX10_draw_1 (by decide) ?_
  refine gs_put (C := RX10) (T := TX10) (N := 59) (ty := .int) (val := .int 0) hx hb hts inX10 tyX10 tyX10_ok nmX10 hown hK hI hm hM hS 0 0 0 (by decide) rfl rfl (by decide) (hts _ gm_897) (fun _ h9 => h9) rfl (0 : Int32) rfl (by decide +kernel) rfl rfl (Nat.le_of_ble_eq_true rfl) dX10_draw_2 (fun st_1 H locs est_1 hM hS => ?_)
  have hB_st_1 : gBN bM kM [0, 37, 400, 1600, 1700, 1800, 1900, 2000, 2100] st st_1 := by rw [est_1]; exact hB_st.up (show (0 : Nat) ∈ _ from by decide) (gi_lo _) (gi_hi _)
  refine lv_aload_n hx hb dX10_draw_5 rfl (lv_at hl 0 rfl) ?_
  refine lv_iload_n hx hb dX10_draw_6 rfl (lv_at hl 1 rfl) ?_
  refine lv_iload_n hx hb dX10_draw_7 rfl (lv_at hl 2 rfl) ?_
  refine lv_iload_n hx hb dX10_draw_8 rfl (lv_at hl 3 rfl) ?_
  refine gs_calli (va_runV (As := [.int x, .int y, .int w]) (rest := []) ⟨hx, hb, hml, hown, hts⟩ (m_cantDraw l G cy sK sV ad H.size st_1 hB_st_1.1 x y w x.toInt y.toInt w.toInt rfl rfl rfl ) ⟨(gz_cb (n := 3) hts gm_1232 gm_12 gm_1235 ⟨by decide +kernel, by decide +kernel, by decide +kernel⟩ ⟨Nat.le_of_ble_eq_true rfl, Nat.le_of_ble_eq_true rfl⟩), hts _ gm_1234, hts _ gs_54⟩ (gs_preV hK hov hE hI hM hm hS hA 0 0 (by decide) rfl rfl) rfl rfl hl.1 rfl (lv_room (Nat.le_of_ble_eq_true rfl)) dX10_draw_9 ⟨Nat.le_of_ble_eq_true rfl, Nat.le_of_ble_eq_true rfl⟩) hm hS hA (fun r_2 st_2 H locs hw_2 hM hS => ?_)
  obtain ⟨n_2, hw_2⟩ := hw_2
  have n_2 := gBN.nil n_2
  subst n_2
  have hqhw_20 : (st_1 0 0 37).toInt = ((st 0 0 37) : Int32).toInt := congrArg Int32.toInt (((congrFun (congrFun (congrFun est_1 0) 0) 37).trans (gU_other (by decide))))
  have hbhw_21 : (0 : Int) ≤ (st_1 0 0 37).toInt ∧ (st_1 0 0 37).toInt ≤ (300 : Int) := hB_st_1.1 0 0 37
  rcases hw_2 with rfl | ⟨rfl, hw_2_0, hw_2_1, hw_2_2, hw_2_3, hw_2_4, hw_2_5, hw_2_6⟩
  · skip
    refine lv_if_eq (tgt := 17) hx hb dX10_draw_12 (by decide) (fun h9 => absurd h9 (by decide)) (fun _ => ?_)
    refine lv_iconst (v := 1) hx hb dX10_draw_15 (by decide) ?_
    rw [← hQe]
    exact gs_iret hx hb hr hlocks hM hS rfl ⟨hB_st_1, trivial⟩ (by exact Nat.le_refl _) (by exact Nat.le_refl _) dX10_draw_16
  · skip
    refine lv_if_eq (tgt := 17) hx hb dX10_draw_12 (by decide) (fun _ => ?_) (fun h9 => absurd (by decide) h9)
    refine lv_aload_n hx hb dX10_draw_17 rfl (lv_at hl 0 rfl) ?_
    refine lv_iload_n hx hb dX10_draw_18 rfl (lv_at hl 1 rfl) ?_
    refine lv_iload_n hx hb dX10_draw_19 rfl (lv_at hl 2 rfl) ?_
    refine gs_calli (va_runV (As := [.int x, .int y]) (rest := []) ⟨hx, hb, hml, hown, hts⟩ (m_isRightNow l G cy sK sV ad H.size st_1 hB_st_1.1 x y x.toInt y.toInt rfl rfl (by first | decide | omega) (by first | decide | omega)) ⟨(gz_cb (n := 2) hts gm_1212 gm_12 gm_1215 ⟨by decide +kernel, by decide +kernel, by decide +kernel⟩ ⟨Nat.le_of_ble_eq_true rfl, Nat.le_of_ble_eq_true rfl⟩), hts _ gm_1214, hts _ gs_51⟩ (gs_preV hK hov hE hI hM hm hS hA 0 0 (by decide) rfl rfl) rfl rfl hl.1 rfl (lv_room (Nat.le_of_ble_eq_true rfl)) dX10_draw_20 ⟨Nat.le_of_ble_eq_true rfl, Nat.le_of_ble_eq_true rfl⟩) hm hS hA (fun r_3 st_3 H locs hw_3 hM hS => ?_)
    obtain ⟨n_3, hw_3⟩ := hw_3
    have n_3 := gBN.nil n_3
    subst n_3
    rcases hw_3 with rfl | rfl
    · skip
      refine lv_if_ne (tgt := 139) hx hb dX10_draw_23 (by decide) (fun _ => ?_) (fun h9 => absurd h9 (by decide))
      refine lv_aload_n hx hb dX10_draw_139 rfl (lv_at hl 0 rfl) ?_
      refine lv_iload_n hx hb dX10_draw_140 rfl (lv_at hl 1 rfl) ?_
      refine lv_iload_n hx hb dX10_draw_141 rfl (lv_at hl 2 rfl) ?_
      refine lv_iload_n hx hb dX10_draw_142 rfl (lv_at hl 3 rfl) ?_
      refine lv_iconst (v := 1) hx hb dX10_draw_143 (by decide) ?_
      refine gs_calli (va_runV (As := [.int x, .int y, .int w, .int 1]) (rest := []) ⟨hx, hb, hml, hown, hts⟩ (m_enter l G cy sK sV ad H.size st_1 hB_st_1.1 x y w (1 : Int32) x.toInt y.toInt w.toInt 1 rfl rfl rfl (by decide) (by first | decide | omega) (by first | decide | omega) (by have hq0 : (st_1 0 0 37).toInt = ((st 0 0 37) : Int32).toInt := congrArg Int32.toInt (((congrFun (congrFun (congrFun est_1 0) 0) 37).trans (gU_other (by decide)))); have hb1 : (0 : Int) ≤ (st_1 0 0 37).toInt ∧ (st_1 0 0 37).toInt ≤ (300 : Int) := hB_st_1.1 0 0 37; omega)) ⟨(gz_cb (n := 4) hts gm_1236 gm_12 gm_1239 ⟨by decide +kernel, by decide +kernel, by decide +kernel⟩ ⟨Nat.le_of_ble_eq_true rfl, Nat.le_of_ble_eq_true rfl⟩), hts _ gm_1238, hts _ gs_55⟩ (gs_preV hK hov hE hI hM hm hS hA 0 0 (by decide) rfl rfl) rfl rfl hl.1 rfl (lv_room (Nat.le_of_ble_eq_true rfl)) dX10_draw_144 ⟨Nat.le_of_ble_eq_true rfl, Nat.le_of_ble_eq_true rfl⟩) hm hS hA (fun r_4 st_4 H locs hw_4 hM hS => ?_)
      obtain ⟨n_4, hw_4⟩ := hw_4
      have hB_st_4 : gBN bM kM [0, 37, 400, 1600, 1700, 1800, 1900, 2000, 2100] st st_4 := hB_st_1.call n_4 (by decide)
      rw [← hQe]
      exact gs_iret hx hb hr hlocks hM hS rfl ⟨hB_st_4, trivial⟩ (by exact Nat.le_refl _) (by exact Nat.le_refl _) dX10_draw_147
    · skip
      refine lv_if_ne (tgt := 139) hx hb dX10_draw_23 (by decide) (fun h9 => absurd (by decide) h9) (fun _ => ?_)
      refine lv_aload_n hx hb dX10_draw_26 rfl (lv_at hl 0 rfl) ?_
      refine lv_iload_n hx hb dX10_draw_27 rfl (lv_at hl 1 rfl) ?_
      refine lv_iload_n hx hb dX10_draw_28 rfl (lv_at hl 2 rfl) ?_
      refine gs_calli (va_runV (As := [.int x, .int y]) (rest := []) ⟨hx, hb, hml, hown, hts⟩ (m_guestRule l G cy sK sV ad H.size st_1 hB_st_1.1 x y x.toInt y.toInt rfl rfl (by first | decide | omega) (by first | decide | omega)) ⟨(gz_cb (n := 2) hts gm_1220 gm_12 gm_1223 ⟨by decide +kernel, by decide +kernel, by decide +kernel⟩ ⟨Nat.le_of_ble_eq_true rfl, Nat.le_of_ble_eq_true rfl⟩), hts _ gm_1222, hts _ gs_53⟩ (gs_preV hK hov hE hI hM hm hS hA 0 0 (by decide) rfl rfl) rfl rfl hl.1 rfl (lv_room (Nat.le_of_ble_eq_true rfl)) dX10_draw_29 ⟨Nat.le_of_ble_eq_true rfl, Nat.le_of_ble_eq_true rfl⟩) hm hS hA (fun r_5 st_5 H locs hw_5 hM hS => ?_)
      obtain ⟨n_5, hw_5⟩ := hw_5
      have n_5 := gBN.nil n_5
      subst n_5
      have hw_5_0 := hw_5
      refine lv_istore (lv' := [(4, .int r_5), (0, .ref (ad 0 0)), (1, .int x), (2, .int y), (3, .int w)]) hx hb dX10_draw_32 hl (by decide) rfl (fun ls hl => ?_)
      refine lv_iload hx hb dX10_draw_34 (lv_at hl 0 rfl) ?_
      refine lv_if_ge (tgt := 41) hx hb dX10_draw_36 (by decide) (fun c_6 => ?_) (fun c_6 => ?_)
      · have ic_6 := gz_le (by decide : (0 : Int32).toInt = 0) (rfl : r_5.toInt = r_5.toInt) c_6
        refine lv_iload_n hx hb dX10_draw_41 rfl (lv_at hl 4 rfl) ?_
        refine lv_istore (lv' := [(5, .int w), (4, .int r_5), (0, .ref (ad 0 0)), (1, .int x), (2, .int y), (3, .int w)]) hx hb dX10_draw_42 hl (by decide) rfl (fun ls hl => ?_)
        refine lv_iconst (v := 0) hx hb dX10_draw_44 (by decide) ?_
        refine lv_istore (lv' := [(6, .int 0), (5, .int w), (4, .int r_5), (0, .ref (ad 0 0)), (1, .int x), (2, .int y), (3, .int w)]) hx hb dX10_draw_45 hl (by decide) rfl (fun ls hl => ?_)
        have lp7 : ∀ (n7 : Nat)  (y7_0 : Int32) (y7_1 : Int32) (H : Heap) (locs : List Loc) (ls : Array Slot), (300 - y7_1.toInt).toNat < n7 →  (0 ≤ y7_1.toInt) → gM G (shM cy ad) cnM ad st_1 H → va_S A s.heap H locs → lv_has ls 7 [(6, .int y7_1), (5, .int y7_0), (4, .int r_5), (0, .ref (ad 0 0)), (1, .int x), (2, .int y), (3, .int w)] → W p l e ({ frames := 2, cells := 0, slots := 0, locals := 51 } : Room) s m [.ref (ad 0 0), .int x, .int y, .int w].toArray below meth c H locs 0 0 Q (F0 m 47 ls []) := by
          intro n7
          induction n7 with
          | zero => intro  y7_0 y7_1 H locs ls h9; exact absurd h9 (Nat.not_lt_zero _)
          | succ n7 ih_7 =>
            intro  y7_0 y7_1 H locs ls hme7  hv7_0 hM hS hl
            refine lv_iload hx hb dX10_draw_47 (lv_at hl 0 rfl) ?_
            refine lv_aload_n hx hb dX10_draw_49 rfl (lv_at hl 3 rfl) ?_
            refine gs_get (C := RX10) (T := TX10) (N := 59) hx hb hts inX10 hown hK hM 0 0 37 (by decide) rfl rfl (by decide) (hts _ gm_934) (fun _ h9 => h9) rfl dX10_draw_50 ?_
            refine lv_topi (fun x_8 ex_8 => ?_)
            have ex_8 : (st 0 0 37) = x_8 := Eq.symm (ex_8.trans ((congrFun (congrFun (congrFun est_1 0) 0) 37).trans (gU_other (by decide))))
            subst ex_8
            have bf_9 : (0 : Int) ≤ (st 0 0 37).toInt ∧ (st 0 0 37).toInt ≤ (300 : Int) := hB_st.1 0 0 37
            refine lv_icmp_ge (tgt := 125) hx hb dX10_draw_53 (by decide) (fun c_10 => ?_) (fun c_10 => ?_)
            · have ic_10 := gz_le (rfl : (st 0 0 37).toInt = (st 0 0 37).toInt) (rfl : y7_1.toInt = y7_1.toInt) c_10
              refine lv_iload hx hb dX10_draw_125 (lv_at hl 1 rfl) ?_
              refine lv_aload_n hx hb dX10_draw_127 rfl (lv_at hl 3 rfl) ?_
              refine gs_get (C := RX10) (T := TX10) (N := 59) hx hb hts inX10 hown hK hM 0 0 24 (by decide) rfl rfl (by decide) (hts _ gm_921) (fun _ h9 => h9) rfl dX10_draw_128 ?_
              refine lv_iload hx hb dX10_draw_131 (lv_at hl 2 rfl) ?_
              refine gs_iald hx hb hK hM 12 0 (by decide) rfl (vp_in_iff.mpr ⟨by omega, by omega⟩) dX10_draw_133 ?_
              refine lv_topi (fun x_11 ex_11 => ?_)
              have qx_11 : x_11.toInt = (st_1 12 0 (r_5.toNatClampNeg)).toInt := congrArg Int32.toInt ex_11
              have rx_11 : x_11.toInt = ((st 12 0 (r_5.toNatClampNeg)) : Int32).toInt := by rw [ex_11]; exact congrArg Int32.toInt (((congrFun (congrFun (congrFun est_1 12) 0) (r_5.toNatClampNeg)).trans (congrFun (congrFun (gU_k (by decide)) 0) (r_5.toNatClampNeg))))
              refine lv_icmp_le (tgt := 139) hx hb dX10_draw_134 (by decide) (fun c_12 => ?_) (fun c_12 => ?_)
              · have ic_12 := gz_le (rfl : y7_0.toInt = y7_0.toInt) (rfl : x_11.toInt = x_11.toInt) c_12
                refine lv_aload_n hx hb dX10_draw_139 rfl (lv_at hl 3 rfl) ?_
                refine lv_iload_n hx hb dX10_draw_140 rfl (lv_at hl 4 rfl) ?_
                refine lv_iload_n hx hb dX10_draw_141 rfl (lv_at hl 5 rfl) ?_
                refine lv_iload_n hx hb dX10_draw_142 rfl (lv_at hl 6 rfl) ?_
                refine lv_iconst (v := 1) hx hb dX10_draw_143 (by decide) ?_
                refine gs_calli (va_runV (As := [.int x, .int y, .int w, .int 1]) (rest := []) ⟨hx, hb, hml, hown, hts⟩ (m_enter l G cy sK sV ad H.size st_1 hB_st_1.1 x y w (1 : Int32) x.toInt y.toInt w.toInt 1 rfl rfl rfl (by decide) (by first | decide | omega) (by first | decide | omega) (by have hq0 : (st_1 0 0 37).toInt = ((st 0 0 37) : Int32).toInt := congrArg Int32.toInt (((congrFun (congrFun (congrFun est_1 0) 0) 37).trans (gU_other (by decide)))); have hb1 : (0 : Int) ≤ (st_1 0 0 37).toInt ∧ (st_1 0 0 37).toInt ≤ (300 : Int) := hB_st_1.1 0 0 37; omega)) ⟨(gz_cb (n := 4) hts gm_1236 gm_12 gm_1239 ⟨by decide +kernel, by decide +kernel, by decide +kernel⟩ ⟨Nat.le_of_ble_eq_true rfl, Nat.le_of_ble_eq_true rfl⟩), hts _ gm_1238, hts _ gs_55⟩ (gs_preV hK hov hE hI hM hm hS hA 0 0 (by decide) rfl rfl) rfl rfl hl.1 rfl (lv_room (Nat.le_of_ble_eq_true rfl)) dX10_draw_144 ⟨Nat.le_of_ble_eq_true rfl, Nat.le_of_ble_eq_true rfl⟩) hm hS hA (fun r_13 st_13 H locs hw_13 hM hS => ?_)
                obtain ⟨n_13, hw_13⟩ := hw_13
                have hB_st_13 : gBN bM kM [0, 37, 400, 1600, 1700, 1800, 1900, 2000, 2100] st st_13 := hB_st_1.call n_13 (by decide)
                rw [← hQe]
                exact gs_iret hx hb hr hlocks hM hS rfl ⟨hB_st_13, trivial⟩ (by exact Nat.le_refl _) (by exact Nat.le_refl _) dX10_draw_147
              · have ic_12 := gz_nle (rfl : y7_0.toInt = y7_0.toInt) (rfl : x_11.toInt = x_11.toInt) c_12
                have lc_12 := gi_hi y7_0
                refine lv_iconst (v := 3) hx hb dX10_draw_137 (by decide) ?_
                rw [← hQe]
                exact gs_iret hx hb hr hlocks hM hS rfl ⟨hB_st_1, trivial⟩ (by exact Nat.le_refl _) (by exact Nat.le_refl _) dX10_draw_138
            · have ic_10 := gz_nle (rfl : (st 0 0 37).toInt = (st 0 0 37).toInt) (rfl : y7_1.toInt = y7_1.toInt) c_10
              have lc_10 := gi_hi (st 0 0 37)
              refine lv_iload hx hb dX10_draw_56 (lv_at hl 1 rfl) ?_
              refine lv_aload_n hx hb dX10_draw_58 rfl (lv_at hl 3 rfl) ?_
              refine gs_get (C := RX10) (T := TX10) (N := 59) hx hb hts inX10 hown hK hM 0 0 31 (by decide) rfl rfl (by decide) (hts _ gm_928) (fun _ h9 => h9) rfl dX10_draw_59 ?_
              refine lv_iload hx hb dX10_draw_62 (lv_at hl 0 rfl) ?_
              refine gs_iald hx hb hK hM 16 0 (by decide) rfl (vp_in_iff.mpr ⟨by omega, by omega⟩) dX10_draw_64 ?_
              refine lv_topi (fun x_14 ex_14 => ?_)
              have qx_14 : x_14.toInt = (st_1 16 0 (y7_1.toNatClampNeg)).toInt := congrArg Int32.toInt ex_14
              have rx_14 : x_14.toInt = ((st 16 0 (y7_1.toNatClampNeg)) : Int32).toInt := by rw [ex_14]; exact congrArg Int32.toInt (((congrFun (congrFun (congrFun est_1 16) 0) (y7_1.toNatClampNeg)).trans (congrFun (congrFun (gU_k (by decide)) 0) (y7_1.toNatClampNeg))))
              refine lv_aload_n hx hb dX10_draw_65 rfl (lv_at hl 3 rfl) ?_
              refine gs_get (C := RX10) (T := TX10) (N := 59) hx hb hts inX10 hown hK hM 0 0 7 (by decide) rfl rfl (by decide) (hts _ gm_904) (fun _ h9 => h9) rfl dX10_draw_66 ?_
              refine lv_topi (fun x_15 ex_15 => ?_)
              have ex_15 : (st 0 0 7) = x_15 := Eq.symm (ex_15.trans ((congrFun (congrFun (congrFun est_1 0) 0) 7).trans (gU_other (by decide))))
              subst ex_15
              have bf_16 : (0 : Int) ≤ (st 0 0 7).toInt ∧ (st 0 0 7).toInt ≤ (199 : Int) := hB_st.1 0 0 7
              refine lv_icmp_ne (tgt := 115) hx hb dX10_draw_69 (by decide) (fun c_17 => ?_) (fun c_17 => ?_)
              · have ic_17 := gz_ne (rfl : x_14.toInt = x_14.toInt) (rfl : (st 0 0 7).toInt = (st 0 0 7).toInt) c_17
                refine lv_iconst (v := 0) hx hb dX10_draw_115 (by decide) ?_
                refine lv_iadd hx hb dX10_draw_116 ?_
                refine lv_topi (fun x_18 ex_18 => ?_)
                refine lv_istore (lv' := [(5, .int x_18), (6, .int y7_1), (4, .int r_5), (0, .ref (ad 0 0)), (1, .int x), (2, .int y), (3, .int w)]) hx hb dX10_draw_117 hl (by decide) rfl (fun ls hl => ?_)
                obtain ⟨x_19, ex_19⟩ : ∃ y : Int32, y = y7_1 + 1 := ⟨_, rfl⟩
                try have tx_19 : x_19.toInt = y7_1.toInt + 1 := by rw [ex_19]; exact gz_addP (x := y7_1.toInt) (y := 1) rfl (by decide) (by omega) (by omega)
                refine lv_iinc (v := (x_19)) (lv' := [(6, .int x_19), (5, .int x_18), (4, .int r_5), (0, .ref (ad 0 0)), (1, .int x), (2, .int y), (3, .int w)]) hx hb dX10_draw_119 hl (k := 1) rfl (by rw [ex_19]; rfl) (by decide) rfl (fun ls hl => ?_)
                refine lv_goto (tgt := 47) hx hb dX10_draw_122 (by decide) ?_
                exact ih_7  (x_18 : Int32) (x_19 : Int32) H _ ls (by omega)  (by omega) hM hS (lv_sub hl [0, 1, 2, 3, 4, 5, 6] rfl)
              · have ic_17 := gz_eqn (rfl : x_14.toInt = x_14.toInt) (rfl : (st 0 0 7).toInt = (st 0 0 7).toInt) c_17
                refine lv_aload_n hx hb dX10_draw_72 rfl (lv_at hl 3 rfl) ?_
                refine gs_get (C := RX10) (T := TX10) (N := 59) hx hb hts inX10 hown hK hM 0 0 32 (by decide) rfl rfl (by decide) (hts _ gm_929) (fun _ h9 => h9) rfl dX10_draw_73 ?_
                refine lv_iload hx hb dX10_draw_76 (lv_at hl 0 rfl) ?_
                refine gs_iald hx hb hK hM 17 0 (by decide) rfl (vp_in_iff.mpr ⟨by omega, by omega⟩) dX10_draw_78 ?_
                refine lv_topi (fun x_20 ex_20 => ?_)
                have qx_20 : x_20.toInt = (st_1 17 0 (y7_1.toNatClampNeg)).toInt := congrArg Int32.toInt ex_20
                have rx_20 : x_20.toInt = ((st 17 0 (y7_1.toNatClampNeg)) : Int32).toInt := by rw [ex_20]; exact congrArg Int32.toInt (((congrFun (congrFun (congrFun est_1 17) 0) (y7_1.toNatClampNeg)).trans (congrFun (congrFun (gU_k (by decide)) 0) (y7_1.toNatClampNeg))))
                refine lv_iload_n hx hb dX10_draw_79 rfl (lv_at hl 4 rfl) ?_
                refine lv_icmp_ne (tgt := 115) hx hb dX10_draw_80 (by decide) (fun c_21 => ?_) (fun c_21 => ?_)
                · have ic_21 := gz_ne (rfl : x_20.toInt = x_20.toInt) (rfl : x.toInt = x.toInt) c_21
                  refine lv_iconst (v := 0) hx hb dX10_draw_115 (by decide) ?_
                  refine lv_iadd hx hb dX10_draw_116 ?_
                  refine lv_topi (fun x_22 ex_22 => ?_)
                  refine lv_istore (lv' := [(5, .int x_22), (6, .int y7_1), (4, .int r_5), (0, .ref (ad 0 0)), (1, .int x), (2, .int y), (3, .int w)]) hx hb dX10_draw_117 hl (by decide) rfl (fun ls hl => ?_)
                  obtain ⟨x_23, ex_23⟩ : ∃ y : Int32, y = y7_1 + 1 := ⟨_, rfl⟩
                  try have tx_23 : x_23.toInt = y7_1.toInt + 1 := by rw [ex_23]; exact gz_addP (x := y7_1.toInt) (y := 1) rfl (by decide) (by omega) (by omega)
                  refine lv_iinc (v := (x_23)) (lv' := [(6, .int x_23), (5, .int x_22), (4, .int r_5), (0, .ref (ad 0 0)), (1, .int x), (2, .int y), (3, .int w)]) hx hb dX10_draw_119 hl (k := 1) rfl (by rw [ex_23]; rfl) (by decide) rfl (fun ls hl => ?_)
                  refine lv_goto (tgt := 47) hx hb dX10_draw_122 (by decide) ?_
                  exact ih_7  (x_22 : Int32) (x_23 : Int32) H _ ls (by omega)  (by omega) hM hS (lv_sub hl [0, 1, 2, 3, 4, 5, 6] rfl)
                · have ic_21 := gz_eqn (rfl : x_20.toInt = x_20.toInt) (rfl : x.toInt = x.toInt) c_21
                  refine lv_aload_n hx hb dX10_draw_83 rfl (lv_at hl 3 rfl) ?_
                  refine gs_get (C := RX10) (T := TX10) (N := 59) hx hb hts inX10 hown hK hM 0 0 33 (by decide) rfl rfl (by decide) (hts _ gm_930) (fun _ h9 => h9) rfl dX10_draw_84 ?_
                  refine lv_iload hx hb dX10_draw_87 (lv_at hl 0 rfl) ?_
                  refine gs_iald hx hb hK hM 18 0 (by decide) rfl (vp_in_iff.mpr ⟨by omega, by omega⟩) dX10_draw_89 ?_
                  refine lv_topi (fun x_24 ex_24 => ?_)
                  have qx_24 : x_24.toInt = (st_1 18 0 (y7_1.toNatClampNeg)).toInt := congrArg Int32.toInt ex_24
                  have rx_24 : x_24.toInt = ((st 18 0 (y7_1.toNatClampNeg)) : Int32).toInt := by rw [ex_24]; exact congrArg Int32.toInt (((congrFun (congrFun (congrFun est_1 18) 0) (y7_1.toNatClampNeg)).trans (congrFun (congrFun (gU_k (by decide)) 0) (y7_1.toNatClampNeg))))
                  refine lv_iload_n hx hb dX10_draw_90 rfl (lv_at hl 5 rfl) ?_
                  refine lv_icmp_ne (tgt := 115) hx hb dX10_draw_91 (by decide) (fun c_25 => ?_) (fun c_25 => ?_)
                  · have ic_25 := gz_ne (rfl : x_24.toInt = x_24.toInt) (rfl : y.toInt = y.toInt) c_25
                    refine lv_iconst (v := 0) hx hb dX10_draw_115 (by decide) ?_
                    refine lv_iadd hx hb dX10_draw_116 ?_
                    refine lv_topi (fun x_26 ex_26 => ?_)
                    refine lv_istore (lv' := [(5, .int x_26), (6, .int y7_1), (4, .int r_5), (0, .ref (ad 0 0)), (1, .int x), (2, .int y), (3, .int w)]) hx hb dX10_draw_117 hl (by decide) rfl (fun ls hl => ?_)
                    obtain ⟨x_27, ex_27⟩ : ∃ y : Int32, y = y7_1 + 1 := ⟨_, rfl⟩
                    try have tx_27 : x_27.toInt = y7_1.toInt + 1 := by rw [ex_27]; exact gz_addP (x := y7_1.toInt) (y := 1) rfl (by decide) (by omega) (by omega)
                    refine lv_iinc (v := (x_27)) (lv' := [(6, .int x_27), (5, .int x_26), (4, .int r_5), (0, .ref (ad 0 0)), (1, .int x), (2, .int y), (3, .int w)]) hx hb dX10_draw_119 hl (k := 1) rfl (by rw [ex_27]; rfl) (by decide) rfl (fun ls hl => ?_)
                    refine lv_goto (tgt := 47) hx hb dX10_draw_122 (by decide) ?_
                    exact ih_7  (x_26 : Int32) (x_27 : Int32) H _ ls (by omega)  (by omega) hM hS (lv_sub hl [0, 1, 2, 3, 4, 5, 6] rfl)
                  · have ic_25 := gz_eqn (rfl : x_24.toInt = x_24.toInt) (rfl : y.toInt = y.toInt) c_25
                    refine lv_aload_n hx hb dX10_draw_94 rfl (lv_at hl 3 rfl) ?_
                    refine gs_get (C := RX10) (T := TX10) (N := 59) hx hb hts inX10 hown hK hM 0 0 35 (by decide) rfl rfl (by decide) (hts _ gm_932) (fun _ h9 => h9) rfl dX10_draw_95 ?_
                    refine lv_iload hx hb dX10_draw_98 (lv_at hl 0 rfl) ?_
                    refine gs_iald hx hb hK hM 20 0 (by decide) rfl (vp_in_iff.mpr ⟨by omega, by omega⟩) dX10_draw_100 ?_
                    refine lv_topi (fun x_28 ex_28 => ?_)
                    have qx_28 : x_28.toInt = (st_1 20 0 (y7_1.toNatClampNeg)).toInt := congrArg Int32.toInt ex_28
                    have rx_28 : x_28.toInt = ((st 20 0 (y7_1.toNatClampNeg)) : Int32).toInt := by rw [ex_28]; exact congrArg Int32.toInt (((congrFun (congrFun (congrFun est_1 20) 0) (y7_1.toNatClampNeg)).trans (congrFun (congrFun (gU_k (by decide)) 0) (y7_1.toNatClampNeg))))
                    refine lv_iconst (v := 1) hx hb dX10_draw_101 (by decide) ?_
                    refine lv_icmp_ne (tgt := 115) hx hb dX10_draw_102 (by decide) (fun c_29 => ?_) (fun c_29 => ?_)
                    · have ic_29 := gz_ne (rfl : x_28.toInt = x_28.toInt) (by decide : (1 : Int32).toInt = 1) c_29
                      refine lv_iconst (v := 0) hx hb dX10_draw_115 (by decide) ?_
                      refine lv_iadd hx hb dX10_draw_116 ?_
                      refine lv_topi (fun x_30 ex_30 => ?_)
                      refine lv_istore (lv' := [(5, .int x_30), (6, .int y7_1), (4, .int r_5), (0, .ref (ad 0 0)), (1, .int x), (2, .int y), (3, .int w)]) hx hb dX10_draw_117 hl (by decide) rfl (fun ls hl => ?_)
                      obtain ⟨x_31, ex_31⟩ : ∃ y : Int32, y = y7_1 + 1 := ⟨_, rfl⟩
                      try have tx_31 : x_31.toInt = y7_1.toInt + 1 := by rw [ex_31]; exact gz_addP (x := y7_1.toInt) (y := 1) rfl (by decide) (by omega) (by omega)
                      refine lv_iinc (v := (x_31)) (lv' := [(6, .int x_31), (5, .int x_30), (4, .int r_5), (0, .ref (ad 0 0)), (1, .int x), (2, .int y), (3, .int w)]) hx hb dX10_draw_119 hl (k := 1) rfl (by rw [ex_31]; rfl) (by decide) rfl (fun ls hl => ?_)
                      refine lv_goto (tgt := 47) hx hb dX10_draw_122 (by decide) ?_
                      exact ih_7  (x_30 : Int32) (x_31 : Int32) H _ ls (by omega)  (by omega) hM hS (lv_sub hl [0, 1, 2, 3, 4, 5, 6] rfl)
                    · have ic_29 := gz_eqn (rfl : x_28.toInt = x_28.toInt) (by decide : (1 : Int32).toInt = 1) c_29
                      refine lv_aload_n hx hb dX10_draw_105 rfl (lv_at hl 3 rfl) ?_
                      refine gs_get (C := RX10) (T := TX10) (N := 59) hx hb hts inX10 hown hK hM 0 0 34 (by decide) rfl rfl (by decide) (hts _ gm_931) (fun _ h9 => h9) rfl dX10_draw_106 ?_
                      refine lv_iload hx hb dX10_draw_109 (lv_at hl 0 rfl) ?_
                      refine gs_iald hx hb hK hM 19 0 (by decide) rfl (vp_in_iff.mpr ⟨by omega, by omega⟩) dX10_draw_111 ?_
                      refine lv_topi (fun x_32 ex_32 => ?_)
                      have qx_32 : x_32.toInt = (st_1 19 0 (y7_1.toNatClampNeg)).toInt := congrArg Int32.toInt ex_32
                      have rx_32 : x_32.toInt = ((st 19 0 (y7_1.toNatClampNeg)) : Int32).toInt := by rw [ex_32]; exact congrArg Int32.toInt (((congrFun (congrFun (congrFun est_1 19) 0) (y7_1.toNatClampNeg)).trans (congrFun (congrFun (gU_k (by decide)) 0) (y7_1.toNatClampNeg))))
                      refine lv_goto (tgt := 116) hx hb dX10_draw_112 (by decide) ?_
                      refine lv_iadd hx hb dX10_draw_116 ?_
                      refine lv_topi (fun x_33 ex_33 => ?_)
                      refine lv_istore (lv' := [(5, .int x_33), (6, .int y7_1), (4, .int r_5), (0, .ref (ad 0 0)), (1, .int x), (2, .int y), (3, .int w)]) hx hb dX10_draw_117 hl (by decide) rfl (fun ls hl => ?_)
                      obtain ⟨x_34, ex_34⟩ : ∃ y : Int32, y = y7_1 + 1 := ⟨_, rfl⟩
                      try have tx_34 : x_34.toInt = y7_1.toInt + 1 := by rw [ex_34]; exact gz_addP (x := y7_1.toInt) (y := 1) rfl (by decide) (by omega) (by omega)
                      refine lv_iinc (v := (x_34)) (lv' := [(6, .int x_34), (5, .int x_33), (4, .int r_5), (0, .ref (ad 0 0)), (1, .int x), (2, .int y), (3, .int w)]) hx hb dX10_draw_119 hl (k := 1) rfl (by rw [ex_34]; rfl) (by decide) rfl (fun ls hl => ?_)
                      refine lv_goto (tgt := 47) hx hb dX10_draw_122 (by decide) ?_
                      exact ih_7  (x_33 : Int32) (x_34 : Int32) H _ ls (by omega)  (by omega) hM hS (lv_sub hl [0, 1, 2, 3, 4, 5, 6] rfl)
        exact lp7 ((300 - ((0 : Int32) : Int32).toInt).toNat + 1)  (w : Int32) ((0 : Int32) : Int32) H _ ls (Nat.lt_succ_self _)  (by have hl0 : (0 : Int32).toInt = 0 := (by decide); omega) hM hS (lv_sub hl [0, 1, 2, 3, 4, 5, 6] rfl)
      · have ic_6 := gz_nle (by decide : (0 : Int32).toInt = 0) (rfl : r_5.toInt = r_5.toInt) c_6
        refine lv_iconst (v := 2) hx hb dX10_draw_39 (by decide) ?_
        rw [← hQe]
        exact gs_iret hx hb hr hlocks hM hS rfl ⟨hB_st_1, trivial⟩ (by exact Nat.le_refl _) (by exact Nat.le_refl _) dX10_draw_40

set_option maxHeartbeats 4000000 in
set_option maxRecDepth 100000 in
/-- WellCourtModel.take -/
theorem m_take (l : Launch) (G : va_G) (cy : Nat → ClassId) (sK sV : Nat → Nat) (ad : Nat → Nat → Nat) (sz : Nat) (st : gS) (hB : gBd bM st) (x : Int32) (y : Int32) (w : Int32) (Xx : Int) (Xy : Int) (Xw : Int) (kx : x.toInt = Xx) (ky : y.toInt = Xy) (kw : w.toInt = Xw) : gsMi l yX10_take cX10_take 4 (some .int) ({ frames := 2, cells := 0, slots := 0, locals := 51 } : Room) G cy sK sV (shM cy ad) cnM ad sz [.ref (ad 0 0), .int x, .int y, .int w] st (fun (r : Int32) (u : gS) => gBN bM kM [0, 37, 400, 1600, 1700, 1800, 1900, 2000, 2100] st u ∧ (True)) := by
  refine gs_start (fun A => gsQi G (shM cy ad) cnM ad _ A) (by decide) (Nat.le_of_ble_eq_true rfl) ?_
  intro p e s m below meth c A ls H hx hb hr hml hlocks hown hts hK hov hE hI hM hm hS hA hl
  have hl : lv_has ls 4 [(0, .ref (ad 0 0)), (1, .int x), (2, .int y), (3, .int w)] := hl
  have hB_st : gBN bM kM [0, 37, 400, 1600, 1700, 1800, 1900, 2000, 2100] st st := gBN.rf hB
  refine lv_aload_n hx hb dX10_take_0 rfl (lv_at hl 0 rfl) ?_
  refine lv_iconst (v := 0) hx hb dX10_take_1 (by decide) ?_
  refine gs_put (C := RX10) (T := TX10) (N := 59) (ty := .int) (val := .int 0) hx hb hts inX10 tyX10 tyX10_ok nmX10 hown hK hI hm hM hS 0 0 0 (by decide) rfl rfl (by decide) (hts _ gm_897) (fun _ h9 => h9) rfl (0 : Int32) rfl (by decide +kernel) rfl rfl (Nat.le_of_ble_eq_true rfl) dX10_take_2 (fun st_1 H locs est_1 hM hS => ?_)
  have hB_st_1 : gBN bM kM [0, 37, 400, 1600, 1700, 1800, 1900, 2000, 2100] st st_1 := by rw [est_1]; exact hB_st.up (show (0 : Nat) ∈ _ from by decide) (gi_lo _) (gi_hi _)
  refine lv_aload_n hx hb dX10_take_5 rfl (lv_at hl 0 rfl) ?_
  refine lv_iload_n hx hb dX10_take_6 rfl (lv_at hl 1 rfl) ?_
  refine lv_iload_n hx hb dX10_take_7 rfl (lv_at hl 2 rfl) ?_
  refine lv_iload_n hx hb dX10_take_8 rfl (lv_at hl 3 rfl) ?_
  refine gs_calli (va_runV (As := [.int x, .int y, .int w]) (rest := []) ⟨hx, hb, hml, hown, hts⟩ (m_cantDraw l G cy sK sV ad H.size st_1 hB_st_1.1 x y w x.toInt y.toInt w.toInt rfl rfl rfl ) ⟨(gz_cb (n := 3) hts gm_1232 gm_12 gm_1235 ⟨by decide +kernel, by decide +kernel, by decide +kernel⟩ ⟨Nat.le_of_ble_eq_true rfl, Nat.le_of_ble_eq_true rfl⟩), hts _ gm_1234, hts _ gs_54⟩ (gs_preV hK hov hE hI hM hm hS hA 0 0 (by decide) rfl rfl) rfl rfl hl.1 rfl (lv_room (Nat.le_of_ble_eq_true rfl)) dX10_take_9 ⟨Nat.le_of_ble_eq_true rfl, Nat.le_of_ble_eq_true rfl⟩) hm hS hA (fun r_2 st_2 H locs hw_2 hM hS => ?_)
  obtain ⟨n_2, hw_2⟩ := hw_2
  have n_2 := gBN.nil n_2
  subst n_2
  have hqhw_20 : (st_1 0 0 37).toInt = ((st 0 0 37) : Int32).toInt := congrArg Int32.toInt (((congrFun (congrFun (congrFun est_1 0) 0) 37).trans (gU_other (by decide))))
  have hbhw_21 : (0 : Int) ≤ (st_1 0 0 37).toInt ∧ (st_1 0 0 37).toInt ≤ (300 : Int) := hB_st_1.1 0 0 37
  rcases hw_2 with rfl | ⟨rfl, hw_2_0, hw_2_1, hw_2_2, hw_2_3, hw_2_4, hw_2_5, hw_2_6⟩
  · skip
    refine lv_if_eq (tgt := 17) hx hb dX10_take_12 (by decide) (fun h9 => absurd h9 (by decide)) (fun _ => ?_)
    refine lv_iconst (v := 1) hx hb dX10_take_15 (by decide) ?_
    exact gs_iret hx hb hr hlocks hM hS rfl ⟨hB_st_1, trivial⟩ (by exact Nat.le_refl _) (by exact Nat.le_refl _) dX10_take_16
  · skip
    refine lv_if_eq (tgt := 17) hx hb dX10_take_12 (by decide) (fun _ => ?_) (fun h9 => absurd (by decide) h9)
    refine lv_aload_n hx hb dX10_take_17 rfl (lv_at hl 0 rfl) ?_
    refine lv_iload_n hx hb dX10_take_18 rfl (lv_at hl 1 rfl) ?_
    refine lv_iload_n hx hb dX10_take_19 rfl (lv_at hl 2 rfl) ?_
    refine gs_calli (va_runV (As := [.int x, .int y]) (rest := []) ⟨hx, hb, hml, hown, hts⟩ (m_isRightNow l G cy sK sV ad H.size st_1 hB_st_1.1 x y x.toInt y.toInt rfl rfl (by first | decide | omega) (by first | decide | omega)) ⟨(gz_cb (n := 2) hts gm_1212 gm_12 gm_1215 ⟨by decide +kernel, by decide +kernel, by decide +kernel⟩ ⟨Nat.le_of_ble_eq_true rfl, Nat.le_of_ble_eq_true rfl⟩), hts _ gm_1214, hts _ gs_51⟩ (gs_preV hK hov hE hI hM hm hS hA 0 0 (by decide) rfl rfl) rfl rfl hl.1 rfl (lv_room (Nat.le_of_ble_eq_true rfl)) dX10_take_20 ⟨Nat.le_of_ble_eq_true rfl, Nat.le_of_ble_eq_true rfl⟩) hm hS hA (fun r_3 st_3 H locs hw_3 hM hS => ?_)
    obtain ⟨n_3, hw_3⟩ := hw_3
    have n_3 := gBN.nil n_3
    subst n_3
    rcases hw_3 with rfl | rfl
    · skip
      refine lv_if_eq (tgt := 30) hx hb dX10_take_23 (by decide) (fun h9 => absurd h9 (by decide)) (fun _ => ?_)
      refine lv_iconst (v := 5) hx hb dX10_take_26 (by decide) ?_
      refine lv_goto (tgt := 38) hx hb dX10_take_27 (by decide) ?_
      exact gs_iret hx hb hr hlocks hM hS rfl ⟨hB_st_1, trivial⟩ (by exact Nat.le_refl _) (by exact Nat.le_refl _) dX10_take_38
    · skip
      refine lv_if_eq (tgt := 30) hx hb dX10_take_23 (by decide) (fun _ => ?_) (fun h9 => absurd (by decide) h9)
      refine lv_aload_n hx hb dX10_take_30 rfl (lv_at hl 0 rfl) ?_
      refine lv_iload_n hx hb dX10_take_31 rfl (lv_at hl 1 rfl) ?_
      refine lv_iload_n hx hb dX10_take_32 rfl (lv_at hl 2 rfl) ?_
      refine lv_iload_n hx hb dX10_take_33 rfl (lv_at hl 3 rfl) ?_
      refine lv_iconst (v := 0) hx hb dX10_take_34 (by decide) ?_
      refine gs_calli (va_runV (As := [.int x, .int y, .int w, .int 0]) (rest := []) ⟨hx, hb, hml, hown, hts⟩ (m_enter l G cy sK sV ad H.size st_1 hB_st_1.1 x y w (0 : Int32) x.toInt y.toInt w.toInt 0 rfl rfl rfl (by decide) (by first | decide | omega) (by first | decide | omega) (by have hq0 : (st_1 0 0 37).toInt = ((st 0 0 37) : Int32).toInt := congrArg Int32.toInt (((congrFun (congrFun (congrFun est_1 0) 0) 37).trans (gU_other (by decide)))); have hb1 : (0 : Int) ≤ (st_1 0 0 37).toInt ∧ (st_1 0 0 37).toInt ≤ (300 : Int) := hB_st_1.1 0 0 37; omega)) ⟨(gz_cb (n := 4) hts gm_1236 gm_12 gm_1239 ⟨by decide +kernel, by decide +kernel, by decide +kernel⟩ ⟨Nat.le_of_ble_eq_true rfl, Nat.le_of_ble_eq_true rfl⟩), hts _ gm_1238, hts _ gs_55⟩ (gs_preV hK hov hE hI hM hm hS hA 0 0 (by decide) rfl rfl) rfl rfl hl.1 rfl (lv_room (Nat.le_of_ble_eq_true rfl)) dX10_take_35 ⟨Nat.le_of_ble_eq_true rfl, Nat.le_of_ble_eq_true rfl⟩) hm hS hA (fun r_4 st_4 H locs hw_4 hM hS => ?_)
      obtain ⟨n_4, hw_4⟩ := hw_4
      have hB_st_4 : gBN bM kM [0, 37, 400, 1600, 1700, 1800, 1900, 2000, 2100] st st_4 := hB_st_1.call n_4 (by decide)
      exact gs_iret hx hb hr hlocks hM hS rfl ⟨hB_st_4, trivial⟩ (by exact Nat.le_refl _) (by exact Nat.le_refl _) dX10_take_38

set_option maxHeartbeats 4000000 in
set_option maxRecDepth 100000 in
/-- WellCourtModel.report -/
theorem m_report (l : Launch) (G : va_G) (cy : Nat → ClassId) (sK sV : Nat → Nat) (ad : Nat → Nat → Nat) (sz : Nat) (st : gS) (hB : gBd bM st) (x : Int32) (Xx : Int) (kx : x.toInt = Xx) : gsMi l yX10_report cX10_report 2 (some .boolean) ({ frames := 0, cells := 0, slots := 0, locals := 0 } : Room) G cy sK sV (shM cy ad) cnM ad sz [.ref (ad 0 0), .int x] st (fun (r : Int32) (u : gS) => gBN bM kM [0, 2100] st u ∧ ((r = 1) ∨ (r = 0))) := by
  refine gs_start (fun A => gsQi G (shM cy ad) cnM ad _ A) (by decide) (Nat.le_of_ble_eq_true rfl) ?_
  intro p e s m below meth c A ls H hx hb hr hml hlocks hown hts hK hov hE hI hM hm hS hA hl
  have hl : lv_has ls 2 [(0, .ref (ad 0 0)), (1, .int x)] := hl
  have hB_st : gBN bM kM [0, 2100] st st := gBN.rf hB
  refine lv_aload_n hx hb dX10_report_0 rfl (lv_at hl 0 rfl) ?_
  refine lv_iconst (v := 0) hx hb dX10_report_1 (by decide) ?_
  refine gs_put (C := RX10) (T := TX10) (N := 59) (ty := .int) (val := .int 0) hx hb hts inX10 tyX10 tyX10_ok nmX10 hown hK hI hm hM hS 0 0 0 (by decide) rfl rfl (by decide) (hts _ gm_897) (fun _ h9 => h9) rfl (0 : Int32) rfl (by decide +kernel) rfl rfl (Nat.le_of_ble_eq_true rfl) dX10_report_2 (fun st_1 H locs est_1 hM hS => ?_)
  have hB_st_1 : gBN bM kM [0, 2100] st st_1 := by rw [est_1]; exact hB_st.up (show (0 : Nat) ∈ _ from by decide) (gi_lo _) (gi_hi _)
  refine lv_iload_n hx hb dX10_report_5 rfl (lv_at hl 1 rfl) ?_
  refine lv_if_lt (tgt := 26) hx hb dX10_report_6 (by decide) (fun c_2 => ?_) (fun c_2 => ?_)
  · have ic_2 := gz_lt (rfl : x.toInt = x.toInt) (by decide : (0 : Int32).toInt = 0) c_2
    refine lv_iconst (v := 0) hx hb dX10_report_26 (by decide) ?_
    exact gs_iret hx hb hr hlocks hM hS (by decide) ⟨hB_st_1, (Or.inr (rfl))⟩ (by exact Nat.le_refl _) (by exact Nat.le_refl _) dX10_report_27
  · have ic_2 := gz_nlt (rfl : x.toInt = x.toInt) (by decide : (0 : Int32).toInt = 0) c_2
    refine lv_iload_n hx hb dX10_report_9 rfl (lv_at hl 1 rfl) ?_
    refine lv_aload_n hx hb dX10_report_10 rfl (lv_at hl 0 rfl) ?_
    refine gs_get (C := RX10) (T := TX10) (N := 59) hx hb hts inX10 hown hK hM 0 0 37 (by decide) rfl rfl (by decide) (hts _ gm_934) (fun _ h9 => h9) rfl dX10_report_11 ?_
    refine lv_topi (fun x_3 ex_3 => ?_)
    have ex_3 : (st 0 0 37) = x_3 := Eq.symm (ex_3.trans ((congrFun (congrFun (congrFun est_1 0) 0) 37).trans (gU_other (by decide))))
    subst ex_3
    have bf_4 : (0 : Int) ≤ (st 0 0 37).toInt ∧ (st 0 0 37).toInt ≤ (300 : Int) := hB_st.1 0 0 37
    refine lv_icmp_ge (tgt := 26) hx hb dX10_report_14 (by decide) (fun c_5 => ?_) (fun c_5 => ?_)
    · have ic_5 := gz_le (rfl : (st 0 0 37).toInt = (st 0 0 37).toInt) (rfl : x.toInt = x.toInt) c_5
      refine lv_iconst (v := 0) hx hb dX10_report_26 (by decide) ?_
      exact gs_iret hx hb hr hlocks hM hS (by decide) ⟨hB_st_1, (Or.inr (rfl))⟩ (by exact Nat.le_refl _) (by exact Nat.le_refl _) dX10_report_27
    · have ic_5 := gz_nle (rfl : (st 0 0 37).toInt = (st 0 0 37).toInt) (rfl : x.toInt = x.toInt) c_5
      have lc_5 := gi_hi (st 0 0 37)
      refine lv_aload_n hx hb dX10_report_17 rfl (lv_at hl 0 rfl) ?_
      refine gs_get (C := RX10) (T := TX10) (N := 59) hx hb hts inX10 hown hK hM 0 0 36 (by decide) rfl rfl (by decide) (hts _ gm_933) (fun _ h9 => h9) rfl dX10_report_18 ?_
      refine lv_iload_n hx hb dX10_report_21 rfl (lv_at hl 1 rfl) ?_
      refine gs_iald hx hb hK hM 21 0 (by decide) rfl (vp_in_iff.mpr ⟨by omega, by omega⟩) dX10_report_22 ?_
      refine lv_topi (fun x_6 ex_6 => ?_)
      have qx_6 : x_6.toInt = (st_1 21 0 (x.toNatClampNeg)).toInt := congrArg Int32.toInt ex_6
      have rx_6 : x_6.toInt = ((st 21 0 (x.toNatClampNeg)) : Int32).toInt := by rw [ex_6]; exact congrArg Int32.toInt (((congrFun (congrFun (congrFun est_1 21) 0) (x.toNatClampNeg)).trans (congrFun (congrFun (gU_k (by decide)) 0) (x.toNatClampNeg))))
      refine lv_if_lt (tgt := 28) hx hb dX10_report_23 (by decide) (fun c_7 => ?_) (fun c_7 => ?_)
      · have ic_7 := gz_lt (rfl : x_6.toInt = x_6.toInt) (by decide : (0 : Int32).toInt = 0) c_7
        refine lv_aload_n hx hb dX10_report_28 rfl (lv_at hl 0 rfl) ?_
        refine gs_get (C := RX10) (T := TX10) (N := 59) hx hb hts inX10 hown hK hM 0 0 36 (by decide) rfl rfl (by decide) (hts _ gm_933) (fun _ h9 => h9) rfl dX10_report_29 ?_
        refine lv_iload_n hx hb dX10_report_32 rfl (lv_at hl 1 rfl) ?_
        refine lv_aload_n hx hb dX10_report_33 rfl (lv_at hl 0 rfl) ?_
        refine gs_get (C := RX10) (T := TX10) (N := 59) hx hb hts inX10 hown hK hM 0 0 7 (by decide) rfl rfl (by decide) (hts _ gm_904) (fun _ h9 => h9) rfl dX10_report_34 ?_
        refine lv_topi (fun x_8 ex_8 => ?_)
        have ex_8 : (st 0 0 7) = x_8 := Eq.symm (ex_8.trans ((congrFun (congrFun (congrFun est_1 0) 0) 7).trans (gU_other (by decide))))
        subst ex_8
        have bf_9 : (0 : Int) ≤ (st 0 0 7).toInt ∧ (st 0 0 7).toInt ≤ (199 : Int) := hB_st.1 0 0 7
        refine gs_iast hx hb hK hI hm hM hS 21 0 (by decide) (fun _ => rfl) (vp_in_iff.mpr ⟨by omega, by omega⟩) dX10_report_37 (fun st_10 H locs est_10 hM hS => ?_)
        have hB_st_10 : gBN bM kM [0, 2100] st st_10 := by rw [est_10]; exact hB_st_1.up (show (2100 : Nat) ∈ _ from by decide) (gi_lo _) (gi_hi _)
        refine lv_iconst (v := 1) hx hb dX10_report_38 (by decide) ?_
        exact gs_iret hx hb hr hlocks hM hS (by decide) ⟨hB_st_10, (Or.inl rfl)⟩ (by exact Nat.le_refl _) (by exact Nat.le_refl _) dX10_report_39
      · have ic_7 := gz_nlt (rfl : x_6.toInt = x_6.toInt) (by decide : (0 : Int32).toInt = 0) c_7
        refine lv_iconst (v := 0) hx hb dX10_report_26 (by decide) ?_
        exact gs_iret hx hb hr hlocks hM hS (by decide) ⟨hB_st_1, (Or.inr (rfl))⟩ (by exact Nat.le_refl _) (by exact Nat.le_refl _) dX10_report_27

set_option maxHeartbeats 4000000 in
set_option maxRecDepth 100000 in
/-- WellCourtModel.drawn -/
theorem m_drawn (l : Launch) (G : va_G) (cy : Nat → ClassId) (sK sV : Nat → Nat) (ad : Nat → Nat → Nat) (sz : Nat) (st : gS) (hB : gBd bM st) (x : Int32) (y : Int32) (Xx : Int) (Xy : Int) (kx : x.toInt = Xx) (ky : y.toInt = Xy) : gsMi l yX10_drawn_ cX10_drawn_ 3 (some .int) ({ frames := 0, cells := 0, slots := 0, locals := 0 } : Room) G cy sK sV (shM cy ad) cnM ad sz [.ref (ad 0 0), .int x, .int y] st (fun (r : Int32) (u : gS) => gBN bM kM [0] st u ∧ (True)) := by
  refine gs_start (fun A => gsQi G (shM cy ad) cnM ad _ A) (by decide) (Nat.le_of_ble_eq_true rfl) ?_
  intro p e s m below meth c A ls H hx hb hr hml hlocks hown hts hK hov hE hI hM hm hS hA hl
  have hl : lv_has ls 3 [(0, .ref (ad 0 0)), (1, .int x), (2, .int y)] := hl
  have hB_st : gBN bM kM [0] st st := gBN.rf hB
  refine lv_aload_n hx hb dX10_drawn__0 rfl (lv_at hl 0 rfl) ?_
  refine lv_iload_n hx hb dX10_drawn__1 rfl (lv_at hl 1 rfl) ?_
  refine lv_if_lt (tgt := 22) hx hb dX10_drawn__2 (by decide) (fun c_1 => ?_) (fun c_1 => ?_)
  · have ic_1 := gz_lt (rfl : x.toInt = x.toInt) (by decide : (0 : Int32).toInt = 0) c_1
    refine lv_iconst (v := 1) hx hb dX10_drawn__22 (by decide) ?_
    refine lv_goto (tgt := 27) hx hb dX10_drawn__23 (by decide) ?_
    refine gs_put (C := RX10) (T := TX10) (N := 59) (ty := .int) (val := .int 1) hx hb hts inX10 tyX10 tyX10_ok nmX10 hown hK hI hm hM hS 0 0 0 (by decide) rfl rfl (by decide) (hts _ gm_897) (fun _ h9 => h9) rfl (1 : Int32) rfl (by decide +kernel) rfl rfl (Nat.le_of_ble_eq_true rfl) dX10_drawn__27 (fun st_2 H locs est_2 hM hS => ?_)
    have hB_st_2 : gBN bM kM [0] st st_2 := by rw [est_2]; exact hB_st.up (show (0 : Nat) ∈ _ from by decide) (gi_lo _) (gi_hi _)
    refine lv_aload_n hx hb dX10_drawn__30 rfl (lv_at hl 0 rfl) ?_
    refine gs_get (C := RX10) (T := TX10) (N := 59) hx hb hts inX10 hown hK hM 0 0 0 (by decide) rfl rfl (by decide) (hts _ gm_897) (fun _ h9 => h9) rfl dX10_drawn__31 ?_
    refine lv_topi (fun x_3 ex_3 => ?_)
    have ex_3 : (1 : Int32) = x_3 := Eq.symm (ex_3.trans ((congrFun (congrFun (congrFun est_2 0) 0) 0).trans (gU_same _ _ _ _ _)))
    subst ex_3
    refine lv_iconst (v := 1) hx hb dX10_drawn__34 (by decide) ?_
    refine lv_icmp_ne (tgt := 40) hx hb dX10_drawn__35 (by decide) (fun h9 => absurd (by decide) h9) (fun _ => ?_)
    refine lv_iconst (v := 0) hx hb dX10_drawn__38 (by decide) ?_
    exact gs_iret hx hb hr hlocks hM hS rfl ⟨hB_st_2, trivial⟩ (by exact Nat.le_refl _) (by exact Nat.le_refl _) dX10_drawn__39
  · have ic_1 := gz_nlt (rfl : x.toInt = x.toInt) (by decide : (0 : Int32).toInt = 0) c_1
    refine lv_iload_n hx hb dX10_drawn__5 rfl (lv_at hl 1 rfl) ?_
    refine lv_aload_n hx hb dX10_drawn__6 rfl (lv_at hl 0 rfl) ?_
    refine gs_get (C := RX10) (T := TX10) (N := 59) hx hb hts inX10 hown hK hM 0 0 37 (by decide) rfl rfl (by decide) (hts _ gm_934) (fun _ h9 => h9) rfl dX10_drawn__7 ?_
    have bf_4 : (0 : Int) ≤ (st 0 0 37).toInt ∧ (st 0 0 37).toInt ≤ (300 : Int) := hB_st.1 0 0 37
    refine lv_icmp_ge (tgt := 22) hx hb dX10_drawn__10 (by decide) (fun c_5 => ?_) (fun c_5 => ?_)
    · have ic_5 := gz_le (rfl : (st 0 0 37).toInt = (st 0 0 37).toInt) (rfl : x.toInt = x.toInt) c_5
      refine lv_iconst (v := 1) hx hb dX10_drawn__22 (by decide) ?_
      refine lv_goto (tgt := 27) hx hb dX10_drawn__23 (by decide) ?_
      refine gs_put (C := RX10) (T := TX10) (N := 59) (ty := .int) (val := .int 1) hx hb hts inX10 tyX10 tyX10_ok nmX10 hown hK hI hm hM hS 0 0 0 (by decide) rfl rfl (by decide) (hts _ gm_897) (fun _ h9 => h9) rfl (1 : Int32) rfl (by decide +kernel) rfl rfl (Nat.le_of_ble_eq_true rfl) dX10_drawn__27 (fun st_6 H locs est_6 hM hS => ?_)
      have hB_st_6 : gBN bM kM [0] st st_6 := by rw [est_6]; exact hB_st.up (show (0 : Nat) ∈ _ from by decide) (gi_lo _) (gi_hi _)
      refine lv_aload_n hx hb dX10_drawn__30 rfl (lv_at hl 0 rfl) ?_
      refine gs_get (C := RX10) (T := TX10) (N := 59) hx hb hts inX10 hown hK hM 0 0 0 (by decide) rfl rfl (by decide) (hts _ gm_897) (fun _ h9 => h9) rfl dX10_drawn__31 ?_
      refine lv_topi (fun x_7 ex_7 => ?_)
      have ex_7 : (1 : Int32) = x_7 := Eq.symm (ex_7.trans ((congrFun (congrFun (congrFun est_6 0) 0) 0).trans (gU_same _ _ _ _ _)))
      subst ex_7
      refine lv_iconst (v := 1) hx hb dX10_drawn__34 (by decide) ?_
      refine lv_icmp_ne (tgt := 40) hx hb dX10_drawn__35 (by decide) (fun h9 => absurd (by decide) h9) (fun _ => ?_)
      refine lv_iconst (v := 0) hx hb dX10_drawn__38 (by decide) ?_
      exact gs_iret hx hb hr hlocks hM hS rfl ⟨hB_st_6, trivial⟩ (by exact Nat.le_refl _) (by exact Nat.le_refl _) dX10_drawn__39
    · have ic_5 := gz_nle (rfl : (st 0 0 37).toInt = (st 0 0 37).toInt) (rfl : x.toInt = x.toInt) c_5
      have lc_5 := gi_hi (st 0 0 37)
      refine lv_iload_n hx hb dX10_drawn__13 rfl (lv_at hl 2 rfl) ?_
      refine lv_if_lt (tgt := 22) hx hb dX10_drawn__14 (by decide) (fun c_8 => ?_) (fun c_8 => ?_)
      · have ic_8 := gz_lt (rfl : y.toInt = y.toInt) (by decide : (0 : Int32).toInt = 0) c_8
        refine lv_iconst (v := 1) hx hb dX10_drawn__22 (by decide) ?_
        refine lv_goto (tgt := 27) hx hb dX10_drawn__23 (by decide) ?_
        refine gs_put (C := RX10) (T := TX10) (N := 59) (ty := .int) (val := .int 1) hx hb hts inX10 tyX10 tyX10_ok nmX10 hown hK hI hm hM hS 0 0 0 (by decide) rfl rfl (by decide) (hts _ gm_897) (fun _ h9 => h9) rfl (1 : Int32) rfl (by decide +kernel) rfl rfl (Nat.le_of_ble_eq_true rfl) dX10_drawn__27 (fun st_9 H locs est_9 hM hS => ?_)
        have hB_st_9 : gBN bM kM [0] st st_9 := by rw [est_9]; exact hB_st.up (show (0 : Nat) ∈ _ from by decide) (gi_lo _) (gi_hi _)
        refine lv_aload_n hx hb dX10_drawn__30 rfl (lv_at hl 0 rfl) ?_
        refine gs_get (C := RX10) (T := TX10) (N := 59) hx hb hts inX10 hown hK hM 0 0 0 (by decide) rfl rfl (by decide) (hts _ gm_897) (fun _ h9 => h9) rfl dX10_drawn__31 ?_
        refine lv_topi (fun x_10 ex_10 => ?_)
        have ex_10 : (1 : Int32) = x_10 := Eq.symm (ex_10.trans ((congrFun (congrFun (congrFun est_9 0) 0) 0).trans (gU_same _ _ _ _ _)))
        subst ex_10
        refine lv_iconst (v := 1) hx hb dX10_drawn__34 (by decide) ?_
        refine lv_icmp_ne (tgt := 40) hx hb dX10_drawn__35 (by decide) (fun h9 => absurd (by decide) h9) (fun _ => ?_)
        refine lv_iconst (v := 0) hx hb dX10_drawn__38 (by decide) ?_
        exact gs_iret hx hb hr hlocks hM hS rfl ⟨hB_st_9, trivial⟩ (by exact Nat.le_refl _) (by exact Nat.le_refl _) dX10_drawn__39
      · have ic_8 := gz_nlt (rfl : y.toInt = y.toInt) (by decide : (0 : Int32).toInt = 0) c_8
        refine lv_iload_n hx hb dX10_drawn__17 rfl (lv_at hl 2 rfl) ?_
        refine lv_iconst (v := 5) hx hb dX10_drawn__18 (by decide) ?_
        refine lv_icmp_le (tgt := 26) hx hb dX10_drawn__19 (by decide) (fun c_11 => ?_) (fun c_11 => ?_)
        · have ic_11 := gz_le (rfl : y.toInt = y.toInt) (by decide : (5 : Int32).toInt = 5) c_11
          refine lv_iconst (v := 0) hx hb dX10_drawn__26 (by decide) ?_
          refine gs_put (C := RX10) (T := TX10) (N := 59) (ty := .int) (val := .int 0) hx hb hts inX10 tyX10 tyX10_ok nmX10 hown hK hI hm hM hS 0 0 0 (by decide) rfl rfl (by decide) (hts _ gm_897) (fun _ h9 => h9) rfl (0 : Int32) rfl (by decide +kernel) rfl rfl (Nat.le_of_ble_eq_true rfl) dX10_drawn__27 (fun st_12 H locs est_12 hM hS => ?_)
          have hB_st_12 : gBN bM kM [0] st st_12 := by rw [est_12]; exact hB_st.up (show (0 : Nat) ∈ _ from by decide) (gi_lo _) (gi_hi _)
          refine lv_aload_n hx hb dX10_drawn__30 rfl (lv_at hl 0 rfl) ?_
          refine gs_get (C := RX10) (T := TX10) (N := 59) hx hb hts inX10 hown hK hM 0 0 0 (by decide) rfl rfl (by decide) (hts _ gm_897) (fun _ h9 => h9) rfl dX10_drawn__31 ?_
          refine lv_topi (fun x_13 ex_13 => ?_)
          have ex_13 : (0 : Int32) = x_13 := Eq.symm (ex_13.trans ((congrFun (congrFun (congrFun est_12 0) 0) 0).trans (gU_same _ _ _ _ _)))
          subst ex_13
          refine lv_iconst (v := 1) hx hb dX10_drawn__34 (by decide) ?_
          refine lv_icmp_ne (tgt := 40) hx hb dX10_drawn__35 (by decide) (fun _ => ?_) (fun h9 => absurd h9 (by decide))
          refine lv_iload_n hx hb dX10_drawn__40 rfl (lv_at hl 2 rfl) ?_
          refine lv_if_ne (tgt := 53) hx hb dX10_drawn__41 (by decide) (fun c_14 => ?_) (fun c_14 => ?_)
          · have ic_14 := gz_ne (rfl : y.toInt = y.toInt) (by decide : (0 : Int32).toInt = 0) c_14
            refine lv_iload_n hx hb dX10_drawn__53 rfl (lv_at hl 2 rfl) ?_
            refine lv_iconst (v := 1) hx hb dX10_drawn__54 (by decide) ?_
            refine lv_icmp_ne (tgt := 67) hx hb dX10_drawn__55 (by decide) (fun c_15 => ?_) (fun c_15 => ?_)
            · have ic_15 := gz_ne (rfl : y.toInt = y.toInt) (by decide : (1 : Int32).toInt = 1) c_15
              refine lv_iload_n hx hb dX10_drawn__67 rfl (lv_at hl 2 rfl) ?_
              refine lv_iconst (v := 2) hx hb dX10_drawn__68 (by decide) ?_
              refine lv_icmp_ne (tgt := 81) hx hb dX10_drawn__69 (by decide) (fun c_16 => ?_) (fun c_16 => ?_)
              · have ic_16 := gz_ne (rfl : y.toInt = y.toInt) (by decide : (2 : Int32).toInt = 2) c_16
                refine lv_iload_n hx hb dX10_drawn__81 rfl (lv_at hl 2 rfl) ?_
                refine lv_iconst (v := 3) hx hb dX10_drawn__82 (by decide) ?_
                refine lv_icmp_ne (tgt := 95) hx hb dX10_drawn__83 (by decide) (fun c_17 => ?_) (fun c_17 => ?_)
                · have ic_17 := gz_ne (rfl : y.toInt = y.toInt) (by decide : (3 : Int32).toInt = 3) c_17
                  refine lv_iload_n hx hb dX10_drawn__95 rfl (lv_at hl 2 rfl) ?_
                  refine lv_iconst (v := 4) hx hb dX10_drawn__96 (by decide) ?_
                  refine lv_icmp_ne (tgt := 109) hx hb dX10_drawn__97 (by decide) (fun c_18 => ?_) (fun c_18 => ?_)
                  · have ic_18 := gz_ne (rfl : y.toInt = y.toInt) (by decide : (4 : Int32).toInt = 4) c_18
                    refine lv_aload_n hx hb dX10_drawn__109 rfl (lv_at hl 0 rfl) ?_
                    refine gs_get (C := RX10) (T := TX10) (N := 59) hx hb hts inX10 hown hK hM 0 0 36 (by decide) rfl rfl (by decide) (hts _ gm_933) (fun _ h9 => h9) rfl dX10_drawn__110 ?_
                    refine lv_iload_n hx hb dX10_drawn__113 rfl (lv_at hl 1 rfl) ?_
                    refine gs_iald hx hb hK hM 21 0 (by decide) rfl (vp_in_iff.mpr ⟨by omega, by omega⟩) dX10_drawn__114 ?_
                    refine lv_topi (fun x_19 ex_19 => ?_)
                    have qx_19 : x_19.toInt = (st_12 21 0 (x.toNatClampNeg)).toInt := congrArg Int32.toInt ex_19
                    have rx_19 : x_19.toInt = ((st 21 0 (x.toNatClampNeg)) : Int32).toInt := by rw [ex_19]; exact congrArg Int32.toInt (((congrFun (congrFun (congrFun est_12 21) 0) (x.toNatClampNeg)).trans (congrFun (congrFun (gU_k (by decide)) 0) (x.toNatClampNeg))))
                    exact gs_iret hx hb hr hlocks hM hS rfl ⟨hB_st_12, trivial⟩ (by exact Nat.le_refl _) (by exact Nat.le_refl _) dX10_drawn__115
                  · have ic_18 := gz_eqn (rfl : y.toInt = y.toInt) (by decide : (4 : Int32).toInt = 4) c_18
                    refine lv_aload_n hx hb dX10_drawn__100 rfl (lv_at hl 0 rfl) ?_
                    refine gs_get (C := RX10) (T := TX10) (N := 59) hx hb hts inX10 hown hK hM 0 0 35 (by decide) rfl rfl (by decide) (hts _ gm_932) (fun _ h9 => h9) rfl dX10_drawn__101 ?_
                    refine lv_iload_n hx hb dX10_drawn__104 rfl (lv_at hl 1 rfl) ?_
                    refine gs_iald hx hb hK hM 20 0 (by decide) rfl (vp_in_iff.mpr ⟨by omega, by omega⟩) dX10_drawn__105 ?_
                    refine lv_topi (fun x_20 ex_20 => ?_)
                    have qx_20 : x_20.toInt = (st_12 20 0 (x.toNatClampNeg)).toInt := congrArg Int32.toInt ex_20
                    have rx_20 : x_20.toInt = ((st 20 0 (x.toNatClampNeg)) : Int32).toInt := by rw [ex_20]; exact congrArg Int32.toInt (((congrFun (congrFun (congrFun est_12 20) 0) (x.toNatClampNeg)).trans (congrFun (congrFun (gU_k (by decide)) 0) (x.toNatClampNeg))))
                    refine lv_goto (tgt := 115) hx hb dX10_drawn__106 (by decide) ?_
                    exact gs_iret hx hb hr hlocks hM hS rfl ⟨hB_st_12, trivial⟩ (by exact Nat.le_refl _) (by exact Nat.le_refl _) dX10_drawn__115
                · have ic_17 := gz_eqn (rfl : y.toInt = y.toInt) (by decide : (3 : Int32).toInt = 3) c_17
                  refine lv_aload_n hx hb dX10_drawn__86 rfl (lv_at hl 0 rfl) ?_
                  refine gs_get (C := RX10) (T := TX10) (N := 59) hx hb hts inX10 hown hK hM 0 0 34 (by decide) rfl rfl (by decide) (hts _ gm_931) (fun _ h9 => h9) rfl dX10_drawn__87 ?_
                  refine lv_iload_n hx hb dX10_drawn__90 rfl (lv_at hl 1 rfl) ?_
                  refine gs_iald hx hb hK hM 19 0 (by decide) rfl (vp_in_iff.mpr ⟨by omega, by omega⟩) dX10_drawn__91 ?_
                  refine lv_topi (fun x_21 ex_21 => ?_)
                  have qx_21 : x_21.toInt = (st_12 19 0 (x.toNatClampNeg)).toInt := congrArg Int32.toInt ex_21
                  have rx_21 : x_21.toInt = ((st 19 0 (x.toNatClampNeg)) : Int32).toInt := by rw [ex_21]; exact congrArg Int32.toInt (((congrFun (congrFun (congrFun est_12 19) 0) (x.toNatClampNeg)).trans (congrFun (congrFun (gU_k (by decide)) 0) (x.toNatClampNeg))))
                  refine lv_goto (tgt := 115) hx hb dX10_drawn__92 (by decide) ?_
                  exact gs_iret hx hb hr hlocks hM hS rfl ⟨hB_st_12, trivial⟩ (by exact Nat.le_refl _) (by exact Nat.le_refl _) dX10_drawn__115
              · have ic_16 := gz_eqn (rfl : y.toInt = y.toInt) (by decide : (2 : Int32).toInt = 2) c_16
                refine lv_aload_n hx hb dX10_drawn__72 rfl (lv_at hl 0 rfl) ?_
                refine gs_get (C := RX10) (T := TX10) (N := 59) hx hb hts inX10 hown hK hM 0 0 33 (by decide) rfl rfl (by decide) (hts _ gm_930) (fun _ h9 => h9) rfl dX10_drawn__73 ?_
                refine lv_iload_n hx hb dX10_drawn__76 rfl (lv_at hl 1 rfl) ?_
                refine gs_iald hx hb hK hM 18 0 (by decide) rfl (vp_in_iff.mpr ⟨by omega, by omega⟩) dX10_drawn__77 ?_
                refine lv_topi (fun x_22 ex_22 => ?_)
                have qx_22 : x_22.toInt = (st_12 18 0 (x.toNatClampNeg)).toInt := congrArg Int32.toInt ex_22
                have rx_22 : x_22.toInt = ((st 18 0 (x.toNatClampNeg)) : Int32).toInt := by rw [ex_22]; exact congrArg Int32.toInt (((congrFun (congrFun (congrFun est_12 18) 0) (x.toNatClampNeg)).trans (congrFun (congrFun (gU_k (by decide)) 0) (x.toNatClampNeg))))
                refine lv_goto (tgt := 115) hx hb dX10_drawn__78 (by decide) ?_
                exact gs_iret hx hb hr hlocks hM hS rfl ⟨hB_st_12, trivial⟩ (by exact Nat.le_refl _) (by exact Nat.le_refl _) dX10_drawn__115
            · have ic_15 := gz_eqn (rfl : y.toInt = y.toInt) (by decide : (1 : Int32).toInt = 1) c_15
              refine lv_aload_n hx hb dX10_drawn__58 rfl (lv_at hl 0 rfl) ?_
              refine gs_get (C := RX10) (T := TX10) (N := 59) hx hb hts inX10 hown hK hM 0 0 32 (by decide) rfl rfl (by decide) (hts _ gm_929) (fun _ h9 => h9) rfl dX10_drawn__59 ?_
              refine lv_iload_n hx hb dX10_drawn__62 rfl (lv_at hl 1 rfl) ?_
              refine gs_iald hx hb hK hM 17 0 (by decide) rfl (vp_in_iff.mpr ⟨by omega, by omega⟩) dX10_drawn__63 ?_
              refine lv_topi (fun x_23 ex_23 => ?_)
              have qx_23 : x_23.toInt = (st_12 17 0 (x.toNatClampNeg)).toInt := congrArg Int32.toInt ex_23
              have rx_23 : x_23.toInt = ((st 17 0 (x.toNatClampNeg)) : Int32).toInt := by rw [ex_23]; exact congrArg Int32.toInt (((congrFun (congrFun (congrFun est_12 17) 0) (x.toNatClampNeg)).trans (congrFun (congrFun (gU_k (by decide)) 0) (x.toNatClampNeg))))
              refine lv_goto (tgt := 115) hx hb dX10_drawn__64 (by decide) ?_
              exact gs_iret hx hb hr hlocks hM hS rfl ⟨hB_st_12, trivial⟩ (by exact Nat.le_refl _) (by exact Nat.le_refl _) dX10_drawn__115
          · have ic_14 := gz_eqn (rfl : y.toInt = y.toInt) (by decide : (0 : Int32).toInt = 0) c_14
            refine lv_aload_n hx hb dX10_drawn__44 rfl (lv_at hl 0 rfl) ?_
            refine gs_get (C := RX10) (T := TX10) (N := 59) hx hb hts inX10 hown hK hM 0 0 31 (by decide) rfl rfl (by decide) (hts _ gm_928) (fun _ h9 => h9) rfl dX10_drawn__45 ?_
            refine lv_iload_n hx hb dX10_drawn__48 rfl (lv_at hl 1 rfl) ?_
            refine gs_iald hx hb hK hM 16 0 (by decide) rfl (vp_in_iff.mpr ⟨by omega, by omega⟩) dX10_drawn__49 ?_
            refine lv_topi (fun x_24 ex_24 => ?_)
            have qx_24 : x_24.toInt = (st_12 16 0 (x.toNatClampNeg)).toInt := congrArg Int32.toInt ex_24
            have rx_24 : x_24.toInt = ((st 16 0 (x.toNatClampNeg)) : Int32).toInt := by rw [ex_24]; exact congrArg Int32.toInt (((congrFun (congrFun (congrFun est_12 16) 0) (x.toNatClampNeg)).trans (congrFun (congrFun (gU_k (by decide)) 0) (x.toNatClampNeg))))
            refine lv_goto (tgt := 115) hx hb dX10_drawn__50 (by decide) ?_
            exact gs_iret hx hb hr hlocks hM hS rfl ⟨hB_st_12, trivial⟩ (by exact Nat.le_refl _) (by exact Nat.le_refl _) dX10_drawn__115
        · have ic_11 := gz_nle (rfl : y.toInt = y.toInt) (by decide : (5 : Int32).toInt = 5) c_11
          refine lv_iconst (v := 1) hx hb dX10_drawn__22 (by decide) ?_
          refine lv_goto (tgt := 27) hx hb dX10_drawn__23 (by decide) ?_
          refine gs_put (C := RX10) (T := TX10) (N := 59) (ty := .int) (val := .int 1) hx hb hts inX10 tyX10 tyX10_ok nmX10 hown hK hI hm hM hS 0 0 0 (by decide) rfl rfl (by decide) (hts _ gm_897) (fun _ h9 => h9) rfl (1 : Int32) rfl (by decide +kernel) rfl rfl (Nat.le_of_ble_eq_true rfl) dX10_drawn__27 (fun st_25 H locs est_25 hM hS => ?_)
          have hB_st_25 : gBN bM kM [0] st st_25 := by rw [est_25]; exact hB_st.up (show (0 : Nat) ∈ _ from by decide) (gi_lo _) (gi_hi _)
          refine lv_aload_n hx hb dX10_drawn__30 rfl (lv_at hl 0 rfl) ?_
          refine gs_get (C := RX10) (T := TX10) (N := 59) hx hb hts inX10 hown hK hM 0 0 0 (by decide) rfl rfl (by decide) (hts _ gm_897) (fun _ h9 => h9) rfl dX10_drawn__31 ?_
          refine lv_topi (fun x_26 ex_26 => ?_)
          have ex_26 : (1 : Int32) = x_26 := Eq.symm (ex_26.trans ((congrFun (congrFun (congrFun est_25 0) 0) 0).trans (gU_same _ _ _ _ _)))
          subst ex_26
          refine lv_iconst (v := 1) hx hb dX10_drawn__34 (by decide) ?_
          refine lv_icmp_ne (tgt := 40) hx hb dX10_drawn__35 (by decide) (fun h9 => absurd (by decide) h9) (fun _ => ?_)
          refine lv_iconst (v := 0) hx hb dX10_drawn__38 (by decide) ?_
          exact gs_iret hx hb hr hlocks hM hS rfl ⟨hB_st_25, trivial⟩ (by exact Nat.le_refl _) (by exact Nat.le_refl _) dX10_drawn__39
