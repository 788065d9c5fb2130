theorem gm_932 : (Jvm.Cond.fieldLink "WellCourtModel" (61 : Nat) "WellCourtModel" "dDay" "[I") ∈ gz_T := gz_at 932 (by decide +kernel) rfl
theorem gm_933 : (Jvm.Cond.fieldLink "WellCourtModel" (64 : Nat) "WellCourtModel" "dWell" "[I") ∈ gz_T := gz_at 933 (by decide +kernel) rfl
theorem gm_934 : (Jvm.Cond.fieldLink "WellCourtModel" (67 : Nat) "WellCourtModel" "dClan" "[I") ∈ gz_T := gz_at 934 (by decide +kernel) rfl
theorem gm_935 : (Jvm.Cond.fieldLink "WellCourtModel" (70 : Nat) "WellCourtModel" "dAmount" "[I") ∈ gz_T := gz_at 935 (by decide +kernel) rfl
theorem gm_936 : (Jvm.Cond.fieldLink "WellCourtModel" (73 : Nat) "WellCourtModel" "dRight" "[I") ∈ gz_T := gz_at 936 (by decide +kernel) rfl
theorem gm_937 : (Jvm.Cond.fieldLink "WellCourtModel" (76 : Nat) "WellCourtModel" "dKnown" "[I") ∈ gz_T := gz_at 937 (by decide +kernel) rfl
theorem gm_938 : (Jvm.Cond.fieldLink "WellCourtModel" (287 : Nat) "WellCourtModel" "draws" "I") ∈ gz_T := gz_at 938 (by decide +kernel) rfl
theorem gm_1236 : (Jvm.Cond.methodLink "WellCourtModel" (290 : Nat) ({ cls := "WellCourtModel", name := "cantDraw", desc := "(III)Z" } : Jvm.MethodName)) ∈ gz_T := gz_at 1236 (by decide +kernel) rfl
theorem gm_1238 : (Jvm.Cond.instanceMethod ({ cls := "WellCourtModel", name := "cantDraw", desc := "(III)Z" } : Jvm.MethodName)) ∈ gz_T := gz_at 1238 (by decide +kernel) rfl
theorem gm_1239 : (Jvm.Cond.code ({ cls := "WellCourtModel", name := "cantDraw", desc := "(III)Z" } : Jvm.MethodName) prog_12_method_39_code (4 : Nat) (Option.some Jvm.ClassFile.FieldType.boolean)) ∈ gz_T := gz_at 1239 (by decide +kernel) rfl
theorem gm_1240 : (Jvm.Cond.methodLink "WellCourtModel" (294 : Nat) ({ cls := "WellCourtModel", name := "drawn", desc := "(IIIZ)I" } : Jvm.MethodName)) ∈ gz_T := gz_at 1240 (by decide +kernel) rfl
theorem gm_1242 : (Jvm.Cond.instanceMethod ({ cls := "WellCourtModel", name := "drawn", desc := "(IIIZ)I" } : Jvm.MethodName)) ∈ gz_T := gz_at 1242 (by decide +kernel) rfl
theorem gm_1243 : (Jvm.Cond.code ({ cls := "WellCourtModel", name := "drawn", desc := "(IIIZ)I" } : Jvm.MethodName) prog_12_method_40_code (5 : Nat) (Option.some Jvm.ClassFile.FieldType.int)) ∈ gz_T := gz_at 1243 (by decide +kernel) rfl
theorem gs_54 : (Jvm.Cond.selects "WellCourtModel" ({ cls := "WellCourtModel", name := "cantDraw", desc := "(III)Z" } : Jvm.MethodName) ({ cls := "WellCourtModel", name := "cantDraw", desc := "(III)Z" } : Jvm.MethodName)) ∈ gz_T := gz_sel 54 (by decide +kernel) rfl
theorem gs_55 : (Jvm.Cond.selects "WellCourtModel" ({ cls := "WellCourtModel", name := "drawn", desc := "(IIIZ)I" } : Jvm.MethodName) ({ cls := "WellCourtModel", name := "drawn", desc := "(IIIZ)I" } : Jvm.MethodName)) ∈ gz_T := gz_sel 55 (by decide +kernel) rfl
theorem dX10_cantDraw_0 : decode cX10_cantDraw 0 = .ok (.aload_n 0, 1) := by decide +kernel
theorem dX10_cantDraw_1 : decode cX10_cantDraw 1 = .ok (.iload_n 1, 1) := by decide +kernel
theorem dX10_cantDraw_2 : decode cX10_cantDraw 2 = .ok (.invokevirtual 271, 3) := by decide +kernel
theorem dX10_cantDraw_5 : decode cX10_cantDraw 5 = .ok (.ifCond .eq 32, 3) := by decide +kernel
theorem dX10_cantDraw_8 : decode cX10_cantDraw 8 = .ok (.iload_n 2, 1) := by decide +kernel
theorem dX10_cantDraw_9 : decode cX10_cantDraw 9 = .ok (.invokestatic 278, 3) := by decide +kernel
theorem dX10_cantDraw_12 : decode cX10_cantDraw 12 = .ok (.ifCond .eq 25, 3) := by decide +kernel
theorem dX10_cantDraw_15 : decode cX10_cantDraw 15 = .ok (.iload_n 3, 1) := by decide +kernel
theorem dX10_cantDraw_16 : decode cX10_cantDraw 16 = .ok (.iconst 1, 1) := by decide +kernel
theorem dX10_cantDraw_17 : decode cX10_cantDraw 17 = .ok (.if_icmp .lt 20, 3) := by decide +kernel
theorem dX10_cantDraw_20 : decode cX10_cantDraw 20 = .ok (.iload_n 3, 1) := by decide +kernel
theorem dX10_cantDraw_21 : decode cX10_cantDraw 21 = .ok (.sipush 1000, 3) := by decide +kernel
theorem dX10_cantDraw_24 : decode cX10_cantDraw 24 = .ok (.if_icmp .gt 13, 3) := by decide +kernel
theorem dX10_cantDraw_27 : decode cX10_cantDraw 27 = .ok (.aload_n 0, 1) := by decide +kernel
theorem dX10_cantDraw_28 : decode cX10_cantDraw 28 = .ok (.getfield 287, 3) := by decide +kernel
theorem dX10_cantDraw_31 : decode cX10_cantDraw 31 = .ok (.sipush 300, 3) := by decide +kernel
theorem dX10_cantDraw_34 : decode cX10_cantDraw 34 = .ok (.if_icmp .ne 7, 3) := by decide +kernel
theorem dX10_cantDraw_37 : decode cX10_cantDraw 37 = .ok (.iconst 1, 1) := by decide +kernel
theorem dX10_cantDraw_38 : decode cX10_cantDraw 38 = .ok (.goto 4, 3) := by decide +kernel
theorem dX10_cantDraw_41 : decode cX10_cantDraw 41 = .ok (.iconst 0, 1) := by decide +kernel
theorem dX10_cantDraw_42 : decode cX10_cantDraw 42 = .ok (.ireturn, 1) := by decide +kernel
theorem dX10_draw_0 : decode cX10_draw 0 = .ok (.aload_n 0, 1) := by decide +kernel
theorem dX10_draw_1 : decode cX10_draw 1 = .ok (.iconst 0, 1) := by decide +kernel
theorem dX10_draw_2 : decode cX10_draw 2 = .ok (.putfield 1, 3) := by decide +kernel
theorem dX10_draw_5 : decode cX10_draw 5 = .ok (.aload_n 0, 1) := by decide +kernel
theorem dX10_draw_6 : decode cX10_draw 6 = .ok (.iload_n 1, 1) := by decide +kernel
theorem dX10_draw_7 : decode cX10_draw 7 = .ok (.iload_n 2, 1) := by decide +kernel
theorem dX10_draw_8 : decode cX10_draw 8 = .ok (.iload_n 3, 1) := by decide +kernel
theorem dX10_draw_9 : decode cX10_draw 9 = .ok (.invokevirtual 290, 3) := by decide +kernel
theorem dX10_draw_12 : decode cX10_draw 12 = .ok (.ifCond .eq 5, 3) := by decide +kernel
theorem dX10_draw_15 : decode cX10_draw 15 = .ok (.iconst 1, 1) := by decide +kernel
theorem dX10_draw_16 : decode cX10_draw 16 = .ok (.ireturn, 1) := by decide +kernel
theorem dX10_draw_17 : decode cX10_draw 17 = .ok (.aload_n 0, 1) := by decide +kernel
theorem dX10_draw_18 : decode cX10_draw 18 = .ok (.iload_n 1, 1) := by decide +kernel
theorem dX10_draw_19 : decode cX10_draw 19 = .ok (.iload_n 2, 1) := by decide +kernel
theorem dX10_draw_20 : decode cX10_draw 20 = .ok (.invokevirtual 281, 3) := by decide +kernel
theorem dX10_draw_23 : decode cX10_draw 23 = .ok (.ifCond .ne 116, 3) := by decide +kernel
theorem dX10_draw_26 : decode cX10_draw 26 = .ok (.aload_n 0, 1) := by decide +kernel
theorem dX10_draw_27 : decode cX10_draw 27 = .ok (.iload_n 1, 1) := by decide +kernel
theorem dX10_draw_28 : decode cX10_draw 28 = .ok (.iload_n 2, 1) := by decide +kernel
theorem dX10_draw_29 : decode cX10_draw 29 = .ok (.invokevirtual 284, 3) := by decide +kernel
theorem dX10_draw_32 : decode cX10_draw 32 = .ok (.istore 4, 2) := by decide +kernel
theorem dX10_draw_34 : decode cX10_draw 34 = .ok (.iload 4, 2) := by decide +kernel
theorem dX10_draw_36 : decode cX10_draw 36 = .ok (.ifCond .ge 5, 3) := by decide +kernel
theorem dX10_draw_39 : decode cX10_draw 39 = .ok (.iconst 2, 1) := by decide +kernel
theorem dX10_draw_40 : decode cX10_draw 40 = .ok (.ireturn, 1) := by decide +kernel
theorem dX10_draw_41 : decode cX10_draw 41 = .ok (.iload_n 3, 1) := by decide +kernel
theorem dX10_draw_42 : decode cX10_draw 42 = .ok (.istore 5, 2) := by decide +kernel
theorem dX10_draw_44 : decode cX10_draw 44 = .ok (.iconst 0, 1) := by decide +kernel
theorem dX10_draw_45 : decode cX10_draw 45 = .ok (.istore 6, 2) := by decide +kernel
theorem dX10_draw_47 : decode cX10_draw 47 = .ok (.iload 6, 2) := by decide +kernel
theorem dX10_draw_49 : decode cX10_draw 49 = .ok (.aload_n 0, 1) := by decide +kernel
theorem dX10_draw_50 : decode cX10_draw 50 = .ok (.getfield 287, 3) := by decide +kernel
theorem dX10_draw_53 : decode cX10_draw 53 = .ok (.if_icmp .ge 72, 3) := by decide +kernel
theorem dX10_draw_56 : decode cX10_draw 56 = .ok (.iload 5, 2) := by decide +kernel
theorem dX10_draw_58 : decode cX10_draw 58 = .ok (.aload_n 0, 1) := by decide +kernel
theorem dX10_draw_59 : decode cX10_draw 59 = .ok (.getfield 61, 3) := by decide +kernel
theorem dX10_draw_62 : decode cX10_draw 62 = .ok (.iload 6, 2) := by decide +kernel
theorem dX10_draw_64 : decode cX10_draw 64 = .ok (.iaload, 1) := by decide +kernel
theorem dX10_draw_65 : decode cX10_draw 65 = .ok (.aload_n 0, 1) := by decide +kernel
theorem dX10_draw_66 : decode cX10_draw 66 = .ok (.getfield 213, 3) := by decide +kernel
theorem dX10_draw_69 : decode cX10_draw 69 = .ok (.if_icmp .ne 46, 3) := by decide +kernel
theorem dX10_draw_72 : decode cX10_draw 72 = .ok (.aload_n 0, 1) := by decide +kernel
theorem dX10_draw_73 : decode cX10_draw 73 = .ok (.getfield 64, 3) := by decide +kernel
theorem dX10_draw_76 : decode cX10_draw 76 = .ok (.iload 6, 2) := by decide +kernel
theorem dX10_draw_78 : decode cX10_draw 78 = .ok (.iaload, 1) := by decide +kernel
theorem dX10_draw_79 : decode cX10_draw 79 = .ok (.iload_n 1, 1) := by decide +kernel
theorem dX10_draw_80 : decode cX10_draw 80 = .ok (.if_icmp .ne 35, 3) := by decide +kernel
theorem dX10_draw_83 : decode cX10_draw 83 = .ok (.aload_n 0, 1) := by decide +kernel
theorem dX10_draw_84 : decode cX10_draw 84 = .ok (.getfield 67, 3) := by decide +kernel
theorem dX10_draw_87 : decode cX10_draw 87 = .ok (.iload 6, 2) := by decide +kernel
theorem dX10_draw_89 : decode cX10_draw 89 = .ok (.iaload, 1) := by decide +kernel
theorem dX10_draw_90 : decode cX10_draw 90 = .ok (.iload_n 2, 1) := by decide +kernel
theorem dX10_draw_91 : decode cX10_draw 91 = .ok (.if_icmp .ne 24, 3) := by decide +kernel
theorem dX10_draw_94 : decode cX10_draw 94 = .ok (.aload_n 0, 1) := by decide +kernel
theorem dX10_draw_95 : decode cX10_draw 95 = .ok (.getfield 73, 3) := by decide +kernel
theorem dX10_draw_98 : decode cX10_draw 98 = .ok (.iload 6, 2) := by decide +kernel
theorem dX10_draw_100 : decode cX10_draw 100 = .ok (.iaload, 1) := by decide +kernel
theorem dX10_draw_101 : decode cX10_draw 101 = .ok (.iconst 1, 1) := by decide +kernel
theorem dX10_draw_102 : decode cX10_draw 102 = .ok (.if_icmp .ne 13, 3) := by decide +kernel
theorem dX10_draw_105 : decode cX10_draw 105 = .ok (.aload_n 0, 1) := by decide +kernel
theorem dX10_draw_106 : decode cX10_draw 106 = .ok (.getfield 70, 3) := by decide +kernel
theorem dX10_draw_109 : decode cX10_draw 109 = .ok (.iload 6, 2) := by decide +kernel
theorem dX10_draw_111 : decode cX10_draw 111 = .ok (.iaload, 1) := by decide +kernel
theorem dX10_draw_112 : decode cX10_draw 112 = .ok (.goto 4, 3) := by decide +kernel
theorem dX10_draw_115 : decode cX10_draw 115 = .ok (.iconst 0, 1) := by decide +kernel
theorem dX10_draw_116 : decode cX10_draw 116 = .ok (.iadd, 1) := by decide +kernel
theorem dX10_draw_117 : decode cX10_draw 117 = .ok (.istore 5, 2) := by decide +kernel
theorem dX10_draw_119 : decode cX10_draw 119 = .ok (.iinc 6 1, 3) := by decide +kernel
theorem dX10_draw_122 : decode cX10_draw 122 = .ok (.goto (-75), 3) := by decide +kernel
theorem dX10_draw_125 : decode cX10_draw 125 = .ok (.iload 5, 2) := by decide +kernel
theorem dX10_draw_127 : decode cX10_draw 127 = .ok (.aload_n 0, 1) := by decide +kernel
theorem dX10_draw_128 : decode cX10_draw 128 = .ok (.getfield 49, 3) := by decide +kernel
theorem dX10_draw_131 : decode cX10_draw 131 = .ok (.iload 4, 2) := by decide +kernel
theorem dX10_draw_133 : decode cX10_draw 133 = .ok (.iaload, 1) := by decide +kernel
theorem dX10_draw_134 : decode cX10_draw 134 = .ok (.if_icmp .le 5, 3) := by decide +kernel
theorem dX10_draw_137 : decode cX10_draw 137 = .ok (.iconst 3, 1) := by decide +kernel
theorem dX10_draw_138 : decode cX10_draw 138 = .ok (.ireturn, 1) := by decide +kernel
theorem dX10_draw_139 : decode cX10_draw 139 = .ok (.aload_n 0, 1) := by decide +kernel
theorem dX10_draw_140 : decode cX10_draw 140 = .ok (.iload_n 1, 1) := by decide +kernel
theorem dX10_draw_141 : decode cX10_draw 141 = .ok (.iload_n 2, 1) := by decide +kernel
theorem dX10_draw_142 : decode cX10_draw 142 = .ok (.iload_n 3, 1) := by decide +kernel
theorem dX10_draw_143 : decode cX10_draw 143 = .ok (.iconst 1, 1) := by decide +kernel
theorem dX10_draw_144 : decode cX10_draw 144 = .ok (.invokevirtual 294, 3) := by decide +kernel
theorem dX10_draw_147 : decode cX10_draw 147 = .ok (.ireturn, 1) := by decide +kernel
theorem dX10_drawn_0 : decode cX10_drawn 0 = .ok (.iload_n 3, 1) := by decide +kernel
theorem dX10_drawn_1 : decode cX10_drawn 1 = .ok (.aload_n 0, 1) := by decide +kernel
theorem dX10_drawn_2 : decode cX10_drawn 2 = .ok (.getfield 24, 3) := by decide +kernel
theorem dX10_drawn_5 : decode cX10_drawn 5 = .ok (.iload_n 1, 1) := by decide +kernel
theorem dX10_drawn_6 : decode cX10_drawn 6 = .ok (.iaload, 1) := by decide +kernel
theorem dX10_drawn_7 : decode cX10_drawn 7 = .ok (.if_icmp .le 5, 3) := by decide +kernel
theorem dX10_drawn_10 : decode cX10_drawn 10 = .ok (.iconst 4, 1) := by decide +kernel
theorem dX10_drawn_11 : decode cX10_drawn 11 = .ok (.ireturn, 1) := by decide +kernel
theorem dX10_drawn_12 : decode cX10_drawn 12 = .ok (.aload_n 0, 1) := by decide +kernel
theorem dX10_drawn_13 : decode cX10_drawn 13 = .ok (.getfield 24, 3) := by decide +kernel
theorem dX10_drawn_16 : decode cX10_drawn 16 = .ok (.iload_n 1, 1) := by decide +kernel
theorem dX10_drawn_17 : decode cX10_drawn 17 = .ok (.dup2, 1) := by decide +kernel
theorem dX10_drawn_18 : decode cX10_drawn 18 = .ok (.iaload, 1) := by decide +kernel
theorem dX10_drawn_19 : decode cX10_drawn 19 = .ok (.iload_n 3, 1) := by decide +kernel
theorem dX10_drawn_20 : decode cX10_drawn 20 = .ok (.isub, 1) := by decide +kernel
theorem dX10_drawn_21 : decode cX10_drawn 21 = .ok (.iastore, 1) := by decide +kernel
theorem dX10_drawn_22 : decode cX10_drawn 22 = .ok (.aload_n 0, 1) := by decide +kernel
theorem dX10_drawn_23 : decode cX10_drawn 23 = .ok (.getfield 61, 3) := by decide +kernel
theorem dX10_drawn_26 : decode cX10_drawn 26 = .ok (.aload_n 0, 1) := by decide +kernel
theorem dX10_drawn_27 : decode cX10_drawn 27 = .ok (.getfield 287, 3) := by decide +kernel
theorem dX10_drawn_30 : decode cX10_drawn 30 = .ok (.aload_n 0, 1) := by decide +kernel
theorem dX10_drawn_31 : decode cX10_drawn 31 = .ok (.getfield 213, 3) := by decide +kernel
theorem dX10_drawn_34 : decode cX10_drawn 34 = .ok (.iastore, 1) := by decide +kernel
theorem dX10_drawn_35 : decode cX10_drawn 35 = .ok (.aload_n 0, 1) := by decide +kernel
theorem dX10_drawn_36 : decode cX10_drawn 36 = .ok (.getfield 64, 3) := by decide +kernel
theorem dX10_drawn_39 : decode cX10_drawn 39 = .ok (.aload_n 0, 1) := by decide +kernel
theorem dX10_drawn_40 : decode cX10_drawn 40 = .ok (.getfield 287, 3) := by decide +kernel
theorem dX10_drawn_43 : decode cX10_drawn 43 = .ok (.iload_n 1, 1) := by decide +kernel
theorem dX10_drawn_44 : decode cX10_drawn 44 = .ok (.iastore, 1) := by decide +kernel
theorem dX10_drawn_45 : decode cX10_drawn 45 = .ok (.aload_n 0, 1) := by decide +kernel
theorem dX10_drawn_46 : decode cX10_drawn 46 = .ok (.getfield 67, 3) := by decide +kernel
theorem dX10_drawn_49 : decode cX10_drawn 49 = .ok (.aload_n 0, 1) := by decide +kernel
theorem dX10_drawn_50 : decode cX10_drawn 50 = .ok (.getfield 287, 3) := by decide +kernel
theorem dX10_drawn_53 : decode cX10_drawn 53 = .ok (.iload_n 2, 1) := by decide +kernel
theorem dX10_drawn_54 : decode cX10_drawn 54 = .ok (.iastore, 1) := by decide +kernel
theorem dX10_drawn_55 : decode cX10_drawn 55 = .ok (.aload_n 0, 1) := by decide +kernel
theorem dX10_drawn_56 : decode cX10_drawn 56 = .ok (.getfield 70, 3) := by decide +kernel
theorem dX10_drawn_59 : decode cX10_drawn 59 = .ok (.aload_n 0, 1) := by decide +kernel
theorem dX10_drawn_60 : decode cX10_drawn 60 = .ok (.getfield 287, 3) := by decide +kernel
theorem dX10_drawn_63 : decode cX10_drawn 63 = .ok (.iload_n 3, 1) := by decide +kernel
theorem dX10_drawn_64 : decode cX10_drawn 64 = .ok (.iastore, 1) := by decide +kernel
theorem dX10_drawn_65 : decode cX10_drawn 65 = .ok (.aload_n 0, 1) := by decide +kernel
theorem dX10_drawn_66 : decode cX10_drawn 66 = .ok (.getfield 73, 3) := by decide +kernel
theorem dX10_drawn_69 : decode cX10_drawn 69 = .ok (.aload_n 0, 1) := by decide +kernel
theorem dX10_drawn_70 : decode cX10_drawn 70 = .ok (.getfield 287, 3) := by decide +kernel
theorem dX10_drawn_73 : decode cX10_drawn 73 = .ok (.iload 4, 2) := by decide +kernel
theorem dX10_drawn_75 : decode cX10_drawn 75 = .ok (.ifCond .eq 7, 3) := by decide +kernel
theorem dX10_drawn_78 : decode cX10_drawn 78 = .ok (.iconst 1, 1) := by decide +kernel
theorem dX10_drawn_79 : decode cX10_drawn 79 = .ok (.goto 4, 3) := by decide +kernel
theorem dX10_drawn_82 : decode cX10_drawn 82 = .ok (.iconst 0, 1) := by decide +kernel
theorem dX10_drawn_83 : decode cX10_drawn 83 = .ok (.iastore, 1) := by decide +kernel
theorem dX10_drawn_84 : decode cX10_drawn 84 = .ok (.aload_n 0, 1) := by decide +kernel
theorem dX10_drawn_85 : decode cX10_drawn 85 = .ok (.getfield 76, 3) := by decide +kernel
theorem dX10_drawn_88 : decode cX10_drawn 88 = .ok (.aload_n 0, 1) := by decide +kernel
theorem dX10_drawn_89 : decode cX10_drawn 89 = .ok (.getfield 287, 3) := by decide +kernel
theorem dX10_drawn_92 : decode cX10_drawn 92 = .ok (.iload 4, 2) := by decide +kernel
theorem dX10_drawn_94 : decode cX10_drawn 94 = .ok (.ifCond .eq 10, 3) := by decide +kernel
theorem dX10_drawn_97 : decode cX10_drawn 97 = .ok (.aload_n 0, 1) := by decide +kernel
theorem dX10_drawn_98 : decode cX10_drawn 98 = .ok (.getfield 213, 3) := by decide +kernel
theorem dX10_drawn_101 : decode cX10_drawn 101 = .ok (.goto 4, 3) := by decide +kernel
theorem dX10_drawn_104 : decode cX10_drawn 104 = .ok (.iconst (-1), 1) := by decide +kernel
theorem dX10_drawn_105 : decode cX10_drawn 105 = .ok (.iastore, 1) := by decide +kernel
theorem dX10_drawn_106 : decode cX10_drawn 106 = .ok (.aload_n 0, 1) := by decide +kernel
theorem dX10_drawn_107 : decode cX10_drawn 107 = .ok (.dup, 1) := by decide +kernel
theorem dX10_drawn_108 : decode cX10_drawn 108 = .ok (.getfield 287, 3) := by decide +kernel
theorem dX10_drawn_111 : decode cX10_drawn 111 = .ok (.iconst 1, 1) := by decide +kernel
theorem dX10_drawn_112 : decode cX10_drawn 112 = .ok (.iadd, 1) := by decide +kernel
theorem dX10_drawn_113 : decode cX10_drawn 113 = .ok (.putfield 287, 3) := by decide +kernel
theorem dX10_drawn_116 : decode cX10_drawn 116 = .ok (.iconst 0, 1) := by decide +kernel
theorem dX10_drawn_117 : decode cX10_drawn 117 = .ok (.ireturn, 1) := by decide +kernel
set_option maxHeartbeats 4000000 in
set_option maxRecDepth 100000 in
/-- WellCourtModel.cantDraw -/
theorem m_cantDraw (l : Launch) (G : va_G) (cy : Nat → ClassId) (sK sV : Nat → Nat) (ad : Nat → Nat → Nat) (sz : Nat) (st : gS) (hB : gBd bM st) (x : Int32) (y : Int32) (w : Int32) (Xx : Int) (Xy : Int) (Xw : Int) (kx : x.toInt = Xx) (ky : y.toInt = Xy) (kw : w.toInt = Xw) : gsMi l yX10_cantDraw cX10_cantDraw 4 (some .boolean) ({ frames := 1, cells := 0, slots := 0, locals := 21 } : Room) G cy sK sV (shM cy ad) cnM ad sz [.ref (ad 0 0), .int x, .int y, .int w] st (fun (r : Int32) (u : gS) => gBN bM kM [] st u ∧ ((r = 1 ∧ (¬ (0 ≤ Xx ∧ Xx ≤ 5 ∧ ¬ (st 1 0 x.toNatClampNeg).toInt = 0 ∧ 0 ≤ Xy ∧ Xy ≤ 5 ∧ 1 ≤ Xw ∧ Xw ≤ 1000 ∧ (st 0 0 37).toInt < 300))) ∨ (r = 0 ∧ (0 ≤ Xx) ∧ (Xx ≤ 5) ∧ (¬ (st 1 0 x.toNatClampNeg).toInt = 0) ∧ (0 ≤ Xy) ∧ (Xy ≤ 5) ∧ (1 ≤ Xw) ∧ (Xw ≤ 1000) ∧ ((st 0 0 37).toInt < 300)))) := by
  refine gs_start (fun A => gsQi G (shM cy ad) cnM ad _ A) (by decide) (Nat.le_of_ble_eq_true rfl) ?_
  intro p e s m below meth c A ls H hx hb hr hml hlocks hown hts hK hov hE hI hM hm hS hA hl
  have hl : lv_has ls 4 [(0, .ref (ad 0 0)), (1, .int x), (2, .int y), (3, .int w)] := hl
  have hB_st : gBN bM kM [] st st := gBN.rf hB
  have b37 : (0 : Int) ≤ (st 0 0 37).toInt ∧ (st 0 0 37).toInt ≤ (300 : Int) := hB 0 0 37
  refine lv_aload_n hx hb dX10_cantDraw_0 rfl (lv_at hl 0 rfl) ?_
  refine lv_iload_n hx hb dX10_cantDraw_1 rfl (lv_at hl 1 rfl) ?_
  refine gs_calli (va_runV (As := [.int x]) (rest := []) ⟨hx, hb, hml, hown, hts⟩ (m_hasWell l G cy sK sV ad H.size st hB_st.1 x x.toInt rfl ) ⟨(gz_cb (n := 1) hts gm_1201 gm_12 gm_1204 ⟨by decide +kernel, by decide +kernel, by decide +kernel⟩ ⟨Nat.le_of_ble_eq_true rfl, Nat.le_of_ble_eq_true rfl⟩), hts _ gm_1203, hts _ gs_50⟩ (gs_preV hK hov hE hI hM hm hS hA 0 0 (by decide) rfl rfl) rfl rfl hl.1 rfl (lv_room (Nat.le_of_ble_eq_true rfl)) dX10_cantDraw_2 ⟨Nat.le_of_ble_eq_true rfl, Nat.le_of_ble_eq_true rfl⟩) hm hS hA (fun r_1 st_1 H locs hw_1 hM hS => ?_)
  obtain ⟨n_1, hw_1⟩ := hw_1
  have n_1 := gBN.nil n_1
  subst n_1
  rcases hw_1 with ⟨rfl, hw_1_0, hw_1_1, hw_1_2⟩ | ⟨rfl, hw_1_0⟩
  · skip
    refine lv_if_eq (tgt := 37) hx hb dX10_cantDraw_5 (by decide) (fun h9 => absurd h9 (by decide)) (fun _ => ?_)
    refine lv_iload_n hx hb dX10_cantDraw_8 rfl (lv_at hl 2 rfl) ?_
    refine gs_calli (va_runS (As := [.int y]) (rest := []) ⟨hx, hb, hml, hown, hts⟩ (m_isClan l G cy sK sV ad H.size st hB_st.1 y y.toInt rfl ) ⟨(gz_cb (n := 1) hts gm_1213 gm_12 gm_1215 ⟨by decide +kernel, by decide +kernel, by decide +kernel⟩ ⟨Nat.le_of_ble_eq_true rfl, Nat.le_of_ble_eq_true rfl⟩), hts _ gm_1214⟩ (gs_preS hK hov hE hI hM hm hS hA) rfl rfl hl.1 rfl (lv_room (Nat.le_of_ble_eq_true rfl)) dX10_cantDraw_9 ⟨Nat.le_of_ble_eq_true rfl, Nat.le_of_ble_eq_true rfl⟩) hm hS hA (fun r_2 st_2 H locs hw_2 hM hS => ?_)
    obtain ⟨n_2, hw_2⟩ := hw_2
    have n_2 := gBN.nil n_2
    subst n_2
    rcases hw_2 with ⟨rfl, hw_2_0, hw_2_1⟩ | ⟨rfl, hw_2_0⟩
    · skip
      refine lv_if_eq (tgt := 37) hx hb dX10_cantDraw_12 (by decide) (fun h9 => absurd h9 (by decide)) (fun _ => ?_)
      refine lv_iload_n hx hb dX10_cantDraw_15 rfl (lv_at hl 3 rfl) ?_
      refine lv_iconst (v := 1) hx hb dX10_cantDraw_16 (by decide) ?_
      refine lv_icmp_lt (tgt := 37) hx hb dX10_cantDraw_17 (by decide) (fun c_3 => ?_) (fun c_3 => ?_)
      · have ic_3 := gz_lt (rfl : w.toInt = w.toInt) (by decide : (1 : Int32).toInt = 1) c_3
        refine lv_iconst (v := 1) hx hb dX10_cantDraw_37 (by decide) ?_
        refine lv_goto (tgt := 42) hx hb dX10_cantDraw_38 (by decide) ?_
        exact gs_iret hx hb hr hlocks hM hS (by decide) ⟨hB_st, (Or.inl (⟨rfl, (by have hl0 : (1 : Int32).toInt = 1 := (by decide); have hb1 : (0 : Int) ≤ (st 0 0 37).toInt ∧ (st 0 0 37).toInt ≤ (300 : Int) := hB_st.1 0 0 37; omega)⟩))⟩ (by exact Nat.le_refl _) (by exact Nat.le_refl _) dX10_cantDraw_42
      · have ic_3 := gz_nlt (rfl : w.toInt = w.toInt) (by decide : (1 : Int32).toInt = 1) c_3
        refine lv_iload_n hx hb dX10_cantDraw_20 rfl (lv_at hl 3 rfl) ?_
        refine lv_sipush (v := 1000) hx hb dX10_cantDraw_21 (by decide) ?_
        refine lv_icmp_gt (tgt := 37) hx hb dX10_cantDraw_24 (by decide) (fun c_4 => ?_) (fun c_4 => ?_)
        · have ic_4 := gz_lt (by decide : (1000 : Int32).toInt = 1000) (rfl : w.toInt = w.toInt) c_4
          refine lv_iconst (v := 1) hx hb dX10_cantDraw_37 (by decide) ?_
          refine lv_goto (tgt := 42) hx hb dX10_cantDraw_38 (by decide) ?_
          exact gs_iret hx hb hr hlocks hM hS (by decide) ⟨hB_st, (Or.inl (⟨rfl, (by have hl0 : (1 : Int32).toInt = 1 := (by decide); have hb1 : (0 : Int) ≤ (st 0 0 37).toInt ∧ (st 0 0 37).toInt ≤ (300 : Int) := hB_st.1 0 0 37; omega)⟩))⟩ (by exact Nat.le_refl _) (by exact Nat.le_refl _) dX10_cantDraw_42
        · have ic_4 := gz_nlt (by decide : (1000 : Int32).toInt = 1000) (rfl : w.toInt = w.toInt) c_4
          refine lv_aload_n hx hb dX10_cantDraw_27 rfl (lv_at hl 0 rfl) ?_
          refine gs_get (C := RX10) (T := TX10) (N := 59) hx hb hts inX10 hown hK hM 0 0 37 (by decide) rfl rfl (by decide) (hts _ gm_938) (fun _ h9 => h9) rfl dX10_cantDraw_28 ?_
          have bf_5 : (0 : Int) ≤ (st 0 0 37).toInt ∧ (st 0 0 37).toInt ≤ (300 : Int) := hB_st.1 0 0 37
          refine lv_sipush (v := 300) hx hb dX10_cantDraw_31 (by decide) ?_
          refine lv_icmp_ne (tgt := 41) hx hb dX10_cantDraw_34 (by decide) (fun c_6 => ?_) (fun c_6 => ?_)
          · have ic_6 := gz_ne (rfl : (st 0 0 37).toInt = (st 0 0 37).toInt) (by decide : (300 : Int32).toInt = 300) c_6
            refine lv_iconst (v := 0) hx hb dX10_cantDraw_41 (by decide) ?_
            exact gs_iret hx hb hr hlocks hM hS (by decide) ⟨hB_st, (Or.inr (⟨rfl, (by have hl0 : (0 : Int32).toInt = 0 := (by decide); omega), (by have hl0 : (0 : Int32).toInt = 0 := (by decide); omega), (by have hl0 : (0 : Int32).toInt = 0 := (by decide); omega), (by have hl0 : (0 : Int32).toInt = 0 := (by decide); omega), (by have hl0 : (0 : Int32).toInt = 0 := (by decide); omega), (by have hl0 : (0 : Int32).toInt = 0 := (by decide); omega), (by have hl0 : (0 : Int32).toInt = 0 := (by decide); omega), (by have hl0 : (0 : Int32).toInt = 0 := (by decide); have hb1 : (0 : Int) ≤ (st 0 0 37).toInt ∧ (st 0 0 37).toInt ≤ (300 : Int) := hB_st.1 0 0 37; omega)⟩))⟩ (by exact Nat.le_refl _) (by exact Nat.le_refl _) dX10_cantDraw_42
          · have ic_6 := gz_eqn (rfl : (st 0 0 37).toInt = (st 0 0 37).toInt) (by decide : (300 : Int32).toInt = 300) c_6
            refine lv_iconst (v := 1) hx hb dX10_cantDraw_37 (by decide) ?_
            refine lv_goto (tgt := 42) hx hb dX10_cantDraw_38 (by decide) ?_
            exact gs_iret hx hb hr hlocks hM hS (by decide) ⟨hB_st, (Or.inl (⟨rfl, (by have hl0 : (1 : Int32).toInt = 1 := (by decide); have hb1 : (0 : Int) ≤ (st 0 0 37).toInt ∧ (st 0 0 37).toInt ≤ (300 : Int) := hB_st.1 0 0 37; omega)⟩))⟩ (by exact Nat.le_refl _) (by exact Nat.le_refl _) dX10_cantDraw_42
    · skip
      refine lv_if_eq (tgt := 37) hx hb dX10_cantDraw_12 (by decide) (fun _ => ?_) (fun h9 => absurd (by decide) h9)
      refine lv_iconst (v := 1) hx hb dX10_cantDraw_37 (by decide) ?_
      refine lv_goto (tgt := 42) hx hb dX10_cantDraw_38 (by decide) ?_
      exact gs_iret hx hb hr hlocks hM hS (by decide) ⟨hB_st, (Or.inl (⟨rfl, (by have hl0 : (1 : Int32).toInt = 1 := (by decide); have hb1 : (0 : Int) ≤ (st 0 0 37).toInt ∧ (st 0 0 37).toInt ≤ (300 : Int) := hB_st.1 0 0 37; omega)⟩))⟩ (by exact Nat.le_refl _) (by exact Nat.le_refl _) dX10_cantDraw_42
  · skip
    refine lv_if_eq (tgt := 37) hx hb dX10_cantDraw_5 (by decide) (fun _ => ?_) (fun h9 => absurd (by decide) h9)
    refine lv_iconst (v := 1) hx hb dX10_cantDraw_37 (by decide) ?_
    refine lv_goto (tgt := 42) hx hb dX10_cantDraw_38 (by decide) ?_
    exact gs_iret hx hb hr hlocks hM hS (by decide) ⟨hB_st, (Or.inl (⟨rfl, (by have hl0 : (1 : Int32).toInt = 1 := (by decide); have hb1 : (0 : Int) ≤ (st 0 0 37).toInt ∧ (st 0 0 37).toInt ≤ (300 : Int) := hB_st.1 0 0 37; omega)⟩))⟩ (by exact Nat.le_refl _) (by exact Nat.le_refl _) dX10_cantDraw_42

set_option maxHeartbeats 4000000 in
set_option maxRecDepth 100000 in
/-- WellCourtModel.drawn -/
theorem m_enter1 (l : Launch) (G : va_G) (cy : Nat → ClassId) (sK sV : Nat → Nat) (ad : Nat → Nat → Nat) (sz : Nat) (st : gS) (hB : gBd bM st) (x : Int32) (y : Int32) (w : Int32) (Xx : Int) (Xy : Int) (Xw : Int) (kx : x.toInt = Xx) (ky : y.toInt = Xy) (kw : w.toInt = Xw) (hx0 : 0 ≤ Xx) (hx1 : Xx < 6) (hdr : (st 0 0 37).toInt < 300) : gsMi l yX10_drawn cX10_drawn 5 (some .int) ({ frames := 0, cells := 0, slots := 0, locals := 0 } : Room) G cy sK sV (shM cy ad) cnM ad sz [.ref (ad 0 0), .int x, .int y, .int w, .int 1] st (fun (r : Int32) (u : gS) => gBN bM kM [37, 400, 1600, 1700, 1800, 1900, 2000, 2100] st u ∧ ((r = 4 ∧ ((st 4 0 x.toNatClampNeg).toInt < Xw) ∧ (u = st)) ∨ (r = 0 ∧ (Xw ≤ (st 4 0 x.toNatClampNeg).toInt) ∧ (enM st u x y w 1 (st 0 0 7))))) := by
  refine gs_start (fun A => gsQi G (shM cy ad) cnM ad _ A) (by decide) (Nat.le_of_ble_eq_true rfl) ?_
  intro p e s m below meth c A ls H hx hb hr hml hlocks hown hts hK hov hE hI hM hm hS hA hl
  have hl : lv_has ls 5 [(0, .ref (ad 0 0)), (1, .int x), (2, .int y), (3, .int w), (4, .int 1)] := hl
  have hB_st : gBN bM kM [37, 400, 1600, 1700, 1800, 1900, 2000, 2100] st st := gBN.rf hB
  refine lv_iload_n hx hb dX10_drawn_0 rfl (lv_at hl 3 rfl) ?_
  refine lv_aload_n hx hb dX10_drawn_1 rfl (lv_at hl 0 rfl) ?_
  refine gs_get (C := RX10) (T := TX10) (N := 59) hx hb hts inX10 hown hK hM 0 0 4 (by decide) rfl rfl (by decide) (hts _ gm_905) (fun _ h9 => h9) rfl dX10_drawn_2 ?_
  refine lv_iload_n hx hb dX10_drawn_5 rfl (lv_at hl 1 rfl) ?_
  refine gs_iald hx hb hK hM 4 0 (by decide) rfl (vp_in_iff.mpr ⟨by omega, by omega⟩) dX10_drawn_6 ?_
  refine lv_topi (fun x_1 ex_1 => ?_)
  have qx_1 : x_1.toInt = (st 4 0 (x.toNatClampNeg)).toInt := congrArg Int32.toInt ex_1
  refine lv_icmp_le (tgt := 12) hx hb dX10_drawn_7 (by decide) (fun c_2 => ?_) (fun c_2 => ?_)
  · have ic_2 := gz_le (rfl : w.toInt = w.toInt) (rfl : x_1.toInt = x_1.toInt) c_2
    refine lv_aload_n hx hb dX10_drawn_12 rfl (lv_at hl 0 rfl) ?_
    refine gs_get (C := RX10) (T := TX10) (N := 59) hx hb hts inX10 hown hK hM 0 0 4 (by decide) rfl rfl (by decide) (hts _ gm_905) (fun _ h9 => h9) rfl dX10_drawn_13 ?_
    refine lv_iload_n hx hb dX10_drawn_16 rfl (lv_at hl 1 rfl) ?_
    refine lv_dup2_11 hx hb dX10_drawn_17 rfl rfl ?_
    refine gs_iald hx hb hK hM 4 0 (by decide) rfl (vp_in_iff.mpr ⟨by omega, by omega⟩) dX10_drawn_18 ?_
    refine lv_topi (fun x_3 ex_3 => ?_)
    have qx_3 : x_3.toInt = (st 4 0 (x.toNatClampNeg)).toInt := congrArg Int32.toInt ex_3
    refine lv_iload_n hx hb dX10_drawn_19 rfl (lv_at hl 3 rfl) ?_
    refine lv_isub hx hb dX10_drawn_20 ?_
    refine lv_topi (fun x_4 ex_4 => ?_)
    refine gs_iast hx hb hK hI hm hM hS 4 0 (by decide) (fun _ => rfl) (vp_in_iff.mpr ⟨by omega, by omega⟩) dX10_drawn_21 (fun st_5 H locs est_5 hM hS => ?_)
    have hB_st_5 : gBN bM kM [37, 400, 1600, 1700, 1800, 1900, 2000, 2100] st st_5 := by rw [est_5]; exact hB_st.up (show (400 : Nat) ∈ _ from by decide) (gi_lo _) (gi_hi _)
    refine lv_aload_n hx hb dX10_drawn_22 rfl (lv_at hl 0 rfl) ?_
    refine gs_get (C := RX10) (T := TX10) (N := 59) hx hb hts inX10 hown hK hM 0 0 31 (by decide) rfl rfl (by decide) (hts _ gm_932) (fun _ h9 => h9) rfl dX10_drawn_23 ?_
    refine lv_aload_n hx hb dX10_drawn_26 rfl (lv_at hl 0 rfl) ?_
    refine gs_get (C := RX10) (T := TX10) (N := 59) hx hb hts inX10 hown hK hM 0 0 37 (by decide) rfl rfl (by decide) (hts _ gm_938) (fun _ h9 => h9) rfl dX10_drawn_27 ?_
    refine lv_topi (fun x_6 ex_6 => ?_)
    have ex_6 : (st 0 0 37) = x_6 := Eq.symm (ex_6.trans ((congrFun (congrFun (congrFun est_5 0) 0) 37).trans (congrFun (congrFun (gU_k (by decide)) 0) 37)))
    subst ex_6
    have bf_7 : (0 : Int) ≤ (st 0 0 37).toInt ∧ (st 0 0 37).toInt ≤ (300 : Int) := hB_st.1 0 0 37
    refine lv_aload_n hx hb dX10_drawn_30 rfl (lv_at hl 0 rfl) ?_
    refine gs_get (C := RX10) (T := TX10) (N := 59) hx hb hts inX10 hown hK hM 0 0 7 (by decide) rfl rfl (by decide) (hts _ gm_908) (fun _ h9 => h9) rfl dX10_drawn_31 ?_
    refine lv_topi (fun x_8 ex_8 => ?_)
    have ex_8 : (st 0 0 7) = x_8 := Eq.symm (ex_8.trans ((congrFun (congrFun (congrFun est_5 0) 0) 7).trans (congrFun (congrFun (gU_k (by decide)) 0) 7)))
    subst ex_8
    have bf_9 : (0 : Int) ≤ (st 0 0 7).toInt ∧ (st 0 0 7).toInt ≤ (199 : Int) := hB_st.1 0 0 7
    refine gs_iast hx hb hK hI hm hM hS 16 0 (by decide) (fun _ => rfl) (vp_in_iff.mpr ⟨by omega, by omega⟩) dX10_drawn_34 (fun st_10 H locs est_10 hM hS => ?_)
    have hB_st_10 : gBN bM kM [37, 400, 1600, 1700, 1800, 1900, 2000, 2100] st st_10 := by rw [est_10]; exact hB_st_5.up (show (1600 : Nat) ∈ _ from by decide) (gi_lo _) (gi_hi _)
    refine lv_aload_n hx hb dX10_drawn_35 rfl (lv_at hl 0 rfl) ?_
    refine gs_get (C := RX10) (T := TX10) (N := 59) hx hb hts inX10 hown hK hM 0 0 32 (by decide) rfl rfl (by decide) (hts _ gm_933) (fun _ h9 => h9) rfl dX10_drawn_36 ?_
    refine lv_aload_n hx hb dX10_drawn_39 rfl (lv_at hl 0 rfl) ?_
    refine gs_get (C := RX10) (T := TX10) (N := 59) hx hb hts inX10 hown hK hM 0 0 37 (by decide) rfl rfl (by decide) (hts _ gm_938) (fun _ h9 => h9) rfl dX10_drawn_40 ?_
    refine lv_topi (fun x_11 ex_11 => ?_)
    have ex_11 : (st 0 0 37) = x_11 := Eq.symm (ex_11.trans (((congrFun (congrFun (congrFun est_10 0) 0) 37).trans (congrFun (congrFun (gU_k (by decide)) 0) 37)).trans ((congrFun (congrFun (congrFun est_5 0) 0) 37).trans (congrFun (congrFun (gU_k (by decide)) 0) 37))))
    subst ex_11
    have bf_12 : (0 : Int) ≤ (st 0 0 37).toInt ∧ (st 0 0 37).toInt ≤ (300 : Int) := hB_st.1 0 0 37
    refine lv_iload_n hx hb dX10_drawn_43 rfl (lv_at hl 1 rfl) ?_
    refine gs_iast hx hb hK hI hm hM hS 17 0 (by decide) (fun _ => rfl) (vp_in_iff.mpr ⟨by omega, by omega⟩) dX10_drawn_44 (fun st_13 H locs est_13 hM hS => ?_)
    have hB_st_13 : gBN bM kM [37, 400, 1600, 1700, 1800, 1900, 2000, 2100] st st_13 := by rw [est_13]; exact hB_st_10.up (show (1700 : Nat) ∈ _ from by decide) (gi_lo _) (gi_hi _)
    refine lv_aload_n hx hb dX10_drawn_45 rfl (lv_at hl 0 rfl) ?_
    refine gs_get (C := RX10) (T := TX10) (N := 59) hx hb hts inX10 hown hK hM 0 0 33 (by decide) rfl rfl (by decide) (hts _ gm_934) (fun _ h9 => h9) rfl dX10_drawn_46 ?_
    refine lv_aload_n hx hb dX10_drawn_49 rfl (lv_at hl 0 rfl) ?_
    refine gs_get (C := RX10) (T := TX10) (N := 59) hx hb hts inX10 hown hK hM 0 0 37 (by decide) rfl rfl (by decide) (hts _ gm_938) (fun _ h9 => h9) rfl dX10_drawn_50 ?_
    refine lv_topi (fun x_14 ex_14 => ?_)
    have ex_14 : (st 0 0 37) = x_14 := Eq.symm (ex_14.trans (((congrFun (congrFun (congrFun est_13 0) 0) 37).trans (congrFun (congrFun (gU_k (by decide)) 0) 37)).trans (((congrFun (congrFun (congrFun est_10 0) 0) 37).trans (congrFun (congrFun (gU_k (by decide)) 0) 37)).trans ((congrFun (congrFun (congrFun est_5 0) 0) 37).trans (congrFun (congrFun (gU_k (by decide)) 0) 37)))))
    subst ex_14
    have bf_15 : (0 : Int) ≤ (st 0 0 37).toInt ∧ (st 0 0 37).toInt ≤ (300 : Int) := hB_st.1 0 0 37
    refine lv_iload_n hx hb dX10_drawn_53 rfl (lv_at hl 2 rfl) ?_
    refine gs_iast hx hb hK hI hm hM hS 18 0 (by decide) (fun _ => rfl) (vp_in_iff.mpr ⟨by omega, by omega⟩) dX10_drawn_54 (fun st_16 H locs est_16 hM hS => ?_)
    have hB_st_16 : gBN bM kM [37, 400, 1600, 1700, 1800, 1900, 2000, 2100] st st_16 := by rw [est_16]; exact hB_st_13.up (show (1800 : Nat) ∈ _ from by decide) (gi_lo _) (gi_hi _)
    refine lv_aload_n hx hb dX10_drawn_55 rfl (lv_at hl 0 rfl) ?_
    refine gs_get (C := RX10) (T := TX10) (N := 59) hx hb hts inX10 hown hK hM 0 0 34 (by decide) rfl rfl (by decide) (hts _ gm_935) (fun _ h9 => h9) rfl dX10_drawn_56 ?_
    refine lv_aload_n hx hb dX10_drawn_59 rfl (lv_at hl 0 rfl) ?_
    refine gs_get (C := RX10) (T := TX10) (N := 59) hx hb hts inX10 hown hK hM 0 0 37 (by decide) rfl rfl (by decide) (hts _ gm_938) (fun _ h9 => h9) rfl dX10_drawn_60 ?_
    refine lv_topi (fun x_17 ex_17 => ?_)
    have ex_17 : (st 0 0 37) = x_17 := Eq.symm (ex_17.trans (((congrFun (congrFun (congrFun est_16 0) 0) 37).trans (congrFun (congrFun (gU_k (by decide)) 0) 37)).trans (((congrFun (congrFun (congrFun est_13 0) 0) 37).trans (congrFun (congrFun (gU_k (by decide)) 0) 37)).trans (((congrFun (congrFun (congrFun est_10 0) 0) 37).trans (congrFun (congrFun (gU_k (by decide)) 0) 37)).trans ((congrFun (congrFun (congrFun est_5 0) 0) 37).trans (congrFun (congrFun (gU_k (by decide)) 0) 37))))))
    subst ex_17
    have bf_18 : (0 : Int) ≤ (st 0 0 37).toInt ∧ (st 0 0 37).toInt ≤ (300 : Int) := hB_st.1 0 0 37
    refine lv_iload_n hx hb dX10_drawn_63 rfl (lv_at hl 3 rfl) ?_
    refine gs_iast hx hb hK hI hm hM hS 19 0 (by decide) (fun _ => rfl) (vp_in_iff.mpr ⟨by omega, by omega⟩) dX10_drawn_64 (fun st_19 H locs est_19 hM hS => ?_)
    have hB_st_19 : gBN bM kM [37, 400, 1600, 1700, 1800, 1900, 2000, 2100] st st_19 := by rw [est_19]; exact hB_st_16.up (show (1900 : Nat) ∈ _ from by decide) (gi_lo _) (gi_hi _)
    refine lv_aload_n hx hb dX10_drawn_65 rfl (lv_at hl 0 rfl) ?_
    refine gs_get (C := RX10) (T := TX10) (N := 59) hx hb hts inX10 hown hK hM 0 0 35 (by decide) rfl rfl (by decide) (hts _ gm_936) (fun _ h9 => h9) rfl dX10_drawn_66 ?_
    refine lv_aload_n hx hb dX10_drawn_69 rfl (lv_at hl 0 rfl) ?_
    refine gs_get (C := RX10) (T := TX10) (N := 59) hx hb hts inX10 hown hK hM 0 0 37 (by decide) rfl rfl (by decide) (hts _ gm_938) (fun _ h9 => h9) rfl dX10_drawn_70 ?_
    refine lv_topi (fun x_20 ex_20 => ?_)
    have ex_20 : (st 0 0 37) = x_20 := Eq.symm (ex_20.trans (((congrFun (congrFun (congrFun est_19 0) 0) 37).trans (congrFun (congrFun (gU_k (by decide)) 0) 37)).trans (((congrFun (congrFun (congrFun est_16 0) 0) 37).trans (congrFun (congrFun (gU_k (by decide)) 0) 37)).trans (((congrFun (congrFun (congrFun est_13 0) 0) 37).trans (congrFun (congrFun (gU_k (by decide)) 0) 37)).trans (((congrFun (congrFun (congrFun est_10 0) 0) 37).trans (congrFun (congrFun (gU_k (by decide)) 0) 37)).trans ((congrFun (congrFun (congrFun est_5 0) 0) 37).trans (congrFun (congrFun (gU_k (by decide)) 0) 37)))))))
    subst ex_20
    have bf_21 : (0 : Int) ≤ (st 0 0 37).toInt ∧ (st 0 0 37).toInt ≤ (300 : Int) := hB_st.1 0 0 37
    refine lv_iload hx hb dX10_drawn_73 (lv_at hl 4 rfl) ?_
    refine lv_if_eq (tgt := 82) hx hb dX10_drawn_75 (by decide) (fun h9 => absurd h9 (by decide)) (fun _ => ?_)
    refine lv_iconst (v := 1) hx hb dX10_drawn_78 (by decide) ?_
    refine lv_goto (tgt := 83) hx hb dX10_drawn_79 (by decide) ?_
    refine gs_iast hx hb hK hI hm hM hS 20 0 (by decide) (fun _ => rfl) (vp_in_iff.mpr ⟨by omega, by omega⟩) dX10_drawn_83 (fun st_22 H locs est_22 hM hS => ?_)
    have hB_st_22 : gBN bM kM [37, 400, 1600, 1700, 1800, 1900, 2000, 2100] st st_22 := by rw [est_22]; exact hB_st_19.up (show (2000 : Nat) ∈ _ from by decide) (gi_lo _) (gi_hi _)
    refine lv_aload_n hx hb dX10_drawn_84 rfl (lv_at hl 0 rfl) ?_
    refine gs_get (C := RX10) (T := TX10) (N := 59) hx hb hts inX10 hown hK hM 0 0 36 (by decide) rfl rfl (by decide) (hts _ gm_937) (fun _ h9 => h9) rfl dX10_drawn_85 ?_
    refine lv_aload_n hx hb dX10_drawn_88 rfl (lv_at hl 0 rfl) ?_
    refine gs_get (C := RX10) (T := TX10) (N := 59) hx hb hts inX10 hown hK hM 0 0 37 (by decide) rfl rfl (by decide) (hts _ gm_938) (fun _ h9 => h9) rfl dX10_drawn_89 ?_
    refine lv_topi (fun x_23 ex_23 => ?_)
    have ex_23 : (st 0 0 37) = x_23 := Eq.symm (ex_23.trans (((congrFun (congrFun (congrFun est_22 0) 0) 37).trans (congrFun (congrFun (gU_k (by decide)) 0) 37)).trans (((congrFun (congrFun (congrFun est_19 0) 0) 37).trans (congrFun (congrFun (gU_k (by decide)) 0) 37)).trans (((congrFun (congrFun (congrFun est_16 0) 0) 37).trans (congrFun (congrFun (gU_k (by decide)) 0) 37)).trans (((congrFun (congrFun (congrFun est_13 0) 0) 37).trans (congrFun (congrFun (gU_k (by decide)) 0) 37)).trans (((congrFun (congrFun (congrFun est_10 0) 0) 37).trans (congrFun (congrFun (gU_k (by decide)) 0) 37)).trans ((congrFun (congrFun (congrFun est_5 0) 0) 37).trans (congrFun (congrFun (gU_k (by decide)) 0) 37))))))))
    subst ex_23
    have bf_24 : (0 : Int) ≤ (st 0 0 37).toInt ∧ (st 0 0 37).toInt ≤ (300 : Int) := hB_st.1 0 0 37
    refine lv_iload hx hb dX10_drawn_92 (lv_at hl 4 rfl) ?_
    refine lv_if_eq (tgt := 104) hx hb dX10_drawn_94 (by decide) (fun h9 => absurd h9 (by decide)) (fun _ => ?_)
    refine lv_aload_n hx hb dX10_drawn_97 rfl (lv_at hl 0 rfl) ?_
    refine gs_get (C := RX10) (T := TX10) (N := 59) hx hb hts inX10 hown hK hM 0 0 7 (by decide) rfl rfl (by decide) (hts _ gm_908) (fun _ h9 => h9) rfl dX10_drawn_98 ?_
    refine lv_topi (fun x_25 ex_25 => ?_)
    have ex_25 : (st 0 0 7) = x_25 := Eq.symm (ex_25.trans (((congrFun (congrFun (congrFun est_22 0) 0) 7).trans (congrFun (congrFun (gU_k (by decide)) 0) 7)).trans (((congrFun (congrFun (congrFun est_19 0) 0) 7).trans (congrFun (congrFun (gU_k (by decide)) 0) 7)).trans (((congrFun (congrFun (congrFun est_16 0) 0) 7).trans (congrFun (congrFun (gU_k (by decide)) 0) 7)).trans (((congrFun (congrFun (congrFun est_13 0) 0) 7).trans (congrFun (congrFun (gU_k (by decide)) 0) 7)).trans (((congrFun (congrFun (congrFun est_10 0) 0) 7).trans (congrFun (congrFun (gU_k (by decide)) 0) 7)).trans ((congrFun (congrFun (congrFun est_5 0) 0) 7).trans (congrFun (congrFun (gU_k (by decide)) 0) 7))))))))
    subst ex_25
    have bf_26 : (0 : Int) ≤ (st 0 0 7).toInt ∧ (st 0 0 7).toInt ≤ (199 : Int) := hB_st.1 0 0 7
    refine lv_goto (tgt := 105) hx hb dX10_drawn_101 (by decide) ?_
    refine gs_iast hx hb hK hI hm hM hS 21 0 (by decide) (fun _ => rfl) (vp_in_iff.mpr ⟨by omega, by omega⟩) dX10_drawn_105 (fun st_27 H locs est_27 hM hS => ?_)
    have hB_st_27 : gBN bM kM [37, 400, 1600, 1700, 1800, 1900, 2000, 2100] st st_27 := by rw [est_27]; exact hB_st_22.up (show (2100 : Nat) ∈ _ from by decide) (gi_lo _) (gi_hi _)
    refine lv_aload_n hx hb dX10_drawn_106 rfl (lv_at hl 0 rfl) ?_
    refine lv_dup hx hb dX10_drawn_107 rfl ?_
    refine gs_get (C := RX10) (T := TX10) (N := 59) hx hb hts inX10 hown hK hM 0 0 37 (by decide) rfl rfl (by decide) (hts _ gm_938) (fun _ h9 => h9) rfl dX10_drawn_108 ?_
    refine lv_topi (fun x_28 ex_28 => ?_)
    have ex_28 : (st 0 0 37) = x_28 := Eq.symm (ex_28.trans (((congrFun (congrFun (congrFun est_27 0) 0) 37).trans (congrFun (congrFun (gU_k (by decide)) 0) 37)).trans (((congrFun (congrFun (congrFun est_22 0) 0) 37).trans (congrFun (congrFun (gU_k (by decide)) 0) 37)).trans (((congrFun (congrFun (congrFun est_19 0) 0) 37).trans (congrFun (congrFun (gU_k (by decide)) 0) 37)).trans (((congrFun (congrFun (congrFun est_16 0) 0) 37).trans (congrFun (congrFun (gU_k (by decide)) 0) 37)).trans (((congrFun (congrFun (congrFun est_13 0) 0) 37).trans (congrFun (congrFun (gU_k (by decide)) 0) 37)).trans (((congrFun (congrFun (congrFun est_10 0) 0) 37).trans (congrFun (congrFun (gU_k (by decide)) 0) 37)).trans ((congrFun (congrFun (congrFun est_5 0) 0) 37).trans (congrFun (congrFun (gU_k (by decide)) 0) 37)))))))))
    subst ex_28
    have bf_29 : (0 : Int) ≤ (st 0 0 37).toInt ∧ (st 0 0 37).toInt ≤ (300 : Int) := hB_st.1 0 0 37
    refine lv_iconst (v := 1) hx hb dX10_drawn_111 (by decide) ?_
    refine lv_iadd hx hb dX10_drawn_112 ?_
    refine lv_topi (fun x_30 ex_30 => ?_)
    try have tx_30 : x_30.toInt = (st 0 0 37).toInt + 1 := by rw [ex_30]; exact gz_addP (x := (st 0 0 37).toInt) (y := 1) rfl (by decide) (by omega) (by omega)
    refine gs_put (C := RX10) (T := TX10) (N := 59) (ty := .int) (val := .int x_30) hx hb hts inX10 tyX10 tyX10_ok nmX10 hown hK hI hm hM hS 0 0 37 (by decide) rfl rfl (by decide) (hts _ gm_938) (fun _ h9 => h9) rfl (x_30 : Int32) rfl (by decide +kernel) rfl rfl (Nat.le_of_ble_eq_true rfl) dX10_drawn_113 (fun st_31 H locs est_31 hM hS => ?_)
    have hB_st_31 : gBN bM kM [37, 400, 1600, 1700, 1800, 1900, 2000, 2100] st st_31 := by rw [est_31]; exact hB_st_27.up (show (37 : Nat) ∈ _ from by decide) (show (0 : Int) ≤ x_30.toInt from by omega) (show x_30.toInt ≤ (300 : Int) from by omega)
    refine lv_iconst (v := 0) hx hb dX10_drawn_116 (by decide) ?_
    exact gs_iret hx hb hr hlocks hM hS rfl ⟨hB_st_31, (Or.inr ⟨rfl, by omega, ⟨(((congrFun (congrFun est_31 4) 0).trans ((congrFun (gU_k (by decide)) 0).trans ((congrFun (congrFun est_27 4) 0).trans ((congrFun (gU_k (by decide)) 0).trans ((congrFun (congrFun est_22 4) 0).trans ((congrFun (gU_k (by decide)) 0).trans ((congrFun (congrFun est_19 4) 0).trans ((congrFun (gU_k (by decide)) 0).trans ((congrFun (congrFun est_16 4) 0).trans ((congrFun (gU_k (by decide)) 0).trans ((congrFun (congrFun est_13 4) 0).trans ((congrFun (gU_k (by decide)) 0).trans ((congrFun (congrFun est_10 4) 0).trans ((congrFun (gU_k (by decide)) 0).trans ((congrFun (congrFun est_5 4) 0).trans ((gU_at _ _ _ _ _).trans (congrArg (fun f9 => upd f9 (x.toNatClampNeg) (x_4 : Int32)) rfl))))))))))))))))).trans (by rw [ex_4, ex_3])), ((congrFun (congrFun est_31 16) 0).trans ((congrFun (gU_k (by decide)) 0).trans ((congrFun (congrFun est_27 16) 0).trans ((congrFun (gU_k (by decide)) 0).trans ((congrFun (congrFun est_22 16) 0).trans ((congrFun (gU_k (by decide)) 0).trans ((congrFun (congrFun est_19 16) 0).trans ((congrFun (gU_k (by decide)) 0).trans ((congrFun (congrFun est_16 16) 0).trans ((congrFun (gU_k (by decide)) 0).trans ((congrFun (congrFun est_13 16) 0).trans ((congrFun (gU_k (by decide)) 0).trans ((congrFun (congrFun est_10 16) 0).trans ((gU_at _ _ _ _ _).trans (congrArg (fun f9 => upd f9 ((st 0 0 37).toNatClampNeg) ((st 0 0 7) : Int32)) ((congrFun (congrFun est_5 16) 0).trans ((congrFun (gU_k (by decide)) 0).trans rfl))))))))))))))))), ((congrFun (congrFun est_31 17) 0).trans ((congrFun (gU_k (by decide)) 0).trans ((congrFun (congrFun est_27 17) 0).trans ((congrFun (gU_k (by decide)) 0).trans ((congrFun (congrFun est_22 17) 0).trans ((congrFun (gU_k (by decide)) 0).trans ((congrFun (congrFun est_19 17) 0).trans ((congrFun (gU_k (by decide)) 0).trans ((congrFun (congrFun est_16 17) 0).trans ((congrFun (gU_k (by decide)) 0).trans ((congrFun (congrFun est_13 17) 0).trans ((gU_at _ _ _ _ _).trans (congrArg (fun f9 => upd f9 ((st 0 0 37).toNatClampNeg) (x : Int32)) ((congrFun (congrFun est_10 17) 0).trans ((congrFun (gU_k (by decide)) 0).trans ((congrFun (congrFun est_5 17) 0).trans ((congrFun (gU_k (by decide)) 0).trans rfl))))))))))))))))), ((congrFun (congrFun est_31 18) 0).trans ((congrFun (gU_k (by decide)) 0).trans ((congrFun (congrFun est_27 18) 0).trans ((congrFun (gU_k (by decide)) 0).trans ((congrFun (congrFun est_22 18) 0).trans ((congrFun (gU_k (by decide)) 0).trans ((congrFun (congrFun est_19 18) 0).trans ((congrFun (gU_k (by decide)) 0).trans ((congrFun (congrFun est_16 18) 0).trans ((gU_at _ _ _ _ _).trans (congrArg (fun f9 => upd f9 ((st 0 0 37).toNatClampNeg) (y : Int32)) ((congrFun (congrFun est_13 18) 0).trans ((congrFun (gU_k (by decide)) 0).trans ((congrFun (congrFun est_10 18) 0).trans ((congrFun (gU_k (by decide)) 0).trans ((congrFun (congrFun est_5 18) 0).trans ((congrFun (gU_k (by decide)) 0).trans rfl))))))))))))))))), ((congrFun (congrFun est_31 19) 0).trans ((congrFun (gU_k (by decide)) 0).trans ((congrFun (congrFun est_27 19) 0).trans ((congrFun (gU_k (by decide)) 0).trans ((congrFun (congrFun est_22 19) 0).trans ((congrFun (gU_k (by decide)) 0).trans ((congrFun (congrFun est_19 19) 0).trans ((gU_at _ _ _ _ _).trans (congrArg (fun f9 => upd f9 ((st 0 0 37).toNatClampNeg) (w : Int32)) ((congrFun (congrFun est_16 19) 0).trans ((congrFun (gU_k (by decide)) 0).trans ((congrFun (congrFun est_13 19) 0).trans ((congrFun (gU_k (by decide)) 0).trans ((congrFun (congrFun est_10 19) 0).trans ((congrFun (gU_k (by decide)) 0).trans ((congrFun (congrFun est_5 19) 0).trans ((congrFun (gU_k (by decide)) 0).trans rfl))))))))))))))))), ((congrFun (congrFun est_31 20) 0).trans ((congrFun (gU_k (by decide)) 0).trans ((congrFun (congrFun est_27 20) 0).trans ((congrFun (gU_k (by decide)) 0).trans ((congrFun (congrFun est_22 20) 0).trans ((gU_at _ _ _ _ _).trans (congrArg (fun f9 => upd f9 ((st 0 0 37).toNatClampNeg) (1 : Int32)) ((congrFun (congrFun est_19 20) 0).trans ((congrFun (gU_k (by decide)) 0).trans ((congrFun (congrFun est_16 20) 0).trans ((congrFun (gU_k (by decide)) 0).trans ((congrFun (congrFun est_13 20) 0).trans ((congrFun (gU_k (by decide)) 0).trans ((congrFun (congrFun est_10 20) 0).trans ((congrFun (gU_k (by decide)) 0).trans ((congrFun (congrFun est_5 20) 0).trans ((congrFun (gU_k (by decide)) 0).trans rfl))))))))))))))))), ((congrFun (congrFun est_31 21) 0).trans ((congrFun (gU_k (by decide)) 0).trans ((congrFun (congrFun est_27 21) 0).trans ((gU_at _ _ _ _ _).trans (congrArg (fun f9 => upd f9 ((st 0 0 37).toNatClampNeg) ((st 0 0 7) : Int32)) ((congrFun (congrFun est_22 21) 0).trans ((congrFun (gU_k (by decide)) 0).trans ((congrFun (congrFun est_19 21) 0).trans ((congrFun (gU_k (by decide)) 0).trans ((congrFun (congrFun est_16 21) 0).trans ((congrFun (gU_k (by decide)) 0).trans ((congrFun (congrFun est_13 21) 0).trans ((congrFun (gU_k (by decide)) 0).trans ((congrFun (congrFun est_10 21) 0).trans ((congrFun (gU_k (by decide)) 0).trans ((congrFun (congrFun est_5 21) 0).trans ((congrFun (gU_k (by decide)) 0).trans rfl))))))))))))))))), (by have hl0 : (0 : Int32).toInt = 0 := (by decide); have hq1 : (st_31 0 0 37).toInt = (x_30 : Int32).toInt := congrArg Int32.toInt (((congrFun (congrFun (congrFun est_31 0) 0) 37).trans (gU_same _ _ _ _ _))); have hb2 : (0 : Int) ≤ (st_31 0 0 37).toInt ∧ (st_31 0 0 37).toInt ≤ (300 : Int) := hB_st_31.1 0 0 37; have hb3 : (0 : Int) ≤ (st 0 0 37).toInt ∧ (st 0 0 37).toInt ≤ (300 : Int) := hB_st.1 0 0 37; omega)⟩⟩)⟩ (by exact Nat.le_refl _) (by exact Nat.le_refl _) dX10_drawn_117
  · have ic_2 := gz_nle (rfl : w.toInt = w.toInt) (rfl : x_1.toInt = x_1.toInt) c_2
    have lc_2 := gi_hi w
    refine lv_iconst (v := 4) hx hb dX10_drawn_10 (by decide) ?_
    exact gs_iret hx hb hr hlocks hM hS rfl ⟨hB_st, (Or.inl ⟨rfl, by omega, rfl⟩)⟩ (by exact Nat.le_refl _) (by exact Nat.le_refl _) dX10_drawn_11

set_option maxHeartbeats 4000000 in
set_option maxRecDepth 100000 in
/-- WellCourtModel.drawn -/
theorem m_enter0 (l : Launch) (G : va_G) (cy : Nat → ClassId) (sK sV : Nat → Nat) (ad : Nat → Nat → Nat) (sz : Nat) (st : gS) (hB : gBd bM st) (x : Int32) (y : Int32) (w : Int32) (Xx : Int) (Xy : Int) (Xw : Int) (kx : x.toInt = Xx) (ky : y.toInt = Xy) (kw : w.toInt = Xw) (hx0 : 0 ≤ Xx) (hx1 : Xx < 6) (hdr : (st 0 0 37).toInt < 300) : gsMi l yX10_drawn cX10_drawn 5 (some .int) ({ frames := 0, cells := 0, slots := 0, locals := 0 } : Room) G cy sK sV (shM cy ad) cnM ad sz [.ref (ad 0 0), .int x, .int y, .int w, .int 0] st (fun (r : Int32) (u : gS) => gBN bM kM [37, 400, 1600, 1700, 1800, 1900, 2000, 2100] st u ∧ ((r = 4 ∧ ((st 4 0 x.toNatClampNeg).toInt < Xw) ∧ (u = st)) ∨ (r = 0 ∧ (Xw ≤ (st 4 0 x.toNatClampNeg).toInt) ∧ (enM st u x y w 0 (-1))))) := by
  refine gs_start (fun A => gsQi G (shM cy ad) cnM ad _ A) (by decide) (Nat.le_of_ble_eq_true rfl) ?_
  intro p e s m below meth c A ls H hx hb hr hml hlocks hown hts hK hov hE hI hM hm hS hA hl
  have hl : lv_has ls 5 [(0, .ref (ad 0 0)), (1, .int x), (2, .int y), (3, .int w), (4, .int 0)] := hl
  have hB_st : gBN bM kM [37, 400, 1600, 1700, 1800, 1900, 2000, 2100] st st := gBN.rf hB
  refine lv_iload_n hx hb dX10_drawn_0 rfl (lv_at hl 3 rfl) ?_
  refine lv_aload_n hx hb dX10_drawn_1 rfl (lv_at hl 0 rfl) ?_
  refine gs_get (C := RX10) (T := TX10) (N := 59) hx hb hts inX10 hown hK hM 0 0 4 (by decide) rfl rfl (by decide) (hts _ gm_905) (fun _ h9 => h9) rfl dX10_drawn_2 ?_
  refine lv_iload_n hx hb dX10_drawn_5 rfl (lv_at hl 1 rfl) ?_
  refine gs_iald hx hb hK hM 4 0 (by decide) rfl (vp_in_iff.mpr ⟨by omega, by omega⟩) dX10_drawn_6 ?_
  refine lv_topi (fun x_1 ex_1 => ?_)
  have qx_1 : x_1.toInt = (st 4 0 (x.toNatClampNeg)).toInt := congrArg Int32.toInt ex_1
  refine lv_icmp_le (tgt := 12) hx hb dX10_drawn_7 (by decide) (fun c_2 => ?_) (fun c_2 => ?_)
  · have ic_2 := gz_le (rfl : w.toInt = w.toInt) (rfl : x_1.toInt = x_1.toInt) c_2
    refine lv_aload_n hx hb dX10_drawn_12 rfl (lv_at hl 0 rfl) ?_
    refine gs_get (C := RX10) (T := TX10) (N := 59) hx hb hts inX10 hown hK hM 0 0 4 (by decide) rfl rfl (by decide) (hts _ gm_905) (fun _ h9 => h9) rfl dX10_drawn_13 ?_
    refine lv_iload_n hx hb dX10_drawn_16 rfl (lv_at hl 1 rfl) ?_
    refine lv_dup2_11 hx hb dX10_drawn_17 rfl rfl ?_
    refine gs_iald hx hb hK hM 4 0 (by decide) rfl (vp_in_iff.mpr ⟨by omega, by omega⟩) dX10_drawn_18 ?_
    refine lv_topi (fun x_3 ex_3 => ?_)
    have qx_3 : x_3.toInt = (st 4 0 (x.toNatClampNeg)).toInt := congrArg Int32.toInt ex_3
    refine lv_iload_n hx hb dX10_drawn_19 rfl (lv_at hl 3 rfl) ?_
    refine lv_isub hx hb dX10_drawn_20 ?_
    refine lv_topi (fun x_4 ex_4 => ?_)
    refine gs_iast hx hb hK hI hm hM hS 4 0 (by decide) (fun _ => rfl) (vp_in_iff.mpr ⟨by omega, by omega⟩) dX10_drawn_21 (fun st_5 H locs est_5 hM hS => ?_)
    have hB_st_5 : gBN bM kM [37, 400, 1600, 1700, 1800, 1900, 2000, 2100] st st_5 := by rw [est_5]; exact hB_st.up (show (400 : Nat) ∈ _ from by decide) (gi_lo _) (gi_hi _)
    refine lv_aload_n hx hb dX10_drawn_22 rfl (lv_at hl 0 rfl) ?_
    refine gs_get (C := RX10) (T := TX10) (N := 59) hx hb hts inX10 hown hK hM 0 0 31 (by decide) rfl rfl (by decide) (hts _ gm_932) (fun _ h9 => h9) rfl dX10_drawn_23 ?_
    refine lv_aload_n hx hb dX10_drawn_26 rfl (lv_at hl 0 rfl) ?_
    refine gs_get (C := RX10) (T := TX10) (N := 59) hx hb hts inX10 hown hK hM 0 0 37 (by decide) rfl rfl (by decide) (hts _ gm_938) (fun _ h9 => h9) rfl dX10_drawn_27 ?_
    refine lv_topi (fun x_6 ex_6 => ?_)
    have ex_6 : (st 0 0 37) = x_6 := Eq.symm (ex_6.trans ((congrFun (congrFun (congrFun est_5 0) 0) 37).trans (congrFun (congrFun (gU_k (by decide)) 0) 37)))
    subst ex_6
    have bf_7 : (0 : Int) ≤ (st 0 0 37).toInt ∧ (st 0 0 37).toInt ≤ (300 : Int) := hB_st.1 0 0 37
    refine lv_aload_n hx hb dX10_drawn_30 rfl (lv_at hl 0 rfl) ?_
    refine gs_get (C := RX10) (T := TX10) (N := 59) hx hb hts inX10 hown hK hM 0 0 7 (by decide) rfl rfl (by decide) (hts _ gm_908) (fun _ h9 => h9) rfl dX10_drawn_31 ?_
    refine lv_topi (fun x_8 ex_8 => ?_)
    have ex_8 : (st 0 0 7) = x_8 := Eq.symm (ex_8.trans ((congrFun (congrFun (congrFun est_5 0) 0) 7).trans (congrFun (congrFun (gU_k (by decide)) 0) 7)))
    subst ex_8
    have bf_9 : (0 : Int) ≤ (st 0 0 7).toInt ∧ (st 0 0 7).toInt ≤ (199 : Int) := hB_st.1 0 0 7
    refine gs_iast hx hb hK hI hm hM hS 16 0 (by decide) (fun _ => rfl) (vp_in_iff.mpr ⟨by omega, by omega⟩) dX10_drawn_34 (fun st_10 H locs est_10 hM hS => ?_)
    have hB_st_10 : gBN bM kM [37, 400, 1600, 1700, 1800, 1900, 2000, 2100] st st_10 := by rw [est_10]; exact hB_st_5.up (show (1600 : Nat) ∈ _ from by decide) (gi_lo _) (gi_hi _)
    refine lv_aload_n hx hb dX10_drawn_35 rfl (lv_at hl 0 rfl) ?_
    refine gs_get (C := RX10) (T := TX10) (N := 59) hx hb hts inX10 hown hK hM 0 0 32 (by decide) rfl rfl (by decide) (hts _ gm_933) (fun _ h9 => h9) rfl dX10_drawn_36 ?_
    refine lv_aload_n hx hb dX10_drawn_39 rfl (lv_at hl 0 rfl) ?_
    refine gs_get (C := RX10) (T := TX10) (N := 59) hx hb hts inX10 hown hK hM 0 0 37 (by decide) rfl rfl (by decide) (hts _ gm_938) (fun _ h9 => h9) rfl dX10_drawn_40 ?_
    refine lv_topi (fun x_11 ex_11 => ?_)
    have ex_11 : (st 0 0 37) = x_11 := Eq.symm (ex_11.trans (((congrFun (congrFun (congrFun est_10 0) 0) 37).trans (congrFun (congrFun (gU_k (by decide)) 0) 37)).trans ((congrFun (congrFun (congrFun est_5 0) 0) 37).trans (congrFun (congrFun (gU_k (by decide)) 0) 37))))
    subst ex_11
    have bf_12 : (0 : Int) ≤ (st 0 0 37).toInt ∧ (st 0 0 37).toInt ≤ (300 : Int) := hB_st.1 0 0 37
    refine lv_iload_n hx hb dX10_drawn_43 rfl (lv_at hl 1 rfl) ?_
    refine gs_iast hx hb hK hI hm hM hS 17 0 (by decide) (fun _ => rfl) (vp_in_iff.mpr ⟨by omega, by omega⟩) dX10_drawn_44 (fun st_13 H locs est_13 hM hS => ?_)
    have hB_st_13 : gBN bM kM [37, 400, 1600, 1700, 1800, 1900, 2000, 2100] st st_13 := by rw [est_13]; exact hB_st_10.up (show (1700 : Nat) ∈ _ from by decide) (gi_lo _) (gi_hi _)
    refine lv_aload_n hx hb dX10_drawn_45 rfl (lv_at hl 0 rfl) ?_
    refine gs_get (C := RX10) (T := TX10) (N := 59) hx hb hts inX10 hown hK hM 0 0 33 (by decide) rfl rfl (by decide) (hts _ gm_934) (fun _ h9 => h9) rfl dX10_drawn_46 ?_
    refine lv_aload_n hx hb dX10_drawn_49 rfl (lv_at hl 0 rfl) ?_
    refine gs_get (C := RX10) (T := TX10) (N := 59) hx hb hts inX10 hown hK hM 0 0 37 (by decide) rfl rfl (by decide) (hts _ gm_938) (fun _ h9 => h9) rfl dX10_drawn_50 ?_
    refine lv_topi (fun x_14 ex_14 => ?_)
    have ex_14 : (st 0 0 37) = x_14 := Eq.symm (ex_14.trans (((congrFun (congrFun (congrFun est_13 0) 0) 37).trans (congrFun (congrFun (gU_k (by decide)) 0) 37)).trans (((congrFun (congrFun (congrFun est_10 0) 0) 37).trans (congrFun (congrFun (gU_k (by decide)) 0) 37)).trans ((congrFun (congrFun (congrFun est_5 0) 0) 37).trans (congrFun (congrFun (gU_k (by decide)) 0) 37)))))
    subst ex_14
    have bf_15 : (0 : Int) ≤ (st 0 0 37).toInt ∧ (st 0 0 37).toInt ≤ (300 : Int) := hB_st.1 0 0 37
    refine lv_iload_n hx hb dX10_drawn_53 rfl (lv_at hl 2 rfl) ?_
    refine gs_iast hx hb hK hI hm hM hS 18 0 (by decide) (fun _ => rfl) (vp_in_iff.mpr ⟨by omega, by omega⟩) dX10_drawn_54 (fun st_16 H locs est_16 hM hS => ?_)
    have hB_st_16 : gBN bM kM [37, 400, 1600, 1700, 1800, 1900, 2000, 2100] st st_16 := by rw [est_16]; exact hB_st_13.up (show (1800 : Nat) ∈ _ from by decide) (gi_lo _) (gi_hi _)
    refine lv_aload_n hx hb dX10_drawn_55 rfl (lv_at hl 0 rfl) ?_
    refine gs_get (C := RX10) (T := TX10) (N := 59) hx hb hts inX10 hown hK hM 0 0 34 (by decide) rfl rfl (by decide) (hts _ gm_935) (fun _ h9 => h9) rfl dX10_drawn_56 ?_
    refine lv_aload_n hx hb dX10_drawn_59 rfl (lv_at hl 0 rfl) ?_
    refine gs_get (C := RX10) (T := TX10) (N := 59) hx hb hts inX10 hown hK hM 0 0 37 (by decide) rfl rfl (by decide) (hts _ gm_938) (fun _ h9 => h9) rfl dX10_drawn_60 ?_
    refine lv_topi (fun x_17 ex_17 => ?_)
    have ex_17 : (st 0 0 37) = x_17 := Eq.symm (ex_17.trans (((congrFun (congrFun (congrFun est_16 0) 0) 37).trans (congrFun (congrFun (gU_k (by decide)) 0) 37)).trans (((congrFun (congrFun (congrFun est_13 0) 0) 37).trans (congrFun (congrFun (gU_k (by decide)) 0) 37)).trans (((congrFun (congrFun (congrFun est_10 0) 0) 37).trans (congrFun (congrFun (gU_k (by decide)) 0) 37)).trans ((congrFun (congrFun (congrFun est_5 0) 0) 37).trans (congrFun (congrFun (gU_k (by decide)) 0) 37))))))
    subst ex_17
    have bf_18 : (0 : Int) ≤ (st 0 0 37).toInt ∧ (st 0 0 37).toInt ≤ (300 : Int) := hB_st.1 0 0 37
    refine lv_iload_n hx hb dX10_drawn_63 rfl (lv_at hl 3 rfl) ?_
    refine gs_iast hx hb hK hI hm hM hS 19 0 (by decide) (fun _ => rfl) (vp_in_iff.mpr ⟨by omega, by omega⟩) dX10_drawn_64 (fun st_19 H locs est_19 hM hS => ?_)
    have hB_st_19 : gBN bM kM [37, 400, 1600, 1700, 1800, 1900, 2000, 2100] st st_19 := by rw [est_19]; exact hB_st_16.up (show (1900 : Nat) ∈ _ from by decide) (gi_lo _) (gi_hi _)
    refine lv_aload_n hx hb dX10_drawn_65 rfl (lv_at hl 0 rfl) ?_
    refine gs_get (C := RX10) (T := TX10) (N := 59) hx hb hts inX10 hown hK hM 0 0 35 (by decide) rfl rfl (by decide) (hts _ gm_936) (fun _ h9 => h9) rfl dX10_drawn_66 ?_
    refine lv_aload_n hx hb dX10_drawn_69 rfl (lv_at hl 0 rfl) ?_
    refine gs_get (C := RX10) (T := TX10) (N := 59) hx hb hts inX10 hown hK hM 0 0 37 (by decide) rfl rfl (by decide) (hts _ gm_938) (fun _ h9 => h9) rfl dX10_drawn_70 ?_
    refine lv_topi (fun x_20 ex_20 => ?_)
    have ex_20 : (st 0 0 37) = x_20 := Eq.symm (ex_20.trans (((congrFun (congrFun (congrFun est_19 0) 0) 37).trans (congrFun (congrFun (gU_k (by decide)) 0) 37)).trans (((congrFun (congrFun (congrFun est_16 0) 0) 37).trans (congrFun (congrFun (gU_k (by decide)) 0) 37)).trans (((congrFun (congrFun (congrFun est_13 0) 0) 37).trans (congrFun (congrFun (gU_k (by decide)) 0) 37)).trans (((congrFun (congrFun (congrFun est_10 0) 0) 37).trans (congrFun (congrFun (gU_k (by decide)) 0) 37)).trans ((congrFun (congrFun (congrFun est_5 0) 0) 37).trans (congrFun (congrFun (gU_k (by decide)) 0) 37)))))))
    subst ex_20
    have bf_21 : (0 : Int) ≤ (st 0 0 37).toInt ∧ (st 0 0 37).toInt ≤ (300 : Int) := hB_st.1 0 0 37
    refine lv_iload hx hb dX10_drawn_73 (lv_at hl 4 rfl) ?_
    refine lv_if_eq (tgt := 82) hx hb dX10_drawn_75 (by decide) (fun _ => ?_) (fun h9 => absurd (by decide) h9)
    refine lv_iconst (v := 0) hx hb dX10_drawn_82 (by decide) ?_
    refine gs_iast hx hb hK hI hm hM hS 20 0 (by decide) (fun _ => rfl) (vp_in_iff.mpr ⟨by omega, by omega⟩) dX10_drawn_83 (fun st_22 H locs est_22 hM hS => ?_)
    have hB_st_22 : gBN bM kM [37, 400, 1600, 1700, 1800, 1900, 2000, 2100] st st_22 := by rw [est_22]; exact hB_st_19.up (show (2000 : Nat) ∈ _ from by decide) (gi_lo _) (gi_hi _)
    refine lv_aload_n hx hb dX10_drawn_84 rfl (lv_at hl 0 rfl) ?_
    refine gs_get (C := RX10) (T := TX10) (N := 59) hx hb hts inX10 hown hK hM 0 0 36 (by decide) rfl rfl (by decide) (hts _ gm_937) (fun _ h9 => h9) rfl dX10_drawn_85 ?_
    refine lv_aload_n hx hb dX10_drawn_88 rfl (lv_at hl 0 rfl) ?_
    refine gs_get (C := RX10) (T := TX10) (N := 59) hx hb hts inX10 hown hK hM 0 0 37 (by decide) rfl rfl (by decide) (hts _ gm_938) (fun _ h9 => h9) rfl dX10_drawn_89 ?_
    refine lv_topi (fun x_23 ex_23 => ?_)
    have ex_23 : (st 0 0 37) = x_23 := Eq.symm (ex_23.trans (((congrFun (congrFun (congrFun est_22 0) 0) 37).trans (congrFun (congrFun (gU_k (by decide)) 0) 37)).trans (((congrFun (congrFun (congrFun est_19 0) 0) 37).trans (congrFun (congrFun (gU_k (by decide)) 0) 37)).trans (((congrFun (congrFun (congrFun est_16 0) 0) 37).trans (congrFun (congrFun (gU_k (by decide)) 0) 37)).trans (((congrFun (congrFun (congrFun est_13 0) 0) 37).trans (congrFun (congrFun (gU_k (by decide)) 0) 37)).trans (((congrFun (congrFun (congrFun est_10 0) 0) 37).trans (congrFun (congrFun (gU_k (by decide)) 0) 37)).trans ((congrFun (congrFun (congrFun est_5 0) 0) 37).trans (congrFun (congrFun (gU_k (by decide)) 0) 37))))))))
    subst ex_23
    have bf_24 : (0 : Int) ≤ (st 0 0 37).toInt ∧ (st 0 0 37).toInt ≤ (300 : Int) := hB_st.1 0 0 37
    refine lv_iload hx hb dX10_drawn_92 (lv_at hl 4 rfl) ?_
    refine lv_if_eq (tgt := 104) hx hb dX10_drawn_94 (by decide) (fun _ => ?_) (fun h9 => absurd (by decide) h9)
    refine lv_iconst (v := (-1)) hx hb dX10_drawn_104 (by decide) ?_
    refine gs_iast hx hb hK hI hm hM hS 21 0 (by decide) (fun _ => rfl) (vp_in_iff.mpr ⟨by omega, by omega⟩) dX10_drawn_105 (fun st_25 H locs est_25 hM hS => ?_)
    have hB_st_25 : gBN bM kM [37, 400, 1600, 1700, 1800, 1900, 2000, 2100] st st_25 := by rw [est_25]; exact hB_st_22.up (show (2100 : Nat) ∈ _ from by decide) (gi_lo _) (gi_hi _)
    refine lv_aload_n hx hb dX10_drawn_106 rfl (lv_at hl 0 rfl) ?_
    refine lv_dup hx hb dX10_drawn_107 rfl ?_
    refine gs_get (C := RX10) (T := TX10) (N := 59) hx hb hts inX10 hown hK hM 0 0 37 (by decide) rfl rfl (by decide) (hts _ gm_938) (fun _ h9 => h9) rfl dX10_drawn_108 ?_
    refine lv_topi (fun x_26 ex_26 => ?_)
    have ex_26 : (st 0 0 37) = x_26 := Eq.symm (ex_26.trans (((congrFun (congrFun (congrFun est_25 0) 0) 37).trans (congrFun (congrFun (gU_k (by decide)) 0) 37)).trans (((congrFun (congrFun (congrFun est_22 0) 0) 37).trans (congrFun (congrFun (gU_k (by decide)) 0) 37)).trans (((congrFun (congrFun (congrFun est_19 0) 0) 37).trans (congrFun (congrFun (gU_k (by decide)) 0) 37)).trans (((congrFun (congrFun (congrFun est_16 0) 0) 37).trans (congrFun (congrFun (gU_k (by decide)) 0) 37)).trans (((congrFun (congrFun (congrFun est_13 0) 0) 37).trans (congrFun (congrFun (gU_k (by decide)) 0) 37)).trans (((congrFun (congrFun (congrFun est_10 0) 0) 37).trans (congrFun (congrFun (gU_k (by decide)) 0) 37)).trans ((congrFun (congrFun (congrFun est_5 0) 0) 37).trans (congrFun (congrFun (gU_k (by decide)) 0) 37)))))))))
    subst ex_26
    have bf_27 : (0 : Int) ≤ (st 0 0 37).toInt ∧ (st 0 0 37).toInt ≤ (300 : Int) := hB_st.1 0 0 37
    refine lv_iconst (v := 1) hx hb dX10_drawn_111 (by decide) ?_
    refine lv_iadd hx hb dX10_drawn_112 ?_
    refine lv_topi (fun x_28 ex_28 => ?_)
    try have tx_28 : x_28.toInt = (st 0 0 37).toInt + 1 := by rw [ex_28]; exact gz_addP (x := (st 0 0 37).toInt) (y := 1) rfl (by decide) (by omega) (by omega)
    refine gs_put (C := RX10) (T := TX10) (N := 59) (ty := .int) (val := .int x_28) hx hb hts inX10 tyX10 tyX10_ok nmX10 hown hK hI hm hM hS 0 0 37 (by decide) rfl rfl (by decide) (hts _ gm_938) (fun _ h9 => h9) rfl (x_28 : Int32) rfl (by decide +kernel) rfl rfl (Nat.le_of_ble_eq_true rfl) dX10_drawn_113 (fun st_29 H locs est_29 hM hS => ?_)
    have hB_st_29 : gBN bM kM [37, 400, 1600, 1700, 1800, 1900, 2000, 2100] st st_29 := by rw [est_29]; exact hB_st_25.up (show (37 : Nat) ∈ _ from by decide) (show (0 : Int) ≤ x_28.toInt from by omega) (show x_28.toInt ≤ (300 : Int) from by omega)
    refine lv_iconst (v := 0) hx hb dX10_drawn_116 (by decide) ?_
    exact gs_iret hx hb hr hlocks hM hS rfl ⟨hB_st_29, (Or.inr ⟨rfl, by omega, ⟨(((congrFun (congrFun est_29 4) 0).trans ((congrFun (gU_k (by decide)) 0).trans ((congrFun (congrFun est_25 4) 0).trans ((congrFun (gU_k (by decide)) 0).trans ((congrFun (congrFun est_22 4) 0).trans ((congrFun (gU_k (by decide)) 0).trans ((congrFun (congrFun est_19 4) 0).trans ((congrFun (gU_k (by decide)) 0).trans ((congrFun (congrFun est_16 4) 0).trans ((congrFun (gU_k (by decide)) 0).trans ((congrFun (congrFun est_13 4) 0).trans ((congrFun (gU_k (by decide)) 0).trans ((congrFun (congrFun est_10 4) 0).trans ((congrFun (gU_k (by decide)) 0).trans ((congrFun (congrFun est_5 4) 0).trans ((gU_at _ _ _ _ _).trans (congrArg (fun f9 => upd f9 (x.toNatClampNeg) (x_4 : Int32)) rfl))))))))))))))))).trans (by rw [ex_4, ex_3])), ((congrFun (congrFun est_29 16) 0).trans ((congrFun (gU_k (by decide)) 0).trans ((congrFun (congrFun est_25 16) 0).trans ((congrFun (gU_k (by decide)) 0).trans ((congrFun (congrFun est_22 16) 0).trans ((congrFun (gU_k (by decide)) 0).trans ((congrFun (congrFun est_19 16) 0).trans ((congrFun (gU_k (by decide)) 0).trans ((congrFun (congrFun est_16 16) 0).trans ((congrFun (gU_k (by decide)) 0).trans ((congrFun (congrFun est_13 16) 0).trans ((congrFun (gU_k (by decide)) 0).trans ((congrFun (congrFun est_10 16) 0).trans ((gU_at _ _ _ _ _).trans (congrArg (fun f9 => upd f9 ((st 0 0 37).toNatClampNeg) ((st 0 0 7) : Int32)) ((congrFun (congrFun est_5 16) 0).trans ((congrFun (gU_k (by decide)) 0).trans rfl))))))))))))))))), ((congrFun (congrFun est_29 17) 0).trans ((congrFun (gU_k (by decide)) 0).trans ((congrFun (congrFun est_25 17) 0).trans ((congrFun (gU_k (by decide)) 0).trans ((congrFun (congrFun est_22 17) 0).trans ((congrFun (gU_k (by decide)) 0).trans ((congrFun (congrFun est_19 17) 0).trans ((congrFun (gU_k (by decide)) 0).trans ((congrFun (congrFun est_16 17) 0).trans ((congrFun (gU_k (by decide)) 0).trans ((congrFun (congrFun est_13 17) 0).trans ((gU_at _ _ _ _ _).trans (congrArg (fun f9 => upd f9 ((st 0 0 37).toNatClampNeg) (x : Int32)) ((congrFun (congrFun est_10 17) 0).trans ((congrFun (gU_k (by decide)) 0).trans ((congrFun (congrFun est_5 17) 0).trans ((congrFun (gU_k (by decide)) 0).trans rfl))))))))))))))))), ((congrFun (congrFun est_29 18) 0).trans ((congrFun (gU_k (by decide)) 0).trans ((congrFun (congrFun est_25 18) 0).trans ((congrFun (gU_k (by decide)) 0).trans ((congrFun (congrFun est_22 18) 0).trans ((congrFun (gU_k (by decide)) 0).trans ((congrFun (congrFun est_19 18) 0).trans ((congrFun (gU_k (by decide)) 0).trans ((congrFun (congrFun est_16 18) 0).trans ((gU_at _ _ _ _ _).trans (congrArg (fun f9 => upd f9 ((st 0 0 37).toNatClampNeg) (y : Int32)) ((congrFun (congrFun est_13 18) 0).trans ((congrFun (gU_k (by decide)) 0).trans ((congrFun (congrFun est_10 18) 0).trans ((congrFun (gU_k (by decide)) 0).trans ((congrFun (congrFun est_5 18) 0).trans ((congrFun (gU_k (by decide)) 0).trans rfl))))))))))))))))), ((congrFun (congrFun est_29 19) 0).trans ((congrFun (gU_k (by decide)) 0).trans ((congrFun (congrFun est_25 19) 0).trans ((congrFun (gU_k (by decide)) 0).trans ((congrFun (congrFun est_22 19) 0).trans ((congrFun (gU_k (by decide)) 0).trans ((congrFun (congrFun est_19 19) 0).trans ((gU_at _ _ _ _ _).trans (congrArg (fun f9 => upd f9 ((st 0 0 37).toNatClampNeg) (w : Int32)) ((congrFun (congrFun est_16 19) 0).trans ((congrFun (gU_k (by decide)) 0).trans ((congrFun (congrFun est_13 19) 0).trans ((congrFun (gU_k (by decide)) 0).trans ((congrFun (congrFun est_10 19) 0).trans ((congrFun (gU_k (by decide)) 0).trans ((congrFun (congrFun est_5 19) 0).trans ((congrFun (gU_k (by decide)) 0).trans rfl))))))))))))))))), ((congrFun (congrFun est_29 20) 0).trans ((congrFun (gU_k (by decide)) 0).trans ((congrFun (congrFun est_25 20) 0).trans ((congrFun (gU_k (by decide)) 0).trans ((congrFun (congrFun est_22 20) 0).trans ((gU_at _ _ _ _ _).trans (congrArg (fun f9 => upd f9 ((st 0 0 37).toNatClampNeg) (0 : Int32)) ((congrFun (congrFun est_19 20) 0).trans ((congrFun (gU_k (by decide)) 0).trans ((congrFun (congrFun est_16 20) 0).trans ((congrFun (gU_k (by decide)) 0).trans ((congrFun (congrFun est_13 20) 0).trans ((congrFun (gU_k (by decide)) 0).trans ((congrFun (congrFun est_10 20) 0).trans ((congrFun (gU_k (by decide)) 0).trans ((congrFun (congrFun est_5 20) 0).trans ((congrFun (gU_k (by decide)) 0).trans rfl))))))))))))))))), ((congrFun (congrFun est_29 21) 0).trans ((congrFun (gU_k (by decide)) 0).trans ((congrFun (congrFun est_25 21) 0).trans ((gU_at _ _ _ _ _).trans (congrArg (fun f9 => upd f9 ((st 0 0 37).toNatClampNeg) ((-1) : Int32)) ((congrFun (congrFun est_22 21) 0).trans ((congrFun (gU_k (by decide)) 0).trans ((congrFun (congrFun est_19 21) 0).trans ((congrFun (gU_k (by decide)) 0).trans ((congrFun (congrFun est_16 21) 0).trans ((congrFun (gU_k (by decide)) 0).trans ((congrFun (congrFun est_13 21) 0).trans ((congrFun (gU_k (by decide)) 0).trans ((congrFun (congrFun est_10 21) 0).trans ((congrFun (gU_k (by decide)) 0).trans ((congrFun (congrFun est_5 21) 0).trans ((congrFun (gU_k (by decide)) 0).trans rfl))))))))))))))))), (by have hl0 : (0 : Int32).toInt = 0 := (by decide); have hq1 : (st_29 0 0 37).toInt = (x_28 : Int32).toInt := congrArg Int32.toInt (((congrFun (congrFun (congrFun est_29 0) 0) 37).trans (gU_same _ _ _ _ _))); have hb2 : (0 : Int) ≤ (st_29 0 0 37).toInt ∧ (st_29 0 0 37).toInt ≤ (300 : Int) := hB_st_29.1 0 0 37; have hb3 : (0 : Int) ≤ (st 0 0 37).toInt ∧ (st 0 0 37).toInt ≤ (300 : Int) := hB_st.1 0 0 37; omega)⟩⟩)⟩ (by exact Nat.le_refl _) (by exact Nat.le_refl _) dX10_drawn_117
  · have ic_2 := gz_nle (rfl : w.toInt = w.toInt) (rfl : x_1.toInt = x_1.toInt) c_2
    have lc_2 := gi_hi w
    refine lv_iconst (v := 4) hx hb dX10_drawn_10 (by decide) ?_
    exact gs_iret hx hb hr hlocks hM hS rfl ⟨hB_st, (Or.inl ⟨rfl, by omega, rfl⟩)⟩ (by exact Nat.le_refl _) (by exact Nat.le_refl _) dX10_drawn_11

set_option maxHeartbeats 4000000 in
set_option maxRecDepth 100000 in
/-- WellCourtModel.draw -/
theorem m_draw (l : Launch) (G : va_G) (cy : Nat → ClassId) (sK sV : Nat → Nat) (ad : Nat → Nat → Nat) (sz : Nat) (st : gS) (hB : gBd bM st) (x : Int32) (y : Int32) (w : Int32) (Xx : Int) (Xy : Int) (Xw : Int) (kx : x.toInt = Xx) (ky : y.toInt = Xy) (kw : w.toInt = Xw) (rs : List Rl) (bk : Nat) (hbk : (st 0 0 28).toInt = (bk : Int)) (hru : (st 0 0 29).toInt = (rs.length : Int)) (hLM : LM rs st bk) (hwf : ∀ r ∈ rs, wfR r) : gsMi l yX10_draw cX10_draw 7 (some .int) ({ frames := 2, cells := 0, slots := 0, locals := 51 } : Room) G cy sK sV (shM cy ad) cnM ad sz [.ref (ad 0 0), .int x, .int y, .int w] st (fun (r : Int32) (u : gS) => gBN bM kM [0, 37, 400, 1600, 1700, 1800, 1900, 2000, 2100] st u ∧ (((¬ (0 ≤ Xx ∧ Xx ≤ 5 ∧ ¬ (st 1 0 x.toNatClampNeg).toInt = 0 ∧ 0 ≤ Xy ∧ Xy ≤ 5 ∧ 1 ≤ Xw ∧ Xw ≤ 1000 ∧ (st 0 0 37).toInt < 300) ∧ r.toInt = 1 ∧ frM st u) ∨ ((0 ≤ Xx ∧ Xx ≤ 5 ∧ ¬ (st 1 0 x.toNatClampNeg).toInt = 0 ∧ 0 ≤ Xy ∧ Xy ≤ 5 ∧ 1 ≤ Xw ∧ Xw ≤ 1000 ∧ (st 0 0 37).toInt < 300) ∧ ¬ (rtM rs (fun a9 => (st 6 0 (200 * a9 + (st 0 0 7).toNatClampNeg)).toInt) (fun a9 => (st 1 0 a9).toInt) (fun a9 => (st 5 0 a9).toInt) x.toNatClampNeg Xy) ∧ gstT rs Xy Xx (st 6 0 (200 * x.toNatClampNeg + (st 0 0 7).toNatClampNeg)).toInt = -1 ∧ r.toInt = 2 ∧ frM st u) ∨ ((0 ≤ Xx ∧ Xx ≤ 5 ∧ ¬ (st 1 0 x.toNatClampNeg).toInt = 0 ∧ 0 ≤ Xy ∧ Xy ≤ 5 ∧ 1 ≤ Xw ∧ Xw ≤ 1000 ∧ (st 0 0 37).toInt < 300) ∧ ¬ (rtM rs (fun a9 => (st 6 0 (200 * a9 + (st 0 0 7).toNatClampNeg)).toInt) (fun a9 => (st 1 0 a9).toInt) (fun a9 => (st 5 0 a9).toInt) x.toNatClampNeg Xy) ∧ 0 ≤ gstT rs Xy Xx (st 6 0 (200 * x.toNatClampNeg + (st 0 0 7).toNatClampNeg)).toInt ∧ gstT rs Xy Xx (st 6 0 (200 * x.toNatClampNeg + (st 0 0 7).toNatClampNeg)).toInt < (w + sW (pGd (st 16 0) (st 17 0) (st 18 0) (st 20 0) (st 0 0 7).toInt Xx Xy) (st 19 0) (st 0 0 37).toNatClampNeg).toInt ∧ r.toInt = 3 ∧ frM st u) ∨ ((0 ≤ Xx ∧ Xx ≤ 5 ∧ ¬ (st 1 0 x.toNatClampNeg).toInt = 0 ∧ 0 ≤ Xy ∧ Xy ≤ 5 ∧ 1 ≤ Xw ∧ Xw ≤ 1000 ∧ (st 0 0 37).toInt < 300) ∧ ((rtM rs (fun a9 => (st 6 0 (200 * a9 + (st 0 0 7).toNatClampNeg)).toInt) (fun a9 => (st 1 0 a9).toInt) (fun a9 => (st 5 0 a9).toInt) x.toNatClampNeg Xy) ∨ (0 ≤ gstT rs Xy Xx (st 6 0 (200 * x.toNatClampNeg + (st 0 0 7).toNatClampNeg)).toInt ∧ (w + sW (pGd (st 16 0) (st 17 0) (st 18 0) (st 20 0) (st 0 0 7).toInt Xx Xy) (st 19 0) (st 0 0 37).toNatClampNeg).toInt ≤ gstT rs Xy Xx (st 6 0 (200 * x.toNatClampNeg + (st 0 0 7).toNatClampNeg)).toInt)) ∧ (st 4 0 x.toNatClampNeg).toInt < Xw ∧ r.toInt = 4 ∧ frM st u) ∨ ((0 ≤ Xx ∧ Xx ≤ 5 ∧ ¬ (st 1 0 x.toNatClampNeg).toInt = 0 ∧ 0 ≤ Xy ∧ Xy ≤ 5 ∧ 1 ≤ Xw ∧ Xw ≤ 1000 ∧ (st 0 0 37).toInt < 300) ∧ ((rtM rs (fun a9 => (st 6 0 (200 * a9 + (st 0 0 7).toNatClampNeg)).toInt) (fun a9 => (st 1 0 a9).toInt) (fun a9 => (st 5 0 a9).toInt) x.toNatClampNeg Xy) ∨ (0 ≤ gstT rs Xy Xx (st 6 0 (200 * x.toNatClampNeg + (st 0 0 7).toNatClampNeg)).toInt ∧ (w + sW (pGd (st 16 0) (st 17 0) (st 18 0) (st 20 0) (st 0 0 7).toInt Xx Xy) (st 19 0) (st 0 0 37).toNatClampNeg).toInt ≤ gstT rs Xy Xx (st 6 0 (200 * x.toNatClampNeg + (st 0 0 7).toNatClampNeg)).toInt)) ∧ Xw ≤ (st 4 0 x.toNatClampNeg).toInt ∧ r.toInt = 0 ∧ enM st u x y w 1 (st 0 0 7))))) := by
  refine gs_start (fun A => gsQi G (shM cy ad) cnM ad _ A) (by decide) (Nat.le_of_ble_eq_true rfl) ?_
  intro p e s m below meth c A ls H hx hb hr hml hlocks hown hts hK hov hE hI hM hm hS hA hl
  have hl : lv_has ls 7 [(0, .ref (ad 0 0)), (1, .int x), (2, .int y), (3, .int w)] := hl
  have hB_st : gBN bM kM [0, 37, 400, 1600, 1700, 1800, 1900, 2000, 2100] st st := gBN.rf hB
  have b37 : (0 : Int) ≤ (st 0 0 37).toInt ∧ (st 0 0 37).toInt ≤ (300 : Int) := hB 0 0 37
  generalize hQe : MQ below _ _ s _ _ A = Q
  refine lv_aload_n hx hb dX10_draw_0 rfl (lv_at hl 0 rfl) ?_
  refine lv_iconst (v := 0) hx hb dX10_draw_1 (by decide) ?_
  refine gs_put (C := RX10) (T := TX10) (N := 59) (ty := .int) (val := .int 0) hx hb hts inX10 tyX10 tyX10_ok nmX10 hown hK hI hm hM hS 0 0 0 (by decide) rfl rfl (by decide) (hts _ gm_901) (fun _ h9 => h9) rfl (0 : Int32) rfl (by decide +kernel) rfl rfl (Nat.le_of_ble_eq_true rfl) dX10_draw_2 (fun st_1 H locs est_1 hM hS => ?_)
  have hB_st_1 : gBN bM kM [0, 37, 400, 1600, 1700, 1800, 1900, 2000, 2100] st st_1 := by rw [est_1]; exact hB_st.up (show (0 : Nat) ∈ _ from by decide) (gi_lo _) (gi_hi _)
  refine lv_aload_n hx hb dX10_draw_5 rfl (lv_at hl 0 rfl) ?_
  refine lv_iload_n hx hb dX10_draw_6 rfl (lv_at hl 1 rfl) ?_
  refine lv_iload_n hx hb dX10_draw_7 rfl (lv_at hl 2 rfl) ?_
  refine lv_iload_n hx hb dX10_draw_8 rfl (lv_at hl 3 rfl) ?_
  refine gs_calli (va_runV (As := [.int x, .int y, .int w]) (rest := []) ⟨hx, hb, hml, hown, hts⟩ (m_cantDraw l G cy sK sV ad H.size st_1 hB_st_1.1 x y w x.toInt y.toInt w.toInt rfl rfl rfl ) ⟨(gz_cb (n := 3) hts gm_1236 gm_12 gm_1239 ⟨by decide +kernel, by decide +kernel, by decide +kernel⟩ ⟨Nat.le_of_ble_eq_true rfl, Nat.le_of_ble_eq_true rfl⟩), hts _ gm_1238, hts _ gs_54⟩ (gs_preV hK hov hE hI hM hm hS hA 0 0 (by decide) rfl rfl) rfl rfl hl.1 rfl (lv_room (Nat.le_of_ble_eq_true rfl)) dX10_draw_9 ⟨Nat.le_of_ble_eq_true rfl, Nat.le_of_ble_eq_true rfl⟩) hm hS hA (fun r_2 st_2 H locs hw_2 hM hS => ?_)
  obtain ⟨n_2, hw_2⟩ := hw_2
  have n_2 := gBN.nil n_2
  subst n_2
  have hqhw_20 : (st_1 0 0 37).toInt = ((st 0 0 37) : Int32).toInt := congrArg Int32.toInt (((congrFun (congrFun (congrFun est_1 0) 0) 37).trans (gU_other (by decide))))
  have hbhw_21 : (0 : Int) ≤ (st_1 0 0 37).toInt ∧ (st_1 0 0 37).toInt ≤ (300 : Int) := hB_st_1.1 0 0 37
  have hqhw_22 : (st_1 1 0 x.toNatClampNeg).toInt = ((st 1 0 x.toNatClampNeg) : Int32).toInt := congrArg Int32.toInt (((congrFun (congrFun (congrFun est_1 1) 0) x.toNatClampNeg).trans (congrFun (congrFun (gU_k (by decide)) 0) x.toNatClampNeg)))
  rcases hw_2 with ⟨rfl, hw_2_0⟩ | ⟨rfl, hw_2_0, hw_2_1, hw_2_2, hw_2_3, hw_2_4, hw_2_5, hw_2_6, hw_2_7⟩
  · skip
    refine lv_if_eq (tgt := 17) hx hb dX10_draw_12 (by decide) (fun h9 => absurd h9 (by decide)) (fun _ => ?_)
    refine lv_iconst (v := 1) hx hb dX10_draw_15 (by decide) ?_
    rw [← hQe]
    exact gs_iret hx hb hr hlocks hM hS rfl ⟨hB_st_1, (Or.inl (⟨by first | omega | (intro h9; omega), by decide, (frM.up est_1)⟩))⟩ (by exact Nat.le_refl _) (by exact Nat.le_refl _) dX10_draw_16
  · skip
    refine lv_if_eq (tgt := 17) hx hb dX10_draw_12 (by decide) (fun _ => ?_) (fun h9 => absurd (by decide) h9)
    refine lv_aload_n hx hb dX10_draw_17 rfl (lv_at hl 0 rfl) ?_
    refine lv_iload_n hx hb dX10_draw_18 rfl (lv_at hl 1 rfl) ?_
    refine lv_iload_n hx hb dX10_draw_19 rfl (lv_at hl 2 rfl) ?_
    refine gs_calli (va_runV (As := [.int x, .int y]) (rest := []) ⟨hx, hb, hml, hown, hts⟩ (m_isRightNow l G cy sK sV ad H.size st_1 hB_st_1.1 x y x.toInt y.toInt rfl rfl (by first | decide | omega) (by first | decide | omega) rs bk ((congrArg Int32.toInt (((congrFun (congrFun (congrFun est_1 0) 0) 28).trans (gU_other (by decide))))).trans hbk) ((congrArg Int32.toInt (((congrFun (congrFun (congrFun est_1 0) 0) 29).trans (gU_other (by decide))))).trans hru) (LM.all hLM (mA.trans mA.rf (mA.upk est_1 (by decide)))) hwf) ⟨(gz_cb (n := 2) hts gm_1216 gm_12 gm_1219 ⟨by decide +kernel, by decide +kernel, by decide +kernel⟩ ⟨Nat.le_of_ble_eq_true rfl, Nat.le_of_ble_eq_true rfl⟩), hts _ gm_1218, hts _ gs_51⟩ (gs_preV hK hov hE hI hM hm hS hA 0 0 (by decide) rfl rfl) rfl rfl hl.1 rfl (lv_room (Nat.le_of_ble_eq_true rfl)) dX10_draw_20 ⟨Nat.le_of_ble_eq_true rfl, Nat.le_of_ble_eq_true rfl⟩) hm hS hA (fun r_3 st_3 H locs hw_3 hM hS => ?_)
    obtain ⟨n_3, hw_3⟩ := hw_3
    have n_3 := gBN.nil n_3
    subst n_3
    have hqhw_30 : (st_1 0 0 7).toInt = ((st 0 0 7) : Int32).toInt := congrArg Int32.toInt (((congrFun (congrFun (congrFun est_1 0) 0) 7).trans (gU_other (by decide))))
    have hbhw_31 : (0 : Int) ≤ (st_1 0 0 7).toInt ∧ (st_1 0 0 7).toInt ≤ (199 : Int) := hB_st_1.1 0 0 7
    rcases hw_3 with ⟨rfl, hw_3_0⟩ | ⟨rfl, hw_3_0⟩
    · skip
      refine lv_if_ne (tgt := 139) hx hb dX10_draw_23 (by decide) (fun _ => ?_) (fun h9 => absurd h9 (by decide))
      refine lv_aload_n hx hb dX10_draw_139 rfl (lv_at hl 0 rfl) ?_
      refine lv_iload_n hx hb dX10_draw_140 rfl (lv_at hl 1 rfl) ?_
      refine lv_iload_n hx hb dX10_draw_141 rfl (lv_at hl 2 rfl) ?_
      refine lv_iload_n hx hb dX10_draw_142 rfl (lv_at hl 3 rfl) ?_
      refine lv_iconst (v := 1) hx hb dX10_draw_143 (by decide) ?_
      refine gs_calli (va_runV (As := [.int x, .int y, .int w, .int 1]) (rest := []) ⟨hx, hb, hml, hown, hts⟩ (m_enter1 l G cy sK sV ad H.size st_1 hB_st_1.1 x y w x.toInt y.toInt w.toInt rfl rfl rfl (by first | decide | omega) (by first | decide | omega) (by have hq0 : (st_1 0 0 37).toInt = ((st 0 0 37) : Int32).toInt := congrArg Int32.toInt (((congrFun (congrFun (congrFun est_1 0) 0) 37).trans (gU_other (by decide)))); have hb1 : (0 : Int) ≤ (st_1 0 0 37).toInt ∧ (st_1 0 0 37).toInt ≤ (300 : Int) := hB_st_1.1 0 0 37; omega)) ⟨(gz_cb (n := 4) hts gm_1240 gm_12 gm_1243 ⟨by decide +kernel, by decide +kernel, by decide +kernel⟩ ⟨Nat.le_of_ble_eq_true rfl, Nat.le_of_ble_eq_true rfl⟩), hts _ gm_1242, hts _ gs_55⟩ (gs_preV hK hov hE hI hM hm hS hA 0 0 (by decide) rfl rfl) rfl rfl hl.1 rfl (lv_room (Nat.le_of_ble_eq_true rfl)) dX10_draw_144 ⟨Nat.le_of_ble_eq_true rfl, Nat.le_of_ble_eq_true rfl⟩) hm hS hA (fun r_4 st_4 H locs hw_4 hM hS => ?_)
      obtain ⟨n_4, hw_4⟩ := hw_4
      have hB_st_4 : gBN bM kM [0, 37, 400, 1600, 1700, 1800, 1900, 2000, 2100] st st_4 := hB_st_1.call n_4 (by decide)
      have hqhw_40 : (st_1 4 0 x.toNatClampNeg).toInt = ((st 4 0 x.toNatClampNeg) : Int32).toInt := congrArg Int32.toInt (((congrFun (congrFun (congrFun est_1 4) 0) x.toNatClampNeg).trans (congrFun (congrFun (gU_k (by decide)) 0) x.toNatClampNeg)))
      rcases hw_4 with ⟨rfl, hw_4_0, hw_4_1⟩ | ⟨rfl, hw_4_0, hw_4_1⟩
      · skip
        rw [← hQe]
        exact gs_iret hx hb hr hlocks hM hS rfl ⟨hB_st_4, (by exact Or.inr (Or.inr (Or.inr (Or.inl (⟨⟨by omega, by omega, by omega, by omega, by omega, by omega, by omega, by omega⟩, Or.inl (((rtM.fr (frM.up est_1)).mp (by have h9 := hw_3_0; rw [ky] at h9; exact h9))), (by have h9 := hw_4_0; rw [((frM.up est_1)).row (k := 4) (i := 0) (by decide)] at h9; omega), by decide, (by rw [hw_4_1]; exact (frM.up est_1))⟩)))))⟩ (by exact Nat.le_refl _) (by exact Nat.le_refl _) dX10_draw_147
      · skip
        rw [← hQe]
        exact gs_iret hx hb hr hlocks hM hS rfl ⟨hB_st_4, (by exact Or.inr (Or.inr (Or.inr (Or.inr (⟨⟨by omega, by omega, by omega, by omega, by omega, by omega, by omega, by omega⟩, Or.inl (((rtM.fr (frM.up est_1)).mp (by have h9 := hw_3_0; rw [ky] at h9; exact h9))), (by have h9 := hw_4_0; rw [((frM.up est_1)).row (k := 4) (i := 0) (by decide)] at h9; omega), by decide, (by have h9 := enM.fr hw_4_1 (frM.up est_1); rw [((frM.up est_1)) 0 0 7 (by decide)] at h9; exact h9)⟩)))))⟩ (by exact Nat.le_refl _) (by exact Nat.le_refl _) dX10_draw_147
    · skip
      refine lv_if_ne (tgt := 139) hx hb dX10_draw_23 (by decide) (fun h9 => absurd (by decide) h9) (fun _ => ?_)
      refine lv_aload_n hx hb dX10_draw_26 rfl (lv_at hl 0 rfl) ?_
      refine lv_iload_n hx hb dX10_draw_27 rfl (lv_at hl 1 rfl) ?_
      refine lv_iload_n hx hb dX10_draw_28 rfl (lv_at hl 2 rfl) ?_
      refine gs_calli (va_runV (As := [.int x, .int y]) (rest := []) ⟨hx, hb, hml, hown, hts⟩ (m_guestRule l G cy sK sV ad H.size st_1 hB_st_1.1 x y x.toInt y.toInt rfl rfl (by first | decide | omega) (by first | decide | omega) rs bk ((congrArg Int32.toInt (((congrFun (congrFun (congrFun est_1 0) 0) 28).trans (gU_other (by decide))))).trans hbk) ((congrArg Int32.toInt (((congrFun (congrFun (congrFun est_1 0) 0) 29).trans (gU_other (by decide))))).trans hru) (LM.all hLM (mA.trans mA.rf (mA.upk est_1 (by decide)))) hwf) ⟨(gz_cb (n := 2) hts gm_1224 gm_12 gm_1227 ⟨by decide +kernel, by decide +kernel, by decide +kernel⟩ ⟨Nat.le_of_ble_eq_true rfl, Nat.le_of_ble_eq_true rfl⟩), hts _ gm_1226, hts _ gs_53⟩ (gs_preV hK hov hE hI hM hm hS hA 0 0 (by decide) rfl rfl) rfl rfl hl.1 rfl (lv_room (Nat.le_of_ble_eq_true rfl)) dX10_draw_29 ⟨Nat.le_of_ble_eq_true rfl, Nat.le_of_ble_eq_true rfl⟩) hm hS hA (fun r_5 st_5 H locs hw_5 hM hS => ?_)
      obtain ⟨n_5, hw_5⟩ := hw_5
      have n_5 := gBN.nil n_5
      subst n_5
      have hqhw_50 : (st_1 12 0 r_5.toNatClampNeg).toInt = ((st 12 0 r_5.toNatClampNeg) : Int32).toInt := congrArg Int32.toInt (((congrFun (congrFun (congrFun est_1 12) 0) r_5.toNatClampNeg).trans (congrFun (congrFun (gU_k (by decide)) 0) r_5.toNatClampNeg)))
      have hw_5_0 := hw_5
      refine lv_istore (lv' := [(4, .int r_5), (0, .ref (ad 0 0)), (1, .int x), (2, .int y), (3, .int w)]) hx hb dX10_draw_32 hl (by decide) rfl (fun ls hl => ?_)
      refine lv_iload hx hb dX10_draw_34 (lv_at hl 0 rfl) ?_
      refine lv_if_ge (tgt := 41) hx hb dX10_draw_36 (by decide) (fun c_6 => ?_) (fun c_6 => ?_)
      · have ic_6 := gz_le (by decide : (0 : Int32).toInt = 0) (rfl : r_5.toInt = r_5.toInt) c_6
        refine lv_iload_n hx hb dX10_draw_41 rfl (lv_at hl 4 rfl) ?_
        refine lv_istore (lv' := [(5, .int w), (4, .int r_5), (0, .ref (ad 0 0)), (1, .int x), (2, .int y), (3, .int w)]) hx hb dX10_draw_42 hl (by decide) rfl (fun ls hl => ?_)
        refine lv_iconst (v := 0) hx hb dX10_draw_44 (by decide) ?_
        refine lv_istore (lv' := [(6, .int 0), (5, .int w), (4, .int r_5), (0, .ref (ad 0 0)), (1, .int x), (2, .int y), (3, .int w)]) hx hb dX10_draw_45 hl (by decide) rfl (fun ls hl => ?_)
        have lp7 : ∀ (n7 : Nat)  (y7_0 : Int32) (y7_1 : Int32) (H : Heap) (locs : List Loc) (ls : Array Slot), (300 - y7_1.toInt).toNat < n7 →  (0 ≤ y7_1.toInt) → (y7_0 = w + sW (pGd (st 16 0) (st 17 0) (st 18 0) (st 20 0) (st 0 0 7).toInt Xx Xy) (st 19 0) y7_1.toNatClampNeg) → (y7_1.toInt ≤ (st 0 0 37).toInt) → gM G (shM cy ad) cnM ad st_1 H → va_S A s.heap H locs → lv_has ls 7 [(6, .int y7_1), (5, .int y7_0), (4, .int r_5), (0, .ref (ad 0 0)), (1, .int x), (2, .int y), (3, .int w)] → W p l e ({ frames := 2, cells := 0, slots := 0, locals := 51 } : Room) s m [.ref (ad 0 0), .int x, .int y, .int w].toArray below meth c H locs 0 0 Q (F0 m 47 ls []) := by
          intro n7
          induction n7 with
          | zero => intro  y7_0 y7_1 H locs ls h9; exact absurd h9 (Nat.not_lt_zero _)
          | succ n7 ih_7 =>
            intro  y7_0 y7_1 H locs ls hme7  hv7_0 hv7_1 hv7_2 hM hS hl
            have hb7_0 : (0 : Int) ≤ (st 0 0 7).toInt ∧ (st 0 0 7).toInt ≤ (199 : Int) := hB_st.1 0 0 7
            have hb7_1 : (0 : Int) ≤ (st 0 0 37).toInt ∧ (st 0 0 37).toInt ≤ (300 : Int) := hB_st.1 0 0 37
            refine lv_iload hx hb dX10_draw_47 (lv_at hl 0 rfl) ?_
            refine lv_aload_n hx hb dX10_draw_49 rfl (lv_at hl 3 rfl) ?_
            refine gs_get (C := RX10) (T := TX10) (N := 59) hx hb hts inX10 hown hK hM 0 0 37 (by decide) rfl rfl (by decide) (hts _ gm_938) (fun _ h9 => h9) rfl dX10_draw_50 ?_
            refine lv_topi (fun x_8 ex_8 => ?_)
            have ex_8 : (st 0 0 37) = x_8 := Eq.symm (ex_8.trans ((congrFun (congrFun (congrFun est_1 0) 0) 37).trans (gU_other (by decide))))
            subst ex_8
            have bf_9 : (0 : Int) ≤ (st 0 0 37).toInt ∧ (st 0 0 37).toInt ≤ (300 : Int) := hB_st.1 0 0 37
            refine lv_icmp_ge (tgt := 125) hx hb dX10_draw_53 (by decide) (fun c_10 => ?_) (fun c_10 => ?_)
            · have ic_10 := gz_le (rfl : (st 0 0 37).toInt = (st 0 0 37).toInt) (rfl : y7_1.toInt = y7_1.toInt) c_10
              refine lv_iload hx hb dX10_draw_125 (lv_at hl 1 rfl) ?_
              refine lv_aload_n hx hb dX10_draw_127 rfl (lv_at hl 3 rfl) ?_
              refine gs_get (C := RX10) (T := TX10) (N := 59) hx hb hts inX10 hown hK hM 0 0 24 (by decide) rfl rfl (by decide) (hts _ gm_925) (fun _ h9 => h9) rfl dX10_draw_128 ?_
              refine lv_iload hx hb dX10_draw_131 (lv_at hl 2 rfl) ?_
              refine gs_iald hx hb hK hM 12 0 (by decide) rfl (vp_in_iff.mpr ⟨by omega, by omega⟩) dX10_draw_133 ?_
              refine lv_topi (fun x_11 ex_11 => ?_)
              have qx_11 : x_11.toInt = (st_1 12 0 (r_5.toNatClampNeg)).toInt := congrArg Int32.toInt ex_11
              have rx_11 : x_11.toInt = ((st 12 0 (r_5.toNatClampNeg)) : Int32).toInt := by rw [ex_11]; exact congrArg Int32.toInt (((congrFun (congrFun (congrFun est_1 12) 0) (r_5.toNatClampNeg)).trans (congrFun (congrFun (gU_k (by decide)) 0) (r_5.toNatClampNeg))))
              refine lv_icmp_le (tgt := 139) hx hb dX10_draw_134 (by decide) (fun c_12 => ?_) (fun c_12 => ?_)
              · have ic_12 := gz_le (rfl : y7_0.toInt = y7_0.toInt) (rfl : x_11.toInt = x_11.toInt) c_12
                refine lv_aload_n hx hb dX10_draw_139 rfl (lv_at hl 3 rfl) ?_
                refine lv_iload_n hx hb dX10_draw_140 rfl (lv_at hl 4 rfl) ?_
                refine lv_iload_n hx hb dX10_draw_141 rfl (lv_at hl 5 rfl) ?_
                refine lv_iload_n hx hb dX10_draw_142 rfl (lv_at hl 6 rfl) ?_
                refine lv_iconst (v := 1) hx hb dX10_draw_143 (by decide) ?_
                refine gs_calli (va_runV (As := [.int x, .int y, .int w, .int 1]) (rest := []) ⟨hx, hb, hml, hown, hts⟩ (m_enter1 l G cy sK sV ad H.size st_1 hB_st_1.1 x y w x.toInt y.toInt w.toInt rfl rfl rfl (by first | decide | omega) (by first | decide | omega) (by have hq0 : (st_1 0 0 37).toInt = ((st 0 0 37) : Int32).toInt := congrArg Int32.toInt (((congrFun (congrFun (congrFun est_1 0) 0) 37).trans (gU_other (by decide)))); have hb1 : (0 : Int) ≤ (st_1 0 0 37).toInt ∧ (st_1 0 0 37).toInt ≤ (300 : Int) := hB_st_1.1 0 0 37; omega)) ⟨(gz_cb (n := 4) hts gm_1240 gm_12 gm_1243 ⟨by decide +kernel, by decide +kernel, by decide +kernel⟩ ⟨Nat.le_of_ble_eq_true rfl, Nat.le_of_ble_eq_true rfl⟩), hts _ gm_1242, hts _ gs_55⟩ (gs_preV hK hov hE hI hM hm hS hA 0 0 (by decide) rfl rfl) rfl rfl hl.1 rfl (lv_room (Nat.le_of_ble_eq_true rfl)) dX10_draw_144 ⟨Nat.le_of_ble_eq_true rfl, Nat.le_of_ble_eq_true rfl⟩) hm hS hA (fun r_13 st_13 H locs hw_13 hM hS => ?_)
                obtain ⟨n_13, hw_13⟩ := hw_13
                have hB_st_13 : gBN bM kM [0, 37, 400, 1600, 1700, 1800, 1900, 2000, 2100] st st_13 := hB_st_1.call n_13 (by decide)
                have hqhw_130 : (st_1 4 0 x.toNatClampNeg).toInt = ((st 4 0 x.toNatClampNeg) : Int32).toInt := congrArg Int32.toInt (((congrFun (congrFun (congrFun est_1 4) 0) x.toNatClampNeg).trans (congrFun (congrFun (gU_k (by decide)) 0) x.toNatClampNeg)))
                rcases hw_13 with ⟨rfl, hw_13_0, hw_13_1⟩ | ⟨rfl, hw_13_0, hw_13_1⟩
                · skip
                  rw [← hQe]
                  exact gs_iret hx hb hr hlocks hM hS rfl ⟨hB_st_13, (by have h8 := hw_5_0; rw [kx, ky] at h8; rw [frM.own (frM.up est_1), ((frM.up est_1)).row (k := 12) (i := 0) (by decide)] at h8; have h7 : y7_0 = (w + sW (pGd (st 16 0) (st 17 0) (st 18 0) (st 20 0) (st 0 0 7).toInt Xx Xy) (st 19 0) (st 0 0 37).toNatClampNeg) := (by have h6 := hv7_1; rw [show y7_1.toNatClampNeg = (st 0 0 37).toNatClampNeg by (have c1 := gs_cl (x := y7_1) (by omega); have c2 := gs_cl (x := st 0 0 37) (by omega); omega)] at h6; exact h6); exact Or.inr (Or.inr (Or.inr (Or.inl (⟨⟨by omega, by omega, by omega, by omega, by omega, by omega, by omega, by omega⟩, Or.inr ⟨by omega, by rw [← h7]; omega⟩, (by have h9 := hw_13_0; rw [((frM.up est_1)).row (k := 4) (i := 0) (by decide)] at h9; omega), by decide, (by rw [hw_13_1]; exact (frM.up est_1))⟩)))))⟩ (by exact Nat.le_refl _) (by exact Nat.le_refl _) dX10_draw_147
                · skip
                  rw [← hQe]
                  exact gs_iret hx hb hr hlocks hM hS rfl ⟨hB_st_13, (by have h8 := hw_5_0; rw [kx, ky] at h8; rw [frM.own (frM.up est_1), ((frM.up est_1)).row (k := 12) (i := 0) (by decide)] at h8; have h7 : y7_0 = (w + sW (pGd (st 16 0) (st 17 0) (st 18 0) (st 20 0) (st 0 0 7).toInt Xx Xy) (st 19 0) (st 0 0 37).toNatClampNeg) := (by have h6 := hv7_1; rw [show y7_1.toNatClampNeg = (st 0 0 37).toNatClampNeg by (have c1 := gs_cl (x := y7_1) (by omega); have c2 := gs_cl (x := st 0 0 37) (by omega); omega)] at h6; exact h6); exact Or.inr (Or.inr (Or.inr (Or.inr (⟨⟨by omega, by omega, by omega, by omega, by omega, by omega, by omega, by omega⟩, Or.inr ⟨by omega, by rw [← h7]; omega⟩, (by have h9 := hw_13_0; rw [((frM.up est_1)).row (k := 4) (i := 0) (by decide)] at h9; omega), by decide, (by have h9 := enM.fr hw_13_1 (frM.up est_1); rw [((frM.up est_1)) 0 0 7 (by decide)] at h9; exact h9)⟩)))))⟩ (by exact Nat.le_refl _) (by exact Nat.le_refl _) dX10_draw_147
              · have ic_12 := gz_nle (rfl : y7_0.toInt = y7_0.toInt) (rfl : x_11.toInt = x_11.toInt) c_12
                have lc_12 := gi_hi y7_0
                refine lv_iconst (v := 3) hx hb dX10_draw_137 (by decide) ?_
                rw [← hQe]
                exact gs_iret hx hb hr hlocks hM hS rfl ⟨hB_st_1, (by have h8 := hw_5_0; rw [kx, ky] at h8; rw [frM.own (frM.up est_1), ((frM.up est_1)).row (k := 12) (i := 0) (by decide)] at h8; have h7 : y7_0 = (w + sW (pGd (st 16 0) (st 17 0) (st 18 0) (st 20 0) (st 0 0 7).toInt Xx Xy) (st 19 0) (st 0 0 37).toNatClampNeg) := (by have h6 := hv7_1; rw [show y7_1.toNatClampNeg = (st 0 0 37).toNatClampNeg by (have c1 := gs_cl (x := y7_1) (by omega); have c2 := gs_cl (x := st 0 0 37) (by omega); omega)] at h6; exact h6); exact Or.inr (Or.inr (Or.inl (⟨⟨by omega, by omega, by omega, by omega, by omega, by omega, by omega, by omega⟩, (fun h7 => absurd ((rtM.fr (frM.up est_1)).mpr h7) (by have h9 := hw_3_0; rw [ky] at h9; exact h9)), by omega, by rw [← h7]; omega, by decide, (frM.up est_1)⟩))))⟩ (by exact Nat.le_refl _) (by exact Nat.le_refl _) dX10_draw_138
            · have ic_10 := gz_nle (rfl : (st 0 0 37).toInt = (st 0 0 37).toInt) (rfl : y7_1.toInt = y7_1.toInt) c_10
              have lc_10 := gi_hi (st 0 0 37)
              refine lv_iload hx hb dX10_draw_56 (lv_at hl 1 rfl) ?_
              refine lv_aload_n hx hb dX10_draw_58 rfl (lv_at hl 3 rfl) ?_
              refine gs_get (C := RX10) (T := TX10) (N := 59) hx hb hts inX10 hown hK hM 0 0 31 (by decide) rfl rfl (by decide) (hts _ gm_932) (fun _ h9 => h9) rfl dX10_draw_59 ?_
              refine lv_iload hx hb dX10_draw_62 (lv_at hl 0 rfl) ?_
              refine gs_iald hx hb hK hM 16 0 (by decide) rfl (vp_in_iff.mpr ⟨by omega, by omega⟩) dX10_draw_64 ?_
              refine lv_topi (fun x_14 ex_14 => ?_)
              have qx_14 : x_14.toInt = (st_1 16 0 (y7_1.toNatClampNeg)).toInt := congrArg Int32.toInt ex_14
              have rx_14 : x_14.toInt = ((st 16 0 (y7_1.toNatClampNeg)) : Int32).toInt := by rw [ex_14]; exact congrArg Int32.toInt (((congrFun (congrFun (congrFun est_1 16) 0) (y7_1.toNatClampNeg)).trans (congrFun (congrFun (gU_k (by decide)) 0) (y7_1.toNatClampNeg))))
              refine lv_aload_n hx hb dX10_draw_65 rfl (lv_at hl 3 rfl) ?_
              refine gs_get (C := RX10) (T := TX10) (N := 59) hx hb hts inX10 hown hK hM 0 0 7 (by decide) rfl rfl (by decide) (hts _ gm_908) (fun _ h9 => h9) rfl dX10_draw_66 ?_
              refine lv_topi (fun x_15 ex_15 => ?_)
              have ex_15 : (st 0 0 7) = x_15 := Eq.symm (ex_15.trans ((congrFun (congrFun (congrFun est_1 0) 0) 7).trans (gU_other (by decide))))
              subst ex_15
              have bf_16 : (0 : Int) ≤ (st 0 0 7).toInt ∧ (st 0 0 7).toInt ≤ (199 : Int) := hB_st.1 0 0 7
              refine lv_icmp_ne (tgt := 115) hx hb dX10_draw_69 (by decide) (fun c_17 => ?_) (fun c_17 => ?_)
              · have ic_17 := gz_ne (rfl : x_14.toInt = x_14.toInt) (rfl : (st 0 0 7).toInt = (st 0 0 7).toInt) c_17
                refine lv_iconst (v := 0) hx hb dX10_draw_115 (by decide) ?_
                refine lv_iadd hx hb dX10_draw_116 ?_
                refine lv_topi (fun x_18 ex_18 => ?_)
                refine lv_istore (lv' := [(5, .int x_18), (6, .int y7_1), (4, .int r_5), (0, .ref (ad 0 0)), (1, .int x), (2, .int y), (3, .int w)]) hx hb dX10_draw_117 hl (by decide) rfl (fun ls hl => ?_)
                obtain ⟨x_19, ex_19⟩ : ∃ y : Int32, y = y7_1 + 1 := ⟨_, rfl⟩
                try have tx_19 : x_19.toInt = y7_1.toInt + 1 := by rw [ex_19]; exact gz_addP (x := y7_1.toInt) (y := 1) rfl (by decide) (by omega) (by omega)
                refine lv_iinc (v := (x_19)) (lv' := [(6, .int x_19), (5, .int x_18), (4, .int r_5), (0, .ref (ad 0 0)), (1, .int x), (2, .int y), (3, .int w)]) hx hb dX10_draw_119 hl (k := 1) rfl (by rw [ex_19]; rfl) (by decide) rfl (fun ls hl => ?_)
                refine lv_goto (tgt := 47) hx hb dX10_draw_122 (by decide) ?_
                exact ih_7  (x_18 : Int32) (x_19 : Int32) H _ ls (by omega)  (by omega) (sW.from0 hv7_1 (by omega) (by omega) (pGd_f (by omega)) ex_18) (by have hb0 : (0 : Int) ≤ (st 0 0 37).toInt ∧ (st 0 0 37).toInt ≤ (300 : Int) := hB_st.1 0 0 37; omega) hM hS (lv_sub hl [0, 1, 2, 3, 4, 5, 6] rfl)
              · have ic_17 := gz_eqn (rfl : x_14.toInt = x_14.toInt) (rfl : (st 0 0 7).toInt = (st 0 0 7).toInt) c_17
                refine lv_aload_n hx hb dX10_draw_72 rfl (lv_at hl 3 rfl) ?_
                refine gs_get (C := RX10) (T := TX10) (N := 59) hx hb hts inX10 hown hK hM 0 0 32 (by decide) rfl rfl (by decide) (hts _ gm_933) (fun _ h9 => h9) rfl dX10_draw_73 ?_
                refine lv_iload hx hb dX10_draw_76 (lv_at hl 0 rfl) ?_
                refine gs_iald hx hb hK hM 17 0 (by decide) rfl (vp_in_iff.mpr ⟨by omega, by omega⟩) dX10_draw_78 ?_
                refine lv_topi (fun x_20 ex_20 => ?_)
                have qx_20 : x_20.toInt = (st_1 17 0 (y7_1.toNatClampNeg)).toInt := congrArg Int32.toInt ex_20
                have rx_20 : x_20.toInt = ((st 17 0 (y7_1.toNatClampNeg)) : Int32).toInt := by rw [ex_20]; exact congrArg Int32.toInt (((congrFun (congrFun (congrFun est_1 17) 0) (y7_1.toNatClampNeg)).trans (congrFun (congrFun (gU_k (by decide)) 0) (y7_1.toNatClampNeg))))
                refine lv_iload_n hx hb dX10_draw_79 rfl (lv_at hl 4 rfl) ?_
                refine lv_icmp_ne (tgt := 115) hx hb dX10_draw_80 (by decide) (fun c_21 => ?_) (fun c_21 => ?_)
                · have ic_21 := gz_ne (rfl : x_20.toInt = x_20.toInt) (rfl : x.toInt = x.toInt) c_21
                  refine lv_iconst (v := 0) hx hb dX10_draw_115 (by decide) ?_
                  refine lv_iadd hx hb dX10_draw_116 ?_
                  refine lv_topi (fun x_22 ex_22 => ?_)
                  refine lv_istore (lv' := [(5, .int x_22), (6, .int y7_1), (4, .int r_5), (0, .ref (ad 0 0)), (1, .int x), (2, .int y), (3, .int w)]) hx hb dX10_draw_117 hl (by decide) rfl (fun ls hl => ?_)
                  obtain ⟨x_23, ex_23⟩ : ∃ y : Int32, y = y7_1 + 1 := ⟨_, rfl⟩
                  try have tx_23 : x_23.toInt = y7_1.toInt + 1 := by rw [ex_23]; exact gz_addP (x := y7_1.toInt) (y := 1) rfl (by decide) (by omega) (by omega)
                  refine lv_iinc (v := (x_23)) (lv' := [(6, .int x_23), (5, .int x_22), (4, .int r_5), (0, .ref (ad 0 0)), (1, .int x), (2, .int y), (3, .int w)]) hx hb dX10_draw_119 hl (k := 1) rfl (by rw [ex_23]; rfl) (by decide) rfl (fun ls hl => ?_)
                  refine lv_goto (tgt := 47) hx hb dX10_draw_122 (by decide) ?_
                  exact ih_7  (x_22 : Int32) (x_23 : Int32) H _ ls (by omega)  (by omega) (sW.from0 hv7_1 (by omega) (by omega) (pGd_f (by omega)) ex_22) (by have hb0 : (0 : Int) ≤ (st 0 0 37).toInt ∧ (st 0 0 37).toInt ≤ (300 : Int) := hB_st.1 0 0 37; omega) hM hS (lv_sub hl [0, 1, 2, 3, 4, 5, 6] rfl)
                · have ic_21 := gz_eqn (rfl : x_20.toInt = x_20.toInt) (rfl : x.toInt = x.toInt) c_21
                  refine lv_aload_n hx hb dX10_draw_83 rfl (lv_at hl 3 rfl) ?_
                  refine gs_get (C := RX10) (T := TX10) (N := 59) hx hb hts inX10 hown hK hM 0 0 33 (by decide) rfl rfl (by decide) (hts _ gm_934) (fun _ h9 => h9) rfl dX10_draw_84 ?_
                  refine lv_iload hx hb dX10_draw_87 (lv_at hl 0 rfl) ?_
                  refine gs_iald hx hb hK hM 18 0 (by decide) rfl (vp_in_iff.mpr ⟨by omega, by omega⟩) dX10_draw_89 ?_
                  refine lv_topi (fun x_24 ex_24 => ?_)
                  have qx_24 : x_24.toInt = (st_1 18 0 (y7_1.toNatClampNeg)).toInt := congrArg Int32.toInt ex_24
                  have rx_24 : x_24.toInt = ((st 18 0 (y7_1.toNatClampNeg)) : Int32).toInt := by rw [ex_24]; exact congrArg Int32.toInt (((congrFun (congrFun (congrFun est_1 18) 0) (y7_1.toNatClampNeg)).trans (congrFun (congrFun (gU_k (by decide)) 0) (y7_1.toNatClampNeg))))
                  refine lv_iload_n hx hb dX10_draw_90 rfl (lv_at hl 5 rfl) ?_
                  refine lv_icmp_ne (tgt := 115) hx hb dX10_draw_91 (by decide) (fun c_25 => ?_) (fun c_25 => ?_)
                  · have ic_25 := gz_ne (rfl : x_24.toInt = x_24.toInt) (rfl : y.toInt = y.toInt) c_25
                    refine lv_iconst (v := 0) hx hb dX10_draw_115 (by decide) ?_
                    refine lv_iadd hx hb dX10_draw_116 ?_
                    refine lv_topi (fun x_26 ex_26 => ?_)
                    refine lv_istore (lv' := [(5, .int x_26), (6, .int y7_1), (4, .int r_5), (0, .ref (ad 0 0)), (1, .int x), (2, .int y), (3, .int w)]) hx hb dX10_draw_117 hl (by decide) rfl (fun ls hl => ?_)
                    obtain ⟨x_27, ex_27⟩ : ∃ y : Int32, y = y7_1 + 1 := ⟨_, rfl⟩
                    try have tx_27 : x_27.toInt = y7_1.toInt + 1 := by rw [ex_27]; exact gz_addP (x := y7_1.toInt) (y := 1) rfl (by decide) (by omega) (by omega)
                    refine lv_iinc (v := (x_27)) (lv' := [(6, .int x_27), (5, .int x_26), (4, .int r_5), (0, .ref (ad 0 0)), (1, .int x), (2, .int y), (3, .int w)]) hx hb dX10_draw_119 hl (k := 1) rfl (by rw [ex_27]; rfl) (by decide) rfl (fun ls hl => ?_)
                    refine lv_goto (tgt := 47) hx hb dX10_draw_122 (by decide) ?_
                    exact ih_7  (x_26 : Int32) (x_27 : Int32) H _ ls (by omega)  (by omega) (sW.from0 hv7_1 (by omega) (by omega) (pGd_f (by omega)) ex_26) (by have hb0 : (0 : Int) ≤ (st 0 0 37).toInt ∧ (st 0 0 37).toInt ≤ (300 : Int) := hB_st.1 0 0 37; omega) hM hS (lv_sub hl [0, 1, 2, 3, 4, 5, 6] rfl)
                  · have ic_25 := gz_eqn (rfl : x_24.toInt = x_24.toInt) (rfl : y.toInt = y.toInt) c_25
                    refine lv_aload_n hx hb dX10_draw_94 rfl (lv_at hl 3 rfl) ?_
                    refine gs_get (C := RX10) (T := TX10) (N := 59) hx hb hts inX10 hown hK hM 0 0 35 (by decide) rfl rfl (by decide) (hts _ gm_936) (fun _ h9 => h9) rfl dX10_draw_95 ?_
                    refine lv_iload hx hb dX10_draw_98 (lv_at hl 0 rfl) ?_
                    refine gs_iald hx hb hK hM 20 0 (by decide) rfl (vp_in_iff.mpr ⟨by omega, by omega⟩) dX10_draw_100 ?_
                    refine lv_topi (fun x_28 ex_28 => ?_)
                    have qx_28 : x_28.toInt = (st_1 20 0 (y7_1.toNatClampNeg)).toInt := congrArg Int32.toInt ex_28
                    have rx_28 : x_28.toInt = ((st 20 0 (y7_1.toNatClampNeg)) : Int32).toInt := by rw [ex_28]; exact congrArg Int32.toInt (((congrFun (congrFun (congrFun est_1 20) 0) (y7_1.toNatClampNeg)).trans (congrFun (congrFun (gU_k (by decide)) 0) (y7_1.toNatClampNeg))))
                    refine lv_iconst (v := 1) hx hb dX10_draw_101 (by decide) ?_
                    refine lv_icmp_ne (tgt := 115) hx hb dX10_draw_102 (by decide) (fun c_29 => ?_) (fun c_29 => ?_)
                    · have ic_29 := gz_ne (rfl : x_28.toInt = x_28.toInt) (by decide : (1 : Int32).toInt = 1) c_29
                      refine lv_iconst (v := 0) hx hb dX10_draw_115 (by decide) ?_
                      refine lv_iadd hx hb dX10_draw_116 ?_
                      refine lv_topi (fun x_30 ex_30 => ?_)
                      refine lv_istore (lv' := [(5, .int x_30), (6, .int y7_1), (4, .int r_5), (0, .ref (ad 0 0)), (1, .int x), (2, .int y), (3, .int w)]) hx hb dX10_draw_117 hl (by decide) rfl (fun ls hl => ?_)
                      obtain ⟨x_31, ex_31⟩ : ∃ y : Int32, y = y7_1 + 1 := ⟨_, rfl⟩
                      try have tx_31 : x_31.toInt = y7_1.toInt + 1 := by rw [ex_31]; exact gz_addP (x := y7_1.toInt) (y := 1) rfl (by decide) (by omega) (by omega)
                      refine lv_iinc (v := (x_31)) (lv' := [(6, .int x_31), (5, .int x_30), (4, .int r_5), (0, .ref (ad 0 0)), (1, .int x), (2, .int y), (3, .int w)]) hx hb dX10_draw_119 hl (k := 1) rfl (by rw [ex_31]; rfl) (by decide) rfl (fun ls hl => ?_)
                      refine lv_goto (tgt := 47) hx hb dX10_draw_122 (by decide) ?_
                      exact ih_7  (x_30 : Int32) (x_31 : Int32) H _ ls (by omega)  (by omega) (sW.from0 hv7_1 (by omega) (by omega) (pGd_f (by omega)) ex_30) (by have hb0 : (0 : Int) ≤ (st 0 0 37).toInt ∧ (st 0 0 37).toInt ≤ (300 : Int) := hB_st.1 0 0 37; omega) hM hS (lv_sub hl [0, 1, 2, 3, 4, 5, 6] rfl)
                    · have ic_29 := gz_eqn (rfl : x_28.toInt = x_28.toInt) (by decide : (1 : Int32).toInt = 1) c_29
                      refine lv_aload_n hx hb dX10_draw_105 rfl (lv_at hl 3 rfl) ?_
                      refine gs_get (C := RX10) (T := TX10) (N := 59) hx hb hts inX10 hown hK hM 0 0 34 (by decide) rfl rfl (by decide) (hts _ gm_935) (fun _ h9 => h9) rfl dX10_draw_106 ?_
                      refine lv_iload hx hb dX10_draw_109 (lv_at hl 0 rfl) ?_
                      refine gs_iald hx hb hK hM 19 0 (by decide) rfl (vp_in_iff.mpr ⟨by omega, by omega⟩) dX10_draw_111 ?_
                      refine lv_topi (fun x_32 ex_32 => ?_)
                      have qx_32 : x_32.toInt = (st_1 19 0 (y7_1.toNatClampNeg)).toInt := congrArg Int32.toInt ex_32
                      have rx_32 : x_32.toInt = ((st 19 0 (y7_1.toNatClampNeg)) : Int32).toInt := by rw [ex_32]; exact congrArg Int32.toInt (((congrFun (congrFun (congrFun est_1 19) 0) (y7_1.toNatClampNeg)).trans (congrFun (congrFun (gU_k (by decide)) 0) (y7_1.toNatClampNeg))))
                      refine lv_goto (tgt := 116) hx hb dX10_draw_112 (by decide) ?_
                      refine lv_iadd hx hb dX10_draw_116 ?_
                      refine lv_topi (fun x_33 ex_33 => ?_)
                      refine lv_istore (lv' := [(5, .int x_33), (6, .int y7_1), (4, .int r_5), (0, .ref (ad 0 0)), (1, .int x), (2, .int y), (3, .int w)]) hx hb dX10_draw_117 hl (by decide) rfl (fun ls hl => ?_)
                      obtain ⟨x_34, ex_34⟩ : ∃ y : Int32, y = y7_1 + 1 := ⟨_, rfl⟩
                      try have tx_34 : x_34.toInt = y7_1.toInt + 1 := by rw [ex_34]; exact gz_addP (x := y7_1.toInt) (y := 1) rfl (by decide) (by omega) (by omega)
                      refine lv_iinc (v := (x_34)) (lv' := [(6, .int x_34), (5, .int x_33), (4, .int r_5), (0, .ref (ad 0 0)), (1, .int x), (2, .int y), (3, .int w)]) hx hb dX10_draw_119 hl (k := 1) rfl (by rw [ex_34]; rfl) (by decide) rfl (fun ls hl => ?_)
                      refine lv_goto (tgt := 47) hx hb dX10_draw_122 (by decide) ?_
                      exact ih_7  (x_33 : Int32) (x_34 : Int32) H _ ls (by omega)  (by omega) (sW.from hv7_1 (by omega) (by omega) (pGd_t (by omega) (by omega) (by omega) (by omega)) ex_33 (ex_32.trans (congrFun ((congrFun (congrFun est_1 19) 0).trans ((congrFun (gU_k (by decide)) 0).trans rfl)) _))) (by have hb0 : (0 : Int) ≤ (st 0 0 37).toInt ∧ (st 0 0 37).toInt ≤ (300 : Int) := hB_st.1 0 0 37; omega) hM hS (lv_sub hl [0, 1, 2, 3, 4, 5, 6] rfl)
        exact lp7 ((300 - ((0 : Int32) : Int32).toInt).toNat + 1)  (w : Int32) ((0 : Int32) : Int32) H _ ls (Nat.lt_succ_self _)  (by have hl0 : (0 : Int32).toInt = 0 := (by decide); omega) (by rw [← sW.new (y := (0 : Int32)) (by decide), Int32.add_zero]) (by have hl0 : (0 : Int32).toInt = 0 := (by decide); have hb1 : (0 : Int) ≤ (st 0 0 37).toInt ∧ (st 0 0 37).toInt ≤ (300 : Int) := hB_st.1 0 0 37; omega) hM hS (lv_sub hl [0, 1, 2, 3, 4, 5, 6] rfl)
      · have ic_6 := gz_nle (by decide : (0 : Int32).toInt = 0) (rfl : r_5.toInt = r_5.toInt) c_6
        refine lv_iconst (v := 2) hx hb dX10_draw_39 (by decide) ?_
        rw [← hQe]
        exact gs_iret hx hb hr hlocks hM hS rfl ⟨hB_st_1, (by have h8 := hw_5_0; rw [kx, ky] at h8; rw [frM.own (frM.up est_1), ((frM.up est_1)).row (k := 12) (i := 0) (by decide)] at h8; exact Or.inr (Or.inl (⟨⟨by omega, by omega, by omega, by omega, by omega, by omega, by omega, by omega⟩, (fun h7 => absurd ((rtM.fr (frM.up est_1)).mpr h7) (by have h9 := hw_3_0; rw [ky] at h9; exact h9)), by omega, by decide, (frM.up est_1)⟩)))⟩ (by exact Nat.le_refl _) (by exact Nat.le_refl _) dX10_draw_40
