theorem gm_938 : (Jvm.Cond.fieldLink "WellCourtModel" (287 : Nat) "WellCourtModel" "draws" "I") ∈ gz_T := gz_at 938 (by decide +kernel) rfl
theorem gm_958 : (Jvm.Cond.fieldLink "WellCourtModel" (299 : Nat) "WellCourtModel" "looks" "I") ∈ gz_T := gz_at 958 (by decide +kernel) rfl
theorem gm_959 : (Jvm.Cond.fieldLink "WellCourtModel" (302 : Nat) "WellCourtModel" "far" "I") ∈ gz_T := gz_at 959 (by decide +kernel) rfl
theorem gm_1201 : (Jvm.Cond.methodLink "WellCourtModel" (271 : Nat) ({ cls := "WellCourtModel", name := "hasWell", desc := "(I)Z" } : Jvm.MethodName)) ∈ gz_T := gz_at 1201 (by decide +kernel) rfl
theorem gm_1203 : (Jvm.Cond.instanceMethod ({ cls := "WellCourtModel", name := "hasWell", desc := "(I)Z" } : Jvm.MethodName)) ∈ gz_T := gz_at 1203 (by decide +kernel) rfl
theorem gm_1204 : (Jvm.Cond.code ({ cls := "WellCourtModel", name := "hasWell", desc := "(I)Z" } : Jvm.MethodName) prog_12_method_3_code (2 : Nat) (Option.some Jvm.ClassFile.FieldType.boolean)) ∈ gz_T := gz_at 1204 (by decide +kernel) rfl
theorem gm_1213 : (Jvm.Cond.methodLink "WellCourtModel" (278 : Nat) ({ cls := "WellCourtModel", name := "isClan", desc := "(I)Z" } : Jvm.MethodName)) ∈ gz_T := gz_at 1213 (by decide +kernel) rfl
theorem gm_1214 : (Jvm.Cond.static ({ cls := "WellCourtModel", name := "isClan", desc := "(I)Z" } : Jvm.MethodName)) ∈ gz_T := gz_at 1214 (by decide +kernel) rfl
theorem gm_1215 : (Jvm.Cond.code ({ cls := "WellCourtModel", name := "isClan", desc := "(I)Z" } : Jvm.MethodName) prog_12_method_33_code (1 : Nat) (Option.some Jvm.ClassFile.FieldType.boolean)) ∈ gz_T := gz_at 1215 (by decide +kernel) rfl
theorem gm_1236 : (Jvm.Cond.methodLink "WellCourtModel" (290 : Nat) ({ cls := "WellCourtModel", name := "cantDraw", desc := "(III)Z" } : Jvm.MethodName)) ∈ gz_T := gz_at 1236 (by decide +kernel) rfl
theorem gm_1238 : (Jvm.Cond.instanceMethod ({ cls := "WellCourtModel", name := "cantDraw", desc := "(III)Z" } : Jvm.MethodName)) ∈ gz_T := gz_at 1238 (by decide +kernel) rfl
theorem gm_1239 : (Jvm.Cond.code ({ cls := "WellCourtModel", name := "cantDraw", desc := "(III)Z" } : Jvm.MethodName) prog_12_method_39_code (4 : Nat) (Option.some Jvm.ClassFile.FieldType.boolean)) ∈ gz_T := gz_at 1239 (by decide +kernel) rfl
theorem gm_1276 : (Jvm.Cond.constant "WellCourtModel" (298 : Nat) (50000 : Int32)) ∈ gz_T := gz_at 1276 (by decide +kernel) rfl
theorem gs_50 : (Jvm.Cond.selects "WellCourtModel" ({ cls := "WellCourtModel", name := "hasWell", desc := "(I)Z" } : Jvm.MethodName) ({ cls := "WellCourtModel", name := "hasWell", desc := "(I)Z" } : Jvm.MethodName)) ∈ gz_T := gz_sel 50 (by decide +kernel) rfl
theorem gs_54 : (Jvm.Cond.selects "WellCourtModel" ({ cls := "WellCourtModel", name := "cantDraw", desc := "(III)Z" } : Jvm.MethodName) ({ cls := "WellCourtModel", name := "cantDraw", desc := "(III)Z" } : Jvm.MethodName)) ∈ gz_T := gz_sel 54 (by decide +kernel) rfl
theorem dX10_cantDraw_0 : decode cX10_cantDraw 0 = .ok (.aload_n 0, 1) := by decide +kernel
theorem dX10_cantDraw_1 : decode cX10_cantDraw 1 = .ok (.iload_n 1, 1) := by decide +kernel
theorem dX10_cantDraw_2 : decode cX10_cantDraw 2 = .ok (.invokevirtual 271, 3) := by decide +kernel
theorem dX10_cantDraw_5 : decode cX10_cantDraw 5 = .ok (.ifCond .eq 32, 3) := by decide +kernel
theorem dX10_cantDraw_37 : decode cX10_cantDraw 37 = .ok (.iconst 1, 1) := by decide +kernel
theorem dX10_cantDraw_38 : decode cX10_cantDraw 38 = .ok (.goto 4, 3) := by decide +kernel
theorem dX10_cantDraw_42 : decode cX10_cantDraw 42 = .ok (.ireturn, 1) := by decide +kernel
theorem dX10_count_0 : decode cX10_count 0 = .ok (.aload_n 0, 1) := by decide +kernel
theorem dX10_count_1 : decode cX10_count 1 = .ok (.iconst 0, 1) := by decide +kernel
theorem dX10_count_2 : decode cX10_count 2 = .ok (.putfield 1, 3) := by decide +kernel
theorem dX10_count_5 : decode cX10_count 5 = .ok (.iconst 0, 1) := by decide +kernel
theorem dX10_count_6 : decode cX10_count 6 = .ok (.istore_n 2, 1) := by decide +kernel
theorem dX10_count_7 : decode cX10_count 7 = .ok (.iload_n 1, 1) := by decide +kernel
theorem dX10_count_8 : decode cX10_count 8 = .ok (.tableswitch 134 0 6 #[44, 49, 82, 87, 119, 124, 129], 44) := by decide +kernel
theorem dX10_count_52 : decode cX10_count 52 = .ok (.aload_n 0, 1) := by decide +kernel
theorem dX10_count_53 : decode cX10_count 53 = .ok (.getfield 213, 3) := by decide +kernel
theorem dX10_count_56 : decode cX10_count 56 = .ok (.ireturn, 1) := by decide +kernel
theorem dX10_count_57 : decode cX10_count 57 = .ok (.iconst 0, 1) := by decide +kernel
theorem dX10_count_58 : decode cX10_count 58 = .ok (.istore_n 3, 1) := by decide +kernel
theorem dX10_count_59 : decode cX10_count 59 = .ok (.iload_n 3, 1) := by decide +kernel
theorem dX10_count_60 : decode cX10_count 60 = .ok (.bipush 6, 2) := by decide +kernel
theorem dX10_count_62 : decode cX10_count 62 = .ok (.if_icmp .ge 26, 3) := by decide +kernel
theorem dX10_count_65 : decode cX10_count 65 = .ok (.iload_n 2, 1) := by decide +kernel
theorem dX10_count_66 : decode cX10_count 66 = .ok (.aload_n 0, 1) := by decide +kernel
theorem dX10_count_67 : decode cX10_count 67 = .ok (.getfield 13, 3) := by decide +kernel
theorem dX10_count_70 : decode cX10_count 70 = .ok (.iload_n 3, 1) := by decide +kernel
theorem dX10_count_71 : decode cX10_count 71 = .ok (.baload, 1) := by decide +kernel
theorem dX10_count_72 : decode cX10_count 72 = .ok (.ifCond .eq 7, 3) := by decide +kernel
theorem dX10_count_79 : decode cX10_count 79 = .ok (.iconst 0, 1) := by decide +kernel
theorem dX10_count_80 : decode cX10_count 80 = .ok (.iadd, 1) := by decide +kernel
theorem dX10_count_81 : decode cX10_count 81 = .ok (.istore_n 2, 1) := by decide +kernel
theorem dX10_count_82 : decode cX10_count 82 = .ok (.iinc 3 1, 3) := by decide +kernel
theorem dX10_count_85 : decode cX10_count 85 = .ok (.goto (-26), 3) := by decide +kernel
theorem dX10_count_88 : decode cX10_count 88 = .ok (.iload_n 2, 1) := by decide +kernel
theorem dX10_count_89 : decode cX10_count 89 = .ok (.ireturn, 1) := by decide +kernel
theorem dX10_count_90 : decode cX10_count 90 = .ok (.aload_n 0, 1) := by decide +kernel
theorem dX10_count_91 : decode cX10_count 91 = .ok (.getfield 210, 3) := by decide +kernel
theorem dX10_count_94 : decode cX10_count 94 = .ok (.ireturn, 1) := by decide +kernel
theorem dX10_count_95 : decode cX10_count 95 = .ok (.iconst 0, 1) := by decide +kernel
theorem dX10_count_96 : decode cX10_count 96 = .ok (.istore_n 3, 1) := by decide +kernel
theorem dX10_count_97 : decode cX10_count 97 = .ok (.iload_n 3, 1) := by decide +kernel
theorem dX10_count_98 : decode cX10_count 98 = .ok (.iconst 4, 1) := by decide +kernel
theorem dX10_count_99 : decode cX10_count 99 = .ok (.if_icmp .ge 26, 3) := by decide +kernel
theorem dX10_count_102 : decode cX10_count 102 = .ok (.iload_n 2, 1) := by decide +kernel
theorem dX10_count_103 : decode cX10_count 103 = .ok (.aload_n 0, 1) := by decide +kernel
theorem dX10_count_104 : decode cX10_count 104 = .ok (.getfield 79, 3) := by decide +kernel
theorem dX10_count_107 : decode cX10_count 107 = .ok (.iload_n 3, 1) := by decide +kernel
theorem dX10_count_108 : decode cX10_count 108 = .ok (.baload, 1) := by decide +kernel
theorem dX10_count_109 : decode cX10_count 109 = .ok (.ifCond .eq 7, 3) := by decide +kernel
theorem dX10_count_116 : decode cX10_count 116 = .ok (.iconst 0, 1) := by decide +kernel
theorem dX10_count_117 : decode cX10_count 117 = .ok (.iadd, 1) := by decide +kernel
theorem dX10_count_118 : decode cX10_count 118 = .ok (.istore_n 2, 1) := by decide +kernel
theorem dX10_count_119 : decode cX10_count 119 = .ok (.iinc 3 1, 3) := by decide +kernel
theorem dX10_count_122 : decode cX10_count 122 = .ok (.goto (-25), 3) := by decide +kernel
theorem dX10_count_125 : decode cX10_count 125 = .ok (.iload_n 2, 1) := by decide +kernel
theorem dX10_count_126 : decode cX10_count 126 = .ok (.ireturn, 1) := by decide +kernel
theorem dX10_count_127 : decode cX10_count 127 = .ok (.aload_n 0, 1) := by decide +kernel
theorem dX10_count_128 : decode cX10_count 128 = .ok (.getfield 287, 3) := by decide +kernel
theorem dX10_count_131 : decode cX10_count 131 = .ok (.ireturn, 1) := by decide +kernel
theorem dX10_count_132 : decode cX10_count 132 = .ok (.aload_n 0, 1) := by decide +kernel
theorem dX10_count_133 : decode cX10_count 133 = .ok (.getfield 133, 3) := by decide +kernel
theorem dX10_count_136 : decode cX10_count 136 = .ok (.ireturn, 1) := by decide +kernel
theorem dX10_count_137 : decode cX10_count 137 = .ok (.aload_n 0, 1) := by decide +kernel
theorem dX10_count_138 : decode cX10_count 138 = .ok (.getfield 299, 3) := by decide +kernel
theorem dX10_count_141 : decode cX10_count 141 = .ok (.ireturn, 1) := by decide +kernel
theorem dX10_count_142 : decode cX10_count 142 = .ok (.iconst (-1), 1) := by decide +kernel
theorem dX10_count_143 : decode cX10_count 143 = .ok (.ireturn, 1) := by decide +kernel
theorem dX10_draw_0 : decode cX10_draw 0 = .ok (.aload_n 0, 1) := by decide +kernel
theorem dX10_draw_1 : decode cX10_draw 1 = .ok (.iconst 0, 1) := by decide +kernel
theorem dX10_draw_2 : decode cX10_draw 2 = .ok (.putfield 1, 3) := by decide +kernel
theorem dX10_draw_5 : decode cX10_draw 5 = .ok (.aload_n 0, 1) := by decide +kernel
theorem dX10_draw_6 : decode cX10_draw 6 = .ok (.iload_n 1, 1) := by decide +kernel
theorem dX10_draw_7 : decode cX10_draw 7 = .ok (.iload_n 2, 1) := by decide +kernel
theorem dX10_draw_8 : decode cX10_draw 8 = .ok (.iload_n 3, 1) := by decide +kernel
theorem dX10_draw_9 : decode cX10_draw 9 = .ok (.invokevirtual 290, 3) := by decide +kernel
theorem dX10_draw_12 : decode cX10_draw 12 = .ok (.ifCond .eq 5, 3) := by decide +kernel
theorem dX10_draw_15 : decode cX10_draw 15 = .ok (.iconst 1, 1) := by decide +kernel
theorem dX10_draw_16 : decode cX10_draw 16 = .ok (.ireturn, 1) := by decide +kernel
theorem dX10_drawn__0 : decode cX10_drawn_ 0 = .ok (.aload_n 0, 1) := by decide +kernel
theorem dX10_drawn__1 : decode cX10_drawn_ 1 = .ok (.iload_n 1, 1) := by decide +kernel
theorem dX10_drawn__2 : decode cX10_drawn_ 2 = .ok (.ifCond .lt 20, 3) := by decide +kernel
theorem dX10_drawn__5 : decode cX10_drawn_ 5 = .ok (.iload_n 1, 1) := by decide +kernel
theorem dX10_drawn__6 : decode cX10_drawn_ 6 = .ok (.aload_n 0, 1) := by decide +kernel
theorem dX10_drawn__7 : decode cX10_drawn_ 7 = .ok (.getfield 287, 3) := by decide +kernel
theorem dX10_drawn__10 : decode cX10_drawn_ 10 = .ok (.if_icmp .ge 12, 3) := by decide +kernel
theorem dX10_drawn__13 : decode cX10_drawn_ 13 = .ok (.iload_n 2, 1) := by decide +kernel
theorem dX10_drawn__14 : decode cX10_drawn_ 14 = .ok (.ifCond .lt 8, 3) := by decide +kernel
theorem dX10_drawn__17 : decode cX10_drawn_ 17 = .ok (.iload_n 2, 1) := by decide +kernel
theorem dX10_drawn__18 : decode cX10_drawn_ 18 = .ok (.iconst 5, 1) := by decide +kernel
theorem dX10_drawn__19 : decode cX10_drawn_ 19 = .ok (.if_icmp .le 7, 3) := by decide +kernel
theorem dX10_drawn__22 : decode cX10_drawn_ 22 = .ok (.iconst 1, 1) := by decide +kernel
theorem dX10_drawn__23 : decode cX10_drawn_ 23 = .ok (.goto 4, 3) := by decide +kernel
theorem dX10_drawn__26 : decode cX10_drawn_ 26 = .ok (.iconst 0, 1) := by decide +kernel
theorem dX10_drawn__27 : decode cX10_drawn_ 27 = .ok (.putfield 1, 3) := by decide +kernel
theorem dX10_drawn__30 : decode cX10_drawn_ 30 = .ok (.aload_n 0, 1) := by decide +kernel
theorem dX10_drawn__31 : decode cX10_drawn_ 31 = .ok (.getfield 1, 3) := by decide +kernel
theorem dX10_drawn__34 : decode cX10_drawn_ 34 = .ok (.iconst 1, 1) := by decide +kernel
theorem dX10_drawn__35 : decode cX10_drawn_ 35 = .ok (.if_icmp .ne 5, 3) := by decide +kernel
theorem dX10_drawn__38 : decode cX10_drawn_ 38 = .ok (.iconst 0, 1) := by decide +kernel
theorem dX10_drawn__39 : decode cX10_drawn_ 39 = .ok (.ireturn, 1) := by decide +kernel
theorem dX10_drawn__40 : decode cX10_drawn_ 40 = .ok (.iload_n 2, 1) := by decide +kernel
theorem dX10_drawn__41 : decode cX10_drawn_ 41 = .ok (.ifCond .ne 12, 3) := by decide +kernel
theorem dX10_drawn__44 : decode cX10_drawn_ 44 = .ok (.aload_n 0, 1) := by decide +kernel
theorem dX10_drawn__45 : decode cX10_drawn_ 45 = .ok (.getfield 61, 3) := by decide +kernel
theorem dX10_drawn__48 : decode cX10_drawn_ 48 = .ok (.iload_n 1, 1) := by decide +kernel
theorem dX10_drawn__49 : decode cX10_drawn_ 49 = .ok (.iaload, 1) := by decide +kernel
theorem dX10_drawn__53 : decode cX10_drawn_ 53 = .ok (.iload_n 2, 1) := by decide +kernel
theorem dX10_drawn__54 : decode cX10_drawn_ 54 = .ok (.iconst 1, 1) := by decide +kernel
theorem dX10_drawn__55 : decode cX10_drawn_ 55 = .ok (.if_icmp .ne 12, 3) := by decide +kernel
theorem dX10_drawn__58 : decode cX10_drawn_ 58 = .ok (.aload_n 0, 1) := by decide +kernel
theorem dX10_drawn__59 : decode cX10_drawn_ 59 = .ok (.getfield 64, 3) := by decide +kernel
theorem dX10_drawn__62 : decode cX10_drawn_ 62 = .ok (.iload_n 1, 1) := by decide +kernel
theorem dX10_drawn__63 : decode cX10_drawn_ 63 = .ok (.iaload, 1) := by decide +kernel
theorem dX10_drawn__67 : decode cX10_drawn_ 67 = .ok (.iload_n 2, 1) := by decide +kernel
theorem dX10_drawn__68 : decode cX10_drawn_ 68 = .ok (.iconst 2, 1) := by decide +kernel
theorem dX10_drawn__69 : decode cX10_drawn_ 69 = .ok (.if_icmp .ne 12, 3) := by decide +kernel
theorem dX10_drawn__72 : decode cX10_drawn_ 72 = .ok (.aload_n 0, 1) := by decide +kernel
theorem dX10_drawn__73 : decode cX10_drawn_ 73 = .ok (.getfield 67, 3) := by decide +kernel
theorem dX10_drawn__76 : decode cX10_drawn_ 76 = .ok (.iload_n 1, 1) := by decide +kernel
theorem dX10_drawn__77 : decode cX10_drawn_ 77 = .ok (.iaload, 1) := by decide +kernel
theorem dX10_drawn__81 : decode cX10_drawn_ 81 = .ok (.iload_n 2, 1) := by decide +kernel
theorem dX10_drawn__82 : decode cX10_drawn_ 82 = .ok (.iconst 3, 1) := by decide +kernel
theorem dX10_drawn__83 : decode cX10_drawn_ 83 = .ok (.if_icmp .ne 12, 3) := by decide +kernel
theorem dX10_drawn__86 : decode cX10_drawn_ 86 = .ok (.aload_n 0, 1) := by decide +kernel
theorem dX10_drawn__87 : decode cX10_drawn_ 87 = .ok (.getfield 70, 3) := by decide +kernel
theorem dX10_drawn__90 : decode cX10_drawn_ 90 = .ok (.iload_n 1, 1) := by decide +kernel
theorem dX10_drawn__91 : decode cX10_drawn_ 91 = .ok (.iaload, 1) := by decide +kernel
theorem dX10_drawn__95 : decode cX10_drawn_ 95 = .ok (.iload_n 2, 1) := by decide +kernel
theorem dX10_drawn__96 : decode cX10_drawn_ 96 = .ok (.iconst 4, 1) := by decide +kernel
theorem dX10_drawn__97 : decode cX10_drawn_ 97 = .ok (.if_icmp .ne 12, 3) := by decide +kernel
theorem dX10_drawn__100 : decode cX10_drawn_ 100 = .ok (.aload_n 0, 1) := by decide +kernel
theorem dX10_drawn__101 : decode cX10_drawn_ 101 = .ok (.getfield 73, 3) := by decide +kernel
theorem dX10_drawn__104 : decode cX10_drawn_ 104 = .ok (.iload_n 1, 1) := by decide +kernel
theorem dX10_drawn__105 : decode cX10_drawn_ 105 = .ok (.iaload, 1) := by decide +kernel
theorem dX10_drawn__109 : decode cX10_drawn_ 109 = .ok (.aload_n 0, 1) := by decide +kernel
theorem dX10_drawn__110 : decode cX10_drawn_ 110 = .ok (.getfield 76, 3) := by decide +kernel
theorem dX10_drawn__113 : decode cX10_drawn_ 113 = .ok (.iload_n 1, 1) := by decide +kernel
theorem dX10_drawn__114 : decode cX10_drawn_ 114 = .ok (.iaload, 1) := by decide +kernel
theorem dX10_drop_0 : decode cX10_drop 0 = .ok (.aload_n 0, 1) := by decide +kernel
theorem dX10_drop_1 : decode cX10_drop 1 = .ok (.iconst 0, 1) := by decide +kernel
theorem dX10_drop_2 : decode cX10_drop 2 = .ok (.putfield 1, 3) := by decide +kernel
theorem dX10_drop_5 : decode cX10_drop 5 = .ok (.iload_n 1, 1) := by decide +kernel
theorem dX10_drop_6 : decode cX10_drop 6 = .ok (.ifCond .lt 17, 3) := by decide +kernel
theorem dX10_drop_9 : decode cX10_drop 9 = .ok (.iload_n 1, 1) := by decide +kernel
theorem dX10_drop_10 : decode cX10_drop 10 = .ok (.iconst 4, 1) := by decide +kernel
theorem dX10_drop_11 : decode cX10_drop 11 = .ok (.if_icmp .ge 12, 3) := by decide +kernel
theorem dX10_drop_14 : decode cX10_drop 14 = .ok (.aload_n 0, 1) := by decide +kernel
theorem dX10_drop_15 : decode cX10_drop 15 = .ok (.getfield 79, 3) := by decide +kernel
theorem dX10_drop_18 : decode cX10_drop 18 = .ok (.iload_n 1, 1) := by decide +kernel
theorem dX10_drop_19 : decode cX10_drop 19 = .ok (.baload, 1) := by decide +kernel
theorem dX10_drop_20 : decode cX10_drop 20 = .ok (.ifCond .ne 5, 3) := by decide +kernel
theorem dX10_drop_23 : decode cX10_drop 23 = .ok (.iconst 0, 1) := by decide +kernel
theorem dX10_drop_24 : decode cX10_drop 24 = .ok (.ireturn, 1) := by decide +kernel
theorem dX10_far_0 : decode cX10_far 0 = .ok (.aload_n 0, 1) := by decide +kernel
theorem dX10_far_1 : decode cX10_far 1 = .ok (.iconst 0, 1) := by decide +kernel
theorem dX10_far_2 : decode cX10_far 2 = .ok (.putfield 1, 3) := by decide +kernel
theorem dX10_far_5 : decode cX10_far 5 = .ok (.aload_n 0, 1) := by decide +kernel
theorem dX10_far_6 : decode cX10_far 6 = .ok (.getfield 302, 3) := by decide +kernel
theorem dX10_far_9 : decode cX10_far 9 = .ok (.ireturn, 1) := by decide +kernel
theorem dX10_fault_0 : decode cX10_fault 0 = .ok (.aload_n 0, 1) := by decide +kernel
theorem dX10_fault_1 : decode cX10_fault 1 = .ok (.iconst 0, 1) := by decide +kernel
theorem dX10_fault_2 : decode cX10_fault 2 = .ok (.putfield 1, 3) := by decide +kernel
theorem dX10_fault_5 : decode cX10_fault 5 = .ok (.aload_n 0, 1) := by decide +kernel
theorem dX10_fault_6 : decode cX10_fault 6 = .ok (.getfield 170, 3) := by decide +kernel
theorem dX10_fault_9 : decode cX10_fault 9 = .ok (.ireturn, 1) := by decide +kernel
theorem dX10_herd_0 : decode cX10_herd 0 = .ok (.aload_n 0, 1) := by decide +kernel
theorem dX10_herd_1 : decode cX10_herd 1 = .ok (.iconst 0, 1) := by decide +kernel
theorem dX10_herd_2 : decode cX10_herd 2 = .ok (.putfield 1, 3) := by decide +kernel
theorem dX10_herd_5 : decode cX10_herd 5 = .ok (.iload_n 1, 1) := by decide +kernel
theorem dX10_herd_6 : decode cX10_herd 6 = .ok (.ifCond .lt 48, 3) := by decide +kernel
theorem dX10_herd_9 : decode cX10_herd 9 = .ok (.iload_n 1, 1) := by decide +kernel
theorem dX10_herd_10 : decode cX10_herd 10 = .ok (.iconst 4, 1) := by decide +kernel
theorem dX10_herd_11 : decode cX10_herd 11 = .ok (.if_icmp .ge 43, 3) := by decide +kernel
theorem dX10_herd_14 : decode cX10_herd 14 = .ok (.iload_n 2, 1) := by decide +kernel
theorem dX10_herd_15 : decode cX10_herd 15 = .ok (.invokestatic 278, 3) := by decide +kernel
theorem dX10_herd_18 : decode cX10_herd 18 = .ok (.ifCond .eq 36, 3) := by decide +kernel
theorem dX10_herd_21 : decode cX10_herd 21 = .ok (.iload_n 3, 1) := by decide +kernel
theorem dX10_herd_22 : decode cX10_herd 22 = .ok (.iconst 1, 1) := by decide +kernel
theorem dX10_herd_23 : decode cX10_herd 23 = .ok (.if_icmp .lt 31, 3) := by decide +kernel
theorem dX10_herd_26 : decode cX10_herd 26 = .ok (.iload_n 3, 1) := by decide +kernel
theorem dX10_herd_27 : decode cX10_herd 27 = .ok (.bipush 100, 2) := by decide +kernel
theorem dX10_herd_29 : decode cX10_herd 29 = .ok (.if_icmp .gt 25, 3) := by decide +kernel
theorem dX10_herd_32 : decode cX10_herd 32 = .ok (.iload 4, 2) := by decide +kernel
theorem dX10_herd_34 : decode cX10_herd 34 = .ok (.iconst 1, 1) := by decide +kernel
theorem dX10_herd_35 : decode cX10_herd 35 = .ok (.if_icmp .lt 19, 3) := by decide +kernel
theorem dX10_herd_38 : decode cX10_herd 38 = .ok (.iload 4, 2) := by decide +kernel
theorem dX10_herd_40 : decode cX10_herd 40 = .ok (.bipush 9, 2) := by decide +kernel
theorem dX10_herd_42 : decode cX10_herd 42 = .ok (.if_icmp .gt 12, 3) := by decide +kernel
theorem dX10_herd_45 : decode cX10_herd 45 = .ok (.aload_n 0, 1) := by decide +kernel
theorem dX10_herd_46 : decode cX10_herd 46 = .ok (.iload 5, 2) := by decide +kernel
theorem dX10_herd_48 : decode cX10_herd 48 = .ok (.invokevirtual 271, 3) := by decide +kernel
theorem dX10_herd_51 : decode cX10_herd 51 = .ok (.ifCond .ne 5, 3) := by decide +kernel
theorem dX10_herd_54 : decode cX10_herd 54 = .ok (.iconst 0, 1) := by decide +kernel
theorem dX10_herd_55 : decode cX10_herd 55 = .ok (.ireturn, 1) := by decide +kernel
theorem dX10_judge_0 : decode cX10_judge 0 = .ok (.aload_n 0, 1) := by decide +kernel
theorem dX10_judge_1 : decode cX10_judge 1 = .ok (.iconst 0, 1) := by decide +kernel
theorem dX10_judge_2 : decode cX10_judge 2 = .ok (.putfield 1, 3) := by decide +kernel
theorem dX10_judge_5 : decode cX10_judge 5 = .ok (.iload_n 1, 1) := by decide +kernel
theorem dX10_judge_6 : decode cX10_judge 6 = .ok (.invokestatic 278, 3) := by decide +kernel
theorem dX10_judge_9 : decode cX10_judge 9 = .ok (.ifCond .eq 14, 3) := by decide +kernel
theorem dX10_judge_12 : decode cX10_judge 12 = .ok (.iload 5, 2) := by decide +kernel
theorem dX10_judge_14 : decode cX10_judge 14 = .ok (.ifCond .lt 9, 3) := by decide +kernel
theorem dX10_judge_17 : decode cX10_judge 17 = .ok (.iload 5, 2) := by decide +kernel
theorem dX10_judge_19 : decode cX10_judge 19 = .ok (.iconst 3, 1) := by decide +kernel
theorem dX10_judge_20 : decode cX10_judge 20 = .ok (.if_icmp .le 5, 3) := by decide +kernel
theorem dX10_judge_23 : decode cX10_judge 23 = .ok (.iconst (-1), 1) := by decide +kernel
theorem dX10_judge_24 : decode cX10_judge 24 = .ok (.ireturn, 1) := by decide +kernel
theorem dX10_judge_25 : decode cX10_judge 25 = .ok (.iconst 0, 1) := by decide +kernel
theorem dX10_judge_26 : decode cX10_judge 26 = .ok (.istore 6, 2) := by decide +kernel
theorem dX10_judge_28 : decode cX10_judge 28 = .ok (.iconst 0, 1) := by decide +kernel
theorem dX10_judge_29 : decode cX10_judge 29 = .ok (.istore 7, 2) := by decide +kernel
theorem dX10_judge_31 : decode cX10_judge 31 = .ok (.iconst 0, 1) := by decide +kernel
theorem dX10_judge_32 : decode cX10_judge 32 = .ok (.istore 8, 2) := by decide +kernel
theorem dX10_judge_34 : decode cX10_judge 34 = .ok (.iconst 0, 1) := by decide +kernel
theorem dX10_judge_35 : decode cX10_judge 35 = .ok (.istore 9, 2) := by decide +kernel
theorem dX10_judge_37 : decode cX10_judge 37 = .ok (.iconst 0, 1) := by decide +kernel
theorem dX10_judge_38 : decode cX10_judge 38 = .ok (.istore 10, 2) := by decide +kernel
theorem dX10_judge_40 : decode cX10_judge 40 = .ok (.iload 10, 2) := by decide +kernel
theorem dX10_judge_42 : decode cX10_judge 42 = .ok (.aload_n 0, 1) := by decide +kernel
theorem dX10_judge_43 : decode cX10_judge 43 = .ok (.getfield 287, 3) := by decide +kernel
theorem dX10_judge_46 : decode cX10_judge 46 = .ok (.if_icmp .ge 175, 3) := by decide +kernel
theorem dX10_judge_221 : decode cX10_judge 221 = .ok (.iconst 2, 1) := by decide +kernel
theorem dX10_judge_222 : decode cX10_judge 222 = .ok (.iload 8, 2) := by decide +kernel
theorem dX10_judge_224 : decode cX10_judge 224 = .ok (.imul, 1) := by decide +kernel
theorem dX10_judge_225 : decode cX10_judge 225 = .ok (.iload 9, 2) := by decide +kernel
theorem dX10_judge_227 : decode cX10_judge 227 = .ok (.isub, 1) := by decide +kernel
theorem dX10_judge_228 : decode cX10_judge 228 = .ok (.istore 10, 2) := by decide +kernel
theorem dX10_judge_230 : decode cX10_judge 230 = .ok (.iload 5, 2) := by decide +kernel
theorem dX10_judge_232 : decode cX10_judge 232 = .ok (.ifCond .ne 8, 3) := by decide +kernel
theorem dX10_judge_235 : decode cX10_judge 235 = .ok (.iload 6, 2) := by decide +kernel
theorem dX10_judge_237 : decode cX10_judge 237 = .ok (.goto 36, 3) := by decide +kernel
theorem dX10_judge_240 : decode cX10_judge 240 = .ok (.iload 5, 2) := by decide +kernel
theorem dX10_judge_242 : decode cX10_judge 242 = .ok (.iconst 1, 1) := by decide +kernel
theorem dX10_judge_243 : decode cX10_judge 243 = .ok (.if_icmp .ne 8, 3) := by decide +kernel
theorem dX10_judge_246 : decode cX10_judge 246 = .ok (.iload 7, 2) := by decide +kernel
theorem dX10_judge_248 : decode cX10_judge 248 = .ok (.goto 25, 3) := by decide +kernel
theorem dX10_judge_251 : decode cX10_judge 251 = .ok (.iload 5, 2) := by decide +kernel
theorem dX10_judge_253 : decode cX10_judge 253 = .ok (.iconst 2, 1) := by decide +kernel
theorem dX10_judge_254 : decode cX10_judge 254 = .ok (.if_icmp .ne 8, 3) := by decide +kernel
theorem dX10_judge_257 : decode cX10_judge 257 = .ok (.iload 8, 2) := by decide +kernel
theorem dX10_judge_259 : decode cX10_judge 259 = .ok (.goto 14, 3) := by decide +kernel
theorem dX10_judge_262 : decode cX10_judge 262 = .ok (.iload 10, 2) := by decide +kernel
theorem dX10_judge_264 : decode cX10_judge 264 = .ok (.ifCond .le 8, 3) := by decide +kernel
theorem dX10_judge_272 : decode cX10_judge 272 = .ok (.iconst 0, 1) := by decide +kernel
theorem dX10_judge_273 : decode cX10_judge 273 = .ok (.ireturn, 1) := by decide +kernel
theorem dX10_lend_0 : decode cX10_lend 0 = .ok (.aload_n 0, 1) := by decide +kernel
theorem dX10_lend_1 : decode cX10_lend 1 = .ok (.iconst 0, 1) := by decide +kernel
theorem dX10_lend_2 : decode cX10_lend 2 = .ok (.putfield 1, 3) := by decide +kernel
theorem dX10_lend_5 : decode cX10_lend 5 = .ok (.iload_n 1, 1) := by decide +kernel
theorem dX10_lend_6 : decode cX10_lend 6 = .ok (.ifCond .lt 62, 3) := by decide +kernel
theorem dX10_lend_9 : decode cX10_lend 9 = .ok (.iload_n 1, 1) := by decide +kernel
theorem dX10_lend_10 : decode cX10_lend 10 = .ok (.bipush 6, 2) := by decide +kernel
theorem dX10_lend_12 : decode cX10_lend 12 = .ok (.if_icmp .ge 56, 3) := by decide +kernel
theorem dX10_lend_15 : decode cX10_lend 15 = .ok (.iload_n 3, 1) := by decide +kernel
theorem dX10_lend_16 : decode cX10_lend 16 = .ok (.invokestatic 278, 3) := by decide +kernel
theorem dX10_lend_19 : decode cX10_lend 19 = .ok (.ifCond .eq 49, 3) := by decide +kernel
theorem dX10_lend_22 : decode cX10_lend 22 = .ok (.iload_n 2, 1) := by decide +kernel
theorem dX10_lend_23 : decode cX10_lend 23 = .ok (.aload_n 0, 1) := by decide +kernel
theorem dX10_lend_24 : decode cX10_lend 24 = .ok (.getfield 213, 3) := by decide +kernel
theorem dX10_lend_27 : decode cX10_lend 27 = .ok (.if_icmp .le 41, 3) := by decide +kernel
theorem dX10_lend_30 : decode cX10_lend 30 = .ok (.iload_n 2, 1) := by decide +kernel
theorem dX10_lend_31 : decode cX10_lend 31 = .ok (.sipush 199, 3) := by decide +kernel
theorem dX10_lend_34 : decode cX10_lend 34 = .ok (.if_icmp .gt 34, 3) := by decide +kernel
theorem dX10_lend_37 : decode cX10_lend 37 = .ok (.aload_n 0, 1) := by decide +kernel
theorem dX10_lend_38 : decode cX10_lend 38 = .ok (.getfield 30, 3) := by decide +kernel
theorem dX10_lend_41 : decode cX10_lend 41 = .ok (.sipush 200, 3) := by decide +kernel
theorem dX10_lend_44 : decode cX10_lend 44 = .ok (.iload_n 1, 1) := by decide +kernel
theorem dX10_lend_45 : decode cX10_lend 45 = .ok (.imul, 1) := by decide +kernel
theorem dX10_lend_46 : decode cX10_lend 46 = .ok (.iload_n 2, 1) := by decide +kernel
theorem dX10_lend_47 : decode cX10_lend 47 = .ok (.iadd, 1) := by decide +kernel
theorem dX10_lend_48 : decode cX10_lend 48 = .ok (.iaload, 1) := by decide +kernel
theorem dX10_lend_49 : decode cX10_lend 49 = .ok (.ifCond .lt 19, 3) := by decide +kernel
theorem dX10_lend_68 : decode cX10_lend 68 = .ok (.iconst (-1), 1) := by decide +kernel
theorem dX10_lend_69 : decode cX10_lend 69 = .ok (.ireturn, 1) := by decide +kernel
theorem dX10_may_0 : decode cX10_may 0 = .ok (.aload_n 0, 1) := by decide +kernel
theorem dX10_may_1 : decode cX10_may 1 = .ok (.iconst 0, 1) := by decide +kernel
theorem dX10_may_2 : decode cX10_may 2 = .ok (.putfield 1, 3) := by decide +kernel
theorem dX10_may_5 : decode cX10_may 5 = .ok (.aload_n 0, 1) := by decide +kernel
theorem dX10_may_6 : decode cX10_may 6 = .ok (.iload_n 1, 1) := by decide +kernel
theorem dX10_may_7 : decode cX10_may 7 = .ok (.invokevirtual 271, 3) := by decide +kernel
theorem dX10_may_10 : decode cX10_may 10 = .ok (.ifCond .eq 10, 3) := by decide +kernel
theorem dX10_may_20 : decode cX10_may 20 = .ok (.iconst (-1), 1) := by decide +kernel
theorem dX10_may_21 : decode cX10_may 21 = .ok (.ireturn, 1) := by decide +kernel
theorem dX10_next_0 : decode cX10_next 0 = .ok (.aload_n 0, 1) := by decide +kernel
theorem dX10_next_1 : decode cX10_next 1 = .ok (.iconst 0, 1) := by decide +kernel
theorem dX10_next_2 : decode cX10_next 2 = .ok (.putfield 1, 3) := by decide +kernel
theorem dX10_next_5 : decode cX10_next 5 = .ok (.aload_n 0, 1) := by decide +kernel
theorem dX10_next_6 : decode cX10_next 6 = .ok (.getfield 213, 3) := by decide +kernel
theorem dX10_next_9 : decode cX10_next 9 = .ok (.sipush 199, 3) := by decide +kernel
theorem dX10_next_12 : decode cX10_next 12 = .ok (.if_icmp .ne 5, 3) := by decide +kernel
theorem dX10_next_17 : decode cX10_next 17 = .ok (.aload_n 0, 1) := by decide +kernel
theorem dX10_next_18 : decode cX10_next 18 = .ok (.dup, 1) := by decide +kernel
theorem dX10_next_19 : decode cX10_next 19 = .ok (.getfield 213, 3) := by decide +kernel
theorem dX10_next_22 : decode cX10_next 22 = .ok (.iconst 1, 1) := by decide +kernel
theorem dX10_next_23 : decode cX10_next 23 = .ok (.iadd, 1) := by decide +kernel
theorem dX10_next_24 : decode cX10_next 24 = .ok (.putfield 213, 3) := by decide +kernel
theorem dX10_next_27 : decode cX10_next 27 = .ok (.iconst 0, 1) := by decide +kernel
theorem dX10_next_28 : decode cX10_next 28 = .ok (.istore_n 1, 1) := by decide +kernel
theorem dX10_next_29 : decode cX10_next 29 = .ok (.iload_n 1, 1) := by decide +kernel
theorem dX10_next_30 : decode cX10_next 30 = .ok (.bipush 6, 2) := by decide +kernel
theorem dX10_next_32 : decode cX10_next 32 = .ok (.if_icmp .ge 83, 3) := by decide +kernel
theorem dX10_next_35 : decode cX10_next 35 = .ok (.aload_n 0, 1) := by decide +kernel
theorem dX10_next_36 : decode cX10_next 36 = .ok (.getfield 13, 3) := by decide +kernel
theorem dX10_next_39 : decode cX10_next 39 = .ok (.iload_n 1, 1) := by decide +kernel
theorem dX10_next_40 : decode cX10_next 40 = .ok (.baload, 1) := by decide +kernel
theorem dX10_next_41 : decode cX10_next 41 = .ok (.ifCond .ne 6, 3) := by decide +kernel
theorem dX10_next_44 : decode cX10_next 44 = .ok (.goto 65, 3) := by decide +kernel
theorem dX10_next_109 : decode cX10_next 109 = .ok (.iinc 1 1, 3) := by decide +kernel
theorem dX10_next_112 : decode cX10_next 112 = .ok (.goto (-83), 3) := by decide +kernel
theorem dX10_next_115 : decode cX10_next 115 = .ok (.aload_n 0, 1) := by decide +kernel
theorem dX10_next_116 : decode cX10_next 116 = .ok (.invokevirtual 220, 3) := by decide +kernel
theorem dX10_next_119 : decode cX10_next 119 = .ok (.iconst 1, 1) := by decide +kernel
theorem dX10_next_120 : decode cX10_next 120 = .ok (.ireturn, 1) := by decide +kernel
theorem dX10_owner_0 : decode cX10_owner 0 = .ok (.aload_n 0, 1) := by decide +kernel
theorem dX10_owner_1 : decode cX10_owner 1 = .ok (.iconst 0, 1) := by decide +kernel
theorem dX10_owner_2 : decode cX10_owner 2 = .ok (.putfield 1, 3) := by decide +kernel
theorem dX10_owner_5 : decode cX10_owner 5 = .ok (.iload_n 1, 1) := by decide +kernel
theorem dX10_owner_6 : decode cX10_owner 6 = .ok (.ifCond .lt 20, 3) := by decide +kernel
theorem dX10_owner_9 : decode cX10_owner 9 = .ok (.iload_n 1, 1) := by decide +kernel
theorem dX10_owner_10 : decode cX10_owner 10 = .ok (.bipush 6, 2) := by decide +kernel
theorem dX10_owner_12 : decode cX10_owner 12 = .ok (.if_icmp .ge 14, 3) := by decide +kernel
theorem dX10_owner_15 : decode cX10_owner 15 = .ok (.iload_n 2, 1) := by decide +kernel
theorem dX10_owner_16 : decode cX10_owner 16 = .ok (.ifCond .lt 10, 3) := by decide +kernel
theorem dX10_owner_19 : decode cX10_owner 19 = .ok (.iload_n 2, 1) := by decide +kernel
theorem dX10_owner_20 : decode cX10_owner 20 = .ok (.sipush 199, 3) := by decide +kernel
theorem dX10_owner_23 : decode cX10_owner 23 = .ok (.if_icmp .le 7, 3) := by decide +kernel
theorem dX10_owner_26 : decode cX10_owner 26 = .ok (.iconst (-1), 1) := by decide +kernel
theorem dX10_owner_27 : decode cX10_owner 27 = .ok (.goto 15, 3) := by decide +kernel
theorem dX10_owner_30 : decode cX10_owner 30 = .ok (.aload_n 0, 1) := by decide +kernel
theorem dX10_owner_31 : decode cX10_owner 31 = .ok (.getfield 30, 3) := by decide +kernel
theorem dX10_owner_34 : decode cX10_owner 34 = .ok (.sipush 200, 3) := by decide +kernel
theorem dX10_owner_37 : decode cX10_owner 37 = .ok (.iload_n 1, 1) := by decide +kernel
theorem dX10_owner_38 : decode cX10_owner 38 = .ok (.imul, 1) := by decide +kernel
theorem dX10_owner_39 : decode cX10_owner 39 = .ok (.iload_n 2, 1) := by decide +kernel
theorem dX10_owner_40 : decode cX10_owner 40 = .ok (.iadd, 1) := by decide +kernel
theorem dX10_owner_41 : decode cX10_owner 41 = .ok (.iaload, 1) := by decide +kernel
theorem dX10_owner_42 : decode cX10_owner 42 = .ok (.ireturn, 1) := by decide +kernel
theorem dX10_plan_0 : decode cX10_plan 0 = .ok (.aload_n 0, 1) := by decide +kernel
theorem dX10_plan_1 : decode cX10_plan 1 = .ok (.iload_n 2, 1) := by decide +kernel
theorem dX10_plan_2 : decode cX10_plan 2 = .ok (.iconst 1, 1) := by decide +kernel
theorem dX10_plan_3 : decode cX10_plan 3 = .ok (.if_icmp .lt 10, 3) := by decide +kernel
theorem dX10_plan_6 : decode cX10_plan 6 = .ok (.iload_n 2, 1) := by decide +kernel
theorem dX10_plan_7 : decode cX10_plan 7 = .ok (.ldc_w 298, 3) := by decide +kernel
theorem dX10_plan_10 : decode cX10_plan 10 = .ok (.if_icmp .le 7, 3) := by decide +kernel
theorem dX10_plan_13 : decode cX10_plan 13 = .ok (.iconst 1, 1) := by decide +kernel
theorem dX10_plan_14 : decode cX10_plan 14 = .ok (.goto 4, 3) := by decide +kernel
theorem dX10_plan_17 : decode cX10_plan 17 = .ok (.iconst 0, 1) := by decide +kernel
theorem dX10_plan_18 : decode cX10_plan 18 = .ok (.putfield 1, 3) := by decide +kernel
theorem dX10_plan_21 : decode cX10_plan 21 = .ok (.aload_n 0, 1) := by decide +kernel
theorem dX10_plan_22 : decode cX10_plan 22 = .ok (.getfield 1, 3) := by decide +kernel
theorem dX10_plan_25 : decode cX10_plan 25 = .ok (.iconst 1, 1) := by decide +kernel
theorem dX10_plan_26 : decode cX10_plan 26 = .ok (.if_icmp .ne 5, 3) := by decide +kernel
theorem dX10_plan_29 : decode cX10_plan 29 = .ok (.iconst 0, 1) := by decide +kernel
theorem dX10_plan_30 : decode cX10_plan 30 = .ok (.ireturn, 1) := by decide +kernel
theorem dX10_plan_31 : decode cX10_plan 31 = .ok (.aload_n 0, 1) := by decide +kernel
theorem dX10_plan_32 : decode cX10_plan 32 = .ok (.getfield 79, 3) := by decide +kernel
theorem dX10_plan_35 : decode cX10_plan 35 = .ok (.iconst 0, 1) := by decide +kernel
theorem dX10_plan_36 : decode cX10_plan 36 = .ok (.baload, 1) := by decide +kernel
theorem dX10_plan_37 : decode cX10_plan 37 = .ok (.ifCond .ne 30, 3) := by decide +kernel
theorem dX10_plan_40 : decode cX10_plan 40 = .ok (.aload_n 0, 1) := by decide +kernel
theorem dX10_plan_41 : decode cX10_plan 41 = .ok (.getfield 79, 3) := by decide +kernel
theorem dX10_plan_44 : decode cX10_plan 44 = .ok (.iconst 1, 1) := by decide +kernel
theorem dX10_plan_45 : decode cX10_plan 45 = .ok (.baload, 1) := by decide +kernel
theorem dX10_plan_46 : decode cX10_plan 46 = .ok (.ifCond .ne 21, 3) := by decide +kernel
theorem dX10_plan_49 : decode cX10_plan 49 = .ok (.aload_n 0, 1) := by decide +kernel
theorem dX10_plan_50 : decode cX10_plan 50 = .ok (.getfield 79, 3) := by decide +kernel
theorem dX10_plan_53 : decode cX10_plan 53 = .ok (.iconst 2, 1) := by decide +kernel
theorem dX10_plan_54 : decode cX10_plan 54 = .ok (.baload, 1) := by decide +kernel
theorem dX10_plan_55 : decode cX10_plan 55 = .ok (.ifCond .ne 12, 3) := by decide +kernel
theorem dX10_plan_58 : decode cX10_plan 58 = .ok (.aload_n 0, 1) := by decide +kernel
theorem dX10_plan_59 : decode cX10_plan 59 = .ok (.getfield 79, 3) := by decide +kernel
theorem dX10_plan_62 : decode cX10_plan 62 = .ok (.iconst 3, 1) := by decide +kernel
theorem dX10_plan_63 : decode cX10_plan 63 = .ok (.baload, 1) := by decide +kernel
theorem dX10_plan_64 : decode cX10_plan 64 = .ok (.ifCond .eq 26, 3) := by decide +kernel
theorem dX10_plan_90 : decode cX10_plan 90 = .ok (.iconst (-1), 1) := by decide +kernel
theorem dX10_plan_91 : decode cX10_plan 91 = .ok (.ireturn, 1) := by decide +kernel
theorem dX10_report_0 : decode cX10_report 0 = .ok (.aload_n 0, 1) := by decide +kernel
theorem dX10_report_1 : decode cX10_report 1 = .ok (.iconst 0, 1) := by decide +kernel
theorem dX10_report_2 : decode cX10_report 2 = .ok (.putfield 1, 3) := by decide +kernel
theorem dX10_report_5 : decode cX10_report 5 = .ok (.iload_n 1, 1) := by decide +kernel
theorem dX10_report_6 : decode cX10_report 6 = .ok (.ifCond .lt 20, 3) := by decide +kernel
theorem dX10_report_9 : decode cX10_report 9 = .ok (.iload_n 1, 1) := by decide +kernel
theorem dX10_report_10 : decode cX10_report 10 = .ok (.aload_n 0, 1) := by decide +kernel
theorem dX10_report_11 : decode cX10_report 11 = .ok (.getfield 287, 3) := by decide +kernel
theorem dX10_report_14 : decode cX10_report 14 = .ok (.if_icmp .ge 12, 3) := by decide +kernel
theorem dX10_report_17 : decode cX10_report 17 = .ok (.aload_n 0, 1) := by decide +kernel
theorem dX10_report_18 : decode cX10_report 18 = .ok (.getfield 76, 3) := by decide +kernel
theorem dX10_report_21 : decode cX10_report 21 = .ok (.iload_n 1, 1) := by decide +kernel
theorem dX10_report_22 : decode cX10_report 22 = .ok (.iaload, 1) := by decide +kernel
theorem dX10_report_26 : decode cX10_report 26 = .ok (.iconst 0, 1) := by decide +kernel
theorem dX10_report_27 : decode cX10_report 27 = .ok (.ireturn, 1) := by decide +kernel
theorem dX10_step_0 : decode cX10_step 0 = .ok (.aload_n 0, 1) := by decide +kernel
theorem dX10_step_1 : decode cX10_step 1 = .ok (.iconst 0, 1) := by decide +kernel
theorem dX10_step_2 : decode cX10_step 2 = .ok (.putfield 1, 3) := by decide +kernel
theorem dX10_step_5 : decode cX10_step 5 = .ok (.iload_n 1, 1) := by decide +kernel
theorem dX10_step_6 : decode cX10_step 6 = .ok (.ifCond .lt 45, 3) := by decide +kernel
theorem dX10_step_9 : decode cX10_step 9 = .ok (.iload_n 1, 1) := by decide +kernel
theorem dX10_step_10 : decode cX10_step 10 = .ok (.iconst 4, 1) := by decide +kernel
theorem dX10_step_11 : decode cX10_step 11 = .ok (.if_icmp .ge 40, 3) := by decide +kernel
theorem dX10_step_14 : decode cX10_step 14 = .ok (.aload_n 0, 1) := by decide +kernel
theorem dX10_step_15 : decode cX10_step 15 = .ok (.getfield 130, 3) := by decide +kernel
theorem dX10_step_18 : decode cX10_step 18 = .ok (.ifCond .lt 33, 3) := by decide +kernel
theorem dX10_step_51 : decode cX10_step 51 = .ok (.iconst (-1), 1) := by decide +kernel
theorem dX10_step_52 : decode cX10_step 52 = .ok (.ireturn, 1) := by decide +kernel
theorem dX10_take_0 : decode cX10_take 0 = .ok (.aload_n 0, 1) := by decide +kernel
theorem dX10_take_1 : decode cX10_take 1 = .ok (.iconst 0, 1) := by decide +kernel
theorem dX10_take_2 : decode cX10_take 2 = .ok (.putfield 1, 3) := by decide +kernel
theorem dX10_take_5 : decode cX10_take 5 = .ok (.aload_n 0, 1) := by decide +kernel
theorem dX10_take_6 : decode cX10_take 6 = .ok (.iload_n 1, 1) := by decide +kernel
theorem dX10_take_7 : decode cX10_take 7 = .ok (.iload_n 2, 1) := by decide +kernel
theorem dX10_take_8 : decode cX10_take 8 = .ok (.iload_n 3, 1) := by decide +kernel
theorem dX10_take_9 : decode cX10_take 9 = .ok (.invokevirtual 290, 3) := by decide +kernel
theorem dX10_take_12 : decode cX10_take 12 = .ok (.ifCond .eq 5, 3) := by decide +kernel
theorem dX10_take_15 : decode cX10_take 15 = .ok (.iconst 1, 1) := by decide +kernel
theorem dX10_take_16 : decode cX10_take 16 = .ok (.ireturn, 1) := by decide +kernel
theorem dX10_water_0 : decode cX10_water 0 = .ok (.aload_n 0, 1) := by decide +kernel
theorem dX10_water_1 : decode cX10_water 1 = .ok (.iconst 0, 1) := by decide +kernel
theorem dX10_water_2 : decode cX10_water 2 = .ok (.putfield 1, 3) := by decide +kernel
theorem dX10_water_5 : decode cX10_water 5 = .ok (.aload_n 0, 1) := by decide +kernel
theorem dX10_water_6 : decode cX10_water 6 = .ok (.iload_n 1, 1) := by decide +kernel
theorem dX10_water_7 : decode cX10_water 7 = .ok (.invokevirtual 271, 3) := by decide +kernel
theorem dX10_water_10 : decode cX10_water 10 = .ok (.ifCond .ne 5, 3) := by decide +kernel
theorem dX10_water_13 : decode cX10_water 13 = .ok (.iconst (-1), 1) := by decide +kernel
theorem dX10_water_14 : decode cX10_water 14 = .ok (.ireturn, 1) := by decide +kernel
theorem dX10_way_0 : decode cX10_way 0 = .ok (.aload_n 0, 1) := by decide +kernel
theorem dX10_way_1 : decode cX10_way 1 = .ok (.iconst 0, 1) := by decide +kernel
theorem dX10_way_2 : decode cX10_way 2 = .ok (.putfield 1, 3) := by decide +kernel
theorem dX10_way_5 : decode cX10_way 5 = .ok (.iload_n 1, 1) := by decide +kernel
theorem dX10_way_6 : decode cX10_way 6 = .ok (.ifCond .lt 34, 3) := by decide +kernel
theorem dX10_way_9 : decode cX10_way 9 = .ok (.iload_n 1, 1) := by decide +kernel
theorem dX10_way_10 : decode cX10_way 10 = .ok (.bipush 6, 2) := by decide +kernel
theorem dX10_way_12 : decode cX10_way 12 = .ok (.if_icmp .ge 28, 3) := by decide +kernel
theorem dX10_way_15 : decode cX10_way 15 = .ok (.iload_n 2, 1) := by decide +kernel
theorem dX10_way_16 : decode cX10_way 16 = .ok (.ifCond .lt 24, 3) := by decide +kernel
theorem dX10_way_19 : decode cX10_way 19 = .ok (.iload_n 2, 1) := by decide +kernel
theorem dX10_way_20 : decode cX10_way 20 = .ok (.bipush 6, 2) := by decide +kernel
theorem dX10_way_22 : decode cX10_way 22 = .ok (.if_icmp .ge 18, 3) := by decide +kernel
theorem dX10_way_25 : decode cX10_way 25 = .ok (.iload_n 1, 1) := by decide +kernel
theorem dX10_way_26 : decode cX10_way 26 = .ok (.iload_n 2, 1) := by decide +kernel
theorem dX10_way_27 : decode cX10_way 27 = .ok (.if_icmp .eq 13, 3) := by decide +kernel
theorem dX10_way_30 : decode cX10_way 30 = .ok (.iload_n 3, 1) := by decide +kernel
theorem dX10_way_31 : decode cX10_way 31 = .ok (.ifCond .lt 9, 3) := by decide +kernel
theorem dX10_way_34 : decode cX10_way 34 = .ok (.iload_n 3, 1) := by decide +kernel
theorem dX10_way_35 : decode cX10_way 35 = .ok (.bipush 9, 2) := by decide +kernel
theorem dX10_way_37 : decode cX10_way 37 = .ok (.if_icmp .le 5, 3) := by decide +kernel
theorem dX10_way_40 : decode cX10_way 40 = .ok (.iconst 0, 1) := by decide +kernel
theorem dX10_way_41 : decode cX10_way 41 = .ok (.ireturn, 1) := by decide +kernel
theorem dX10_way_42 : decode cX10_way 42 = .ok (.aload_n 0, 1) := by decide +kernel
theorem dX10_way_43 : decode cX10_way 43 = .ok (.getfield 97, 3) := by decide +kernel
theorem dX10_way_46 : decode cX10_way 46 = .ok (.bipush 6, 2) := by decide +kernel
theorem dX10_way_48 : decode cX10_way 48 = .ok (.iload_n 1, 1) := by decide +kernel
theorem dX10_way_49 : decode cX10_way 49 = .ok (.imul, 1) := by decide +kernel
theorem dX10_way_50 : decode cX10_way 50 = .ok (.iload_n 2, 1) := by decide +kernel
theorem dX10_way_51 : decode cX10_way 51 = .ok (.iadd, 1) := by decide +kernel
theorem dX10_way_52 : decode cX10_way 52 = .ok (.iload_n 3, 1) := by decide +kernel
theorem dX10_way_53 : decode cX10_way 53 = .ok (.iastore, 1) := by decide +kernel
theorem dX10_way_54 : decode cX10_way 54 = .ok (.iconst 1, 1) := by decide +kernel
theorem dX10_way_55 : decode cX10_way 55 = .ok (.ireturn, 1) := by decide +kernel
set_option maxHeartbeats 4000000 in
set_option maxRecDepth 100000 in
/-- WellCourtModel.fault -/
theorem m_fault (l : Launch) (G : va_G) (cy : Nat → ClassId) (sz : Nat) (h0 : Nat) (w0 : Nat) (w1 : Nat) (w2 : Nat) (w3 : Nat) (w4 : Nat) (w5 : Nat) (w6 : Nat) (w7 : Nat) (w8 : Nat) (w9 : Nat) (w10 : Nat) (w11 : Nat) (w12 : Nat) (w13 : Nat) (w14 : Nat) (w15 : Nat) (w16 : Nat) (w17 : Nat) (w18 : Nat) (w19 : Nat) (w20 : Nat) (w21 : Nat) (w22 : Nat) (w23 : Nat) (w24 : Nat) (w25 : Nat) (w26 : Nat) (w27 : Nat) (w28 : Nat) (w29 : Nat) (w30 : Nat) (w31 : Nat) (w32 : Nat) (w33 : Nat) (w34 : Nat) (w35 : Nat) (w36 : Nat) (w37 : Nat)   : gMi l yX10_fault cX10_fault 1 (some .int) ({ frames := 0, cells := 0, slots := 0, locals := 0 }) G cy sz [.ref h0] [(h0, .inr (10, [.int 0, .ref w0, .ref w1, .ref w2, .ref w3, .ref w4, .ref w5, .int 0, .ref w6, .int 0, .int 0, .int 0, .int 0, .int 0, .int 0, .int 0, .int 0, .long 0, .int 0, .int 0, .ref w7, .ref w8, .ref w9, .ref w10, .ref w11, .ref w12, .ref w13, .ref w14, .int 0, .int 0, .int 0, .ref w15, .ref w16, .ref w17, .ref w18, .ref w19, .ref w20, .int 0, .ref w21, .ref w22, .ref w23, .ref w24, .ref w25, .ref w26, .ref w27, .ref w28, .ref w29, .ref w30, .ref w31, .ref w32, .ref w33, .ref w34, .ref w35, .ref w36, .ref w37, .int (-1), .int 0, .int 0, .int 0]))] (fun (r : Int32) (u : Unit) => r = 0) (fun (u : Unit) => []) := by
  refine gz_start (fun A => gQi G cy _ _ A) (by decide) (Nat.le_of_ble_eq_true rfl) ?_
  intro p e s m below meth c A ls H hx hb hr hml hlocks hin hown hts hK hov hsz hP hD hS hA hl
  have hl : lv_has ls 1 [(0, .ref h0)] := hl
  refine lv_aload_n hx hb dX10_fault_0 rfl (lv_at hl 0 rfl) ?_
  refine lv_iconst (v := 0) hx hb dX10_fault_1 (by decide) ?_
  refine va_put (ci := 10) (v := .int 0) (ty := .int) (C := RX10) (T := TX10) (N := 59) hx hb hts inX10 tyX10 tyX10_ok nmX10 hown hK hP hD hS 0 rfl rfl 0 (by decide) (hts _ gm_901) (fun _ h9 => h9) rfl (by decide +kernel) rfl rfl (Nat.le_of_ble_eq_true rfl) dX10_fault_2 (fun H locs hP hD hS => ?_)
  have hP : va_P G vwCl [(h0, .inr (10, [.int 0, .ref w0, .ref w1, .ref w2, .ref w3, .ref w4, .ref w5, .int 0, .ref w6, .int 0, .int 0, .int 0, .int 0, .int 0, .int 0, .int 0, .int 0, .long 0, .int 0, .int 0, .ref w7, .ref w8, .ref w9, .ref w10, .ref w11, .ref w12, .ref w13, .ref w14, .int 0, .int 0, .int 0, .ref w15, .ref w16, .ref w17, .ref w18, .ref w19, .ref w20, .int 0, .ref w21, .ref w22, .ref w23, .ref w24, .ref w25, .ref w26, .ref w27, .ref w28, .ref w29, .ref w30, .ref w31, .ref w32, .ref w33, .ref w34, .ref w35, .ref w36, .ref w37, .int (-1), .int 0, .int 0, .int 0]))] H := hP
  have hD : va_D A [(h0, .inr (10, [.int 0, .ref w0, .ref w1, .ref w2, .ref w3, .ref w4, .ref w5, .int 0, .ref w6, .int 0, .int 0, .int 0, .int 0, .int 0, .int 0, .int 0, .int 0, .long 0, .int 0, .int 0, .ref w7, .ref w8, .ref w9, .ref w10, .ref w11, .ref w12, .ref w13, .ref w14, .int 0, .int 0, .int 0, .ref w15, .ref w16, .ref w17, .ref w18, .ref w19, .ref w20, .int 0, .ref w21, .ref w22, .ref w23, .ref w24, .ref w25, .ref w26, .ref w27, .ref w28, .ref w29, .ref w30, .ref w31, .ref w32, .ref w33, .ref w34, .ref w35, .ref w36, .ref w37, .int (-1), .int 0, .int 0, .int 0]))] := hD
  refine lv_aload_n hx hb dX10_fault_5 rfl (lv_at hl 0 rfl) ?_
  refine va_get (ci := 10) (v := .int 0) (C := RX10) (T := TX10) (N := 59) hx hb hts inX10 hown hK hP 0 rfl rfl 15 (by decide) (hts _ gm_916) (fun _ h9 => h9) rfl dX10_fault_6 ?_
  exact gz_iret (p := p) (l := l) (e := e) (s := s) (m := m) (below := below) (meth := meth) (c := c) (H := H) (cells := 0) (slots := 0) (mc := 0) (ms := 0) (cf := (fun (u : Unit) => [])) (post := (fun (r : Int32) (u : Unit) => r = 0)) hx hb hr hlocks hK hP hD hS () [] rfl rfl (by decide) rfl (by exact Nat.le_of_ble_eq_true rfl) (by exact Nat.le_of_ble_eq_true rfl) dX10_fault_9

set_option maxHeartbeats 4000000 in
set_option maxRecDepth 100000 in
/-- WellCourtModel.next -/
theorem m_next (l : Launch) (G : va_G) (cy : Nat → ClassId) (sz : Nat) (h0 : Nat) (w0 : Nat) (w1 : Nat) (w2 : Nat) (w3 : Nat) (w4 : Nat) (w5 : Nat) (w6 : Nat) (w7 : Nat) (w8 : Nat) (w9 : Nat) (w10 : Nat) (w11 : Nat) (w12 : Nat) (w13 : Nat) (w14 : Nat) (w15 : Nat) (w16 : Nat) (w17 : Nat) (w18 : Nat) (w19 : Nat) (w20 : Nat) (w21 : Nat) (w22 : Nat) (w23 : Nat) (w24 : Nat) (w25 : Nat) (w26 : Nat) (w27 : Nat) (w28 : Nat) (w29 : Nat) (w30 : Nat) (w31 : Nat) (w32 : Nat) (w33 : Nat) (w34 : Nat) (w35 : Nat) (w36 : Nat) (w37 : Nat)   : gMi l yX10_next cX10_next 2 (some .boolean) ({ frames := 1, cells := 0, slots := 0, locals := 22 }) G cy sz [.ref h0] [(h0, .inr (10, [.int 0, .ref w0, .ref w1, .ref w2, .ref w3, .ref w4, .ref w5, .int 0, .ref w6, .int 0, .int 0, .int 0, .int 0, .int 0, .int 0, .int 0, .int 0, .long 0, .int 0, .int 0, .ref w7, .ref w8, .ref w9, .ref w10, .ref w11, .ref w12, .ref w13, .ref w14, .int 0, .int 0, .int 0, .ref w15, .ref w16, .ref w17, .ref w18, .ref w19, .ref w20, .int 0, .ref w21, .ref w22, .ref w23, .ref w24, .ref w25, .ref w26, .ref w27, .ref w28, .ref w29, .ref w30, .ref w31, .ref w32, .ref w33, .ref w34, .ref w35, .ref w36, .ref w37, .int (-1), .int 0, .int 0, .int 0])), (w0, .inl (cy 2, 6, .inl (fun _ => 0)))] (fun (r : Int32) (u : Unit) => r = 1) (fun (u : Unit) => []) := by
  refine gz_start (fun A => gQi G cy _ _ A) (by decide) (Nat.le_of_ble_eq_true rfl) ?_
  intro p e s m below meth c A ls H hx hb hr hml hlocks hin hown hts hK hov hsz hP hD hS hA hl
  have hl : lv_has ls 2 [(0, .ref h0)] := hl
  refine lv_aload_n hx hb dX10_next_0 rfl (lv_at hl 0 rfl) ?_
  refine lv_iconst (v := 0) hx hb dX10_next_1 (by decide) ?_
  refine va_put (ci := 10) (v := .int 0) (ty := .int) (C := RX10) (T := TX10) (N := 59) hx hb hts inX10 tyX10 tyX10_ok nmX10 hown hK hP hD hS 0 rfl rfl 0 (by decide) (hts _ gm_901) (fun _ h9 => h9) rfl (by decide +kernel) rfl rfl (Nat.le_of_ble_eq_true rfl) dX10_next_2 (fun H locs hP hD hS => ?_)
  have hP : va_P G vwCl [(h0, .inr (10, [.int 0, .ref w0, .ref w1, .ref w2, .ref w3, .ref w4, .ref w5, .int 0, .ref w6, .int 0, .int 0, .int 0, .int 0, .int 0, .int 0, .int 0, .int 0, .long 0, .int 0, .int 0, .ref w7, .ref w8, .ref w9, .ref w10, .ref w11, .ref w12, .ref w13, .ref w14, .int 0, .int 0, .int 0, .ref w15, .ref w16, .ref w17, .ref w18, .ref w19, .ref w20, .int 0, .ref w21, .ref w22, .ref w23, .ref w24, .ref w25, .ref w26, .ref w27, .ref w28, .ref w29, .ref w30, .ref w31, .ref w32, .ref w33, .ref w34, .ref w35, .ref w36, .ref w37, .int (-1), .int 0, .int 0, .int 0])), (w0, .inl (cy 2, 6, .inl (fun _ => 0)))] H := hP
  have hD : va_D A [(h0, .inr (10, [.int 0, .ref w0, .ref w1, .ref w2, .ref w3, .ref w4, .ref w5, .int 0, .ref w6, .int 0, .int 0, .int 0, .int 0, .int 0, .int 0, .int 0, .int 0, .long 0, .int 0, .int 0, .ref w7, .ref w8, .ref w9, .ref w10, .ref w11, .ref w12, .ref w13, .ref w14, .int 0, .int 0, .int 0, .ref w15, .ref w16, .ref w17, .ref w18, .ref w19, .ref w20, .int 0, .ref w21, .ref w22, .ref w23, .ref w24, .ref w25, .ref w26, .ref w27, .ref w28, .ref w29, .ref w30, .ref w31, .ref w32, .ref w33, .ref w34, .ref w35, .ref w36, .ref w37, .int (-1), .int 0, .int 0, .int 0])), (w0, .inl (cy 2, 6, .inl (fun _ => 0)))] := hD
  refine lv_aload_n hx hb dX10_next_5 rfl (lv_at hl 0 rfl) ?_
  refine va_get (ci := 10) (v := .int 0) (C := RX10) (T := TX10) (N := 59) hx hb hts inX10 hown hK hP 0 rfl rfl 7 (by decide) (hts _ gm_908) (fun _ h9 => h9) rfl dX10_next_6 ?_
  refine lv_sipush (v := 199) hx hb dX10_next_9 (by decide) ?_
  refine lv_icmp_ne (tgt := 17) hx hb dX10_next_12 (by decide) (fun _ => ?_) (fun h9 => absurd h9 (by decide))
  refine lv_aload_n hx hb dX10_next_17 rfl (lv_at hl 0 rfl) ?_
  refine lv_dup hx hb dX10_next_18 rfl ?_
  refine va_get (ci := 10) (v := .int 0) (C := RX10) (T := TX10) (N := 59) hx hb hts inX10 hown hK hP 0 rfl rfl 7 (by decide) (hts _ gm_908) (fun _ h9 => h9) rfl dX10_next_19 ?_
  refine lv_iconst (v := 1) hx hb dX10_next_22 (by decide) ?_
  refine lv_iadd hx hb dX10_next_23 ?_
  refine lv_topi (fun x_1 ex_1 => ?_)
  obtain rfl : x_1 = (1 : Int32) := ex_1.trans (by decide)
  refine va_put (ci := 10) (v := .int 1) (ty := .int) (C := RX10) (T := TX10) (N := 59) hx hb hts inX10 tyX10 tyX10_ok nmX10 hown hK hP hD hS 0 rfl rfl 7 (by decide) (hts _ gm_908) (fun _ h9 => h9) rfl (by decide +kernel) rfl rfl (Nat.le_of_ble_eq_true rfl) dX10_next_24 (fun H locs hP hD hS => ?_)
  have hP : va_P G vwCl [(h0, .inr (10, [.int 0, .ref w0, .ref w1, .ref w2, .ref w3, .ref w4, .ref w5, .int 1, .ref w6, .int 0, .int 0, .int 0, .int 0, .int 0, .int 0, .int 0, .int 0, .long 0, .int 0, .int 0, .ref w7, .ref w8, .ref w9, .ref w10, .ref w11, .ref w12, .ref w13, .ref w14, .int 0, .int 0, .int 0, .ref w15, .ref w16, .ref w17, .ref w18, .ref w19, .ref w20, .int 0, .ref w21, .ref w22, .ref w23, .ref w24, .ref w25, .ref w26, .ref w27, .ref w28, .ref w29, .ref w30, .ref w31, .ref w32, .ref w33, .ref w34, .ref w35, .ref w36, .ref w37, .int (-1), .int 0, .int 0, .int 0])), (w0, .inl (cy 2, 6, .inl (fun _ => 0)))] H := hP
  have hD : va_D A [(h0, .inr (10, [.int 0, .ref w0, .ref w1, .ref w2, .ref w3, .ref w4, .ref w5, .int 1, .ref w6, .int 0, .int 0, .int 0, .int 0, .int 0, .int 0, .int 0, .int 0, .long 0, .int 0, .int 0, .ref w7, .ref w8, .ref w9, .ref w10, .ref w11, .ref w12, .ref w13, .ref w14, .int 0, .int 0, .int 0, .ref w15, .ref w16, .ref w17, .ref w18, .ref w19, .ref w20, .int 0, .ref w21, .ref w22, .ref w23, .ref w24, .ref w25, .ref w26, .ref w27, .ref w28, .ref w29, .ref w30, .ref w31, .ref w32, .ref w33, .ref w34, .ref w35, .ref w36, .ref w37, .int (-1), .int 0, .int 0, .int 0])), (w0, .inl (cy 2, 6, .inl (fun _ => 0)))] := hD
  refine lv_iconst (v := 0) hx hb dX10_next_27 (by decide) ?_
  refine lv_istore_n (lv' := [(1, .int 0), (0, .ref h0)]) hx hb dX10_next_28 rfl hl (by decide) rfl (fun ls hl => ?_)
  refine lv_iload_n hx hb dX10_next_29 rfl (lv_at hl 0 rfl) ?_
  refine lv_bipush (v := 6) hx hb dX10_next_30 (by decide) ?_
  refine lv_icmp_ge (tgt := 115) hx hb dX10_next_32 (by decide) (fun h9 => absurd h9 (by decide)) (fun _ => ?_)
  refine lv_aload_n hx hb dX10_next_35 rfl (lv_at hl 1 rfl) ?_
  refine va_get (ci := 10) (v := .ref w0) (C := RX10) (T := TX10) (N := 59) hx hb hts inX10 hown hK hP 0 rfl rfl 1 (by decide) (hts _ gm_902) (fun _ h9 => h9) rfl dX10_next_36 ?_
  refine lv_iload_n hx hb dX10_next_39 rfl (lv_at hl 0 rfl) ?_
  refine va_zald hx hb hK hP 1 2 rfl rfl (vp_in_iff.mpr (by decide)) dX10_next_40 ?_
  refine lv_topi (fun x_2 ex_2 => ?_)
  obtain rfl : x_2 = (0 : Int32) := ex_2
  refine lv_if_ne (tgt := 47) hx hb dX10_next_41 (by decide) (fun h9 => absurd (by decide) h9) (fun _ => ?_)
  refine lv_goto (tgt := 109) hx hb dX10_next_44 (by decide) ?_
  refine lv_iinc (v := (1)) (lv' := [(1, .int 1), (0, .ref h0)]) hx hb dX10_next_109 hl (k := 0) rfl (by decide) (by decide) rfl (fun ls hl => ?_)
  refine lv_goto (tgt := 29) hx hb dX10_next_112 (by decide) ?_
  refine lv_iload_n hx hb dX10_next_29 rfl (lv_at hl 0 rfl) ?_
  refine lv_bipush (v := 6) hx hb dX10_next_30 (by decide) ?_
  refine lv_icmp_ge (tgt := 115) hx hb dX10_next_32 (by decide) (fun h9 => absurd h9 (by decide)) (fun _ => ?_)
  refine lv_aload_n hx hb dX10_next_35 rfl (lv_at hl 1 rfl) ?_
  refine va_get (ci := 10) (v := .ref w0) (C := RX10) (T := TX10) (N := 59) hx hb hts inX10 hown hK hP 0 rfl rfl 1 (by decide) (hts _ gm_902) (fun _ h9 => h9) rfl dX10_next_36 ?_
  refine lv_iload_n hx hb dX10_next_39 rfl (lv_at hl 0 rfl) ?_
  refine va_zald hx hb hK hP 1 2 rfl rfl (vp_in_iff.mpr (by decide)) dX10_next_40 ?_
  refine lv_topi (fun x_3 ex_3 => ?_)
  obtain rfl : x_3 = (0 : Int32) := ex_3
  refine lv_if_ne (tgt := 47) hx hb dX10_next_41 (by decide) (fun h9 => absurd (by decide) h9) (fun _ => ?_)
  refine lv_goto (tgt := 109) hx hb dX10_next_44 (by decide) ?_
  refine lv_iinc (v := (2)) (lv' := [(1, .int 2), (0, .ref h0)]) hx hb dX10_next_109 hl (k := 0) rfl (by decide) (by decide) rfl (fun ls hl => ?_)
  refine lv_goto (tgt := 29) hx hb dX10_next_112 (by decide) ?_
  refine lv_iload_n hx hb dX10_next_29 rfl (lv_at hl 0 rfl) ?_
  refine lv_bipush (v := 6) hx hb dX10_next_30 (by decide) ?_
  refine lv_icmp_ge (tgt := 115) hx hb dX10_next_32 (by decide) (fun h9 => absurd h9 (by decide)) (fun _ => ?_)
  refine lv_aload_n hx hb dX10_next_35 rfl (lv_at hl 1 rfl) ?_
  refine va_get (ci := 10) (v := .ref w0) (C := RX10) (T := TX10) (N := 59) hx hb hts inX10 hown hK hP 0 rfl rfl 1 (by decide) (hts _ gm_902) (fun _ h9 => h9) rfl dX10_next_36 ?_
  refine lv_iload_n hx hb dX10_next_39 rfl (lv_at hl 0 rfl) ?_
  refine va_zald hx hb hK hP 1 2 rfl rfl (vp_in_iff.mpr (by decide)) dX10_next_40 ?_
  refine lv_topi (fun x_4 ex_4 => ?_)
  obtain rfl : x_4 = (0 : Int32) := ex_4
  refine lv_if_ne (tgt := 47) hx hb dX10_next_41 (by decide) (fun h9 => absurd (by decide) h9) (fun _ => ?_)
  refine lv_goto (tgt := 109) hx hb dX10_next_44 (by decide) ?_
  refine lv_iinc (v := (3)) (lv' := [(1, .int 3), (0, .ref h0)]) hx hb dX10_next_109 hl (k := 0) rfl (by decide) (by decide) rfl (fun ls hl => ?_)
  refine lv_goto (tgt := 29) hx hb dX10_next_112 (by decide) ?_
  refine lv_iload_n hx hb dX10_next_29 rfl (lv_at hl 0 rfl) ?_
  refine lv_bipush (v := 6) hx hb dX10_next_30 (by decide) ?_
  refine lv_icmp_ge (tgt := 115) hx hb dX10_next_32 (by decide) (fun h9 => absurd h9 (by decide)) (fun _ => ?_)
  refine lv_aload_n hx hb dX10_next_35 rfl (lv_at hl 1 rfl) ?_
  refine va_get (ci := 10) (v := .ref w0) (C := RX10) (T := TX10) (N := 59) hx hb hts inX10 hown hK hP 0 rfl rfl 1 (by decide) (hts _ gm_902) (fun _ h9 => h9) rfl dX10_next_36 ?_
  refine lv_iload_n hx hb dX10_next_39 rfl (lv_at hl 0 rfl) ?_
  refine va_zald hx hb hK hP 1 2 rfl rfl (vp_in_iff.mpr (by decide)) dX10_next_40 ?_
  refine lv_topi (fun x_5 ex_5 => ?_)
  obtain rfl : x_5 = (0 : Int32) := ex_5
  refine lv_if_ne (tgt := 47) hx hb dX10_next_41 (by decide) (fun h9 => absurd (by decide) h9) (fun _ => ?_)
  refine lv_goto (tgt := 109) hx hb dX10_next_44 (by decide) ?_
  refine lv_iinc (v := (4)) (lv' := [(1, .int 4), (0, .ref h0)]) hx hb dX10_next_109 hl (k := 0) rfl (by decide) (by decide) rfl (fun ls hl => ?_)
  refine lv_goto (tgt := 29) hx hb dX10_next_112 (by decide) ?_
  refine lv_iload_n hx hb dX10_next_29 rfl (lv_at hl 0 rfl) ?_
  refine lv_bipush (v := 6) hx hb dX10_next_30 (by decide) ?_
  refine lv_icmp_ge (tgt := 115) hx hb dX10_next_32 (by decide) (fun h9 => absurd h9 (by decide)) (fun _ => ?_)
  refine lv_aload_n hx hb dX10_next_35 rfl (lv_at hl 1 rfl) ?_
  refine va_get (ci := 10) (v := .ref w0) (C := RX10) (T := TX10) (N := 59) hx hb hts inX10 hown hK hP 0 rfl rfl 1 (by decide) (hts _ gm_902) (fun _ h9 => h9) rfl dX10_next_36 ?_
  refine lv_iload_n hx hb dX10_next_39 rfl (lv_at hl 0 rfl) ?_
  refine va_zald hx hb hK hP 1 2 rfl rfl (vp_in_iff.mpr (by decide)) dX10_next_40 ?_
  refine lv_topi (fun x_6 ex_6 => ?_)
  obtain rfl : x_6 = (0 : Int32) := ex_6
  refine lv_if_ne (tgt := 47) hx hb dX10_next_41 (by decide) (fun h9 => absurd (by decide) h9) (fun _ => ?_)
  refine lv_goto (tgt := 109) hx hb dX10_next_44 (by decide) ?_
  refine lv_iinc (v := (5)) (lv' := [(1, .int 5), (0, .ref h0)]) hx hb dX10_next_109 hl (k := 0) rfl (by decide) (by decide) rfl (fun ls hl => ?_)
  refine lv_goto (tgt := 29) hx hb dX10_next_112 (by decide) ?_
  refine lv_iload_n hx hb dX10_next_29 rfl (lv_at hl 0 rfl) ?_
  refine lv_bipush (v := 6) hx hb dX10_next_30 (by decide) ?_
  refine lv_icmp_ge (tgt := 115) hx hb dX10_next_32 (by decide) (fun h9 => absurd h9 (by decide)) (fun _ => ?_)
  refine lv_aload_n hx hb dX10_next_35 rfl (lv_at hl 1 rfl) ?_
  refine va_get (ci := 10) (v := .ref w0) (C := RX10) (T := TX10) (N := 59) hx hb hts inX10 hown hK hP 0 rfl rfl 1 (by decide) (hts _ gm_902) (fun _ h9 => h9) rfl dX10_next_36 ?_
  refine lv_iload_n hx hb dX10_next_39 rfl (lv_at hl 0 rfl) ?_
  refine va_zald hx hb hK hP 1 2 rfl rfl (vp_in_iff.mpr (by decide)) dX10_next_40 ?_
  refine lv_topi (fun x_7 ex_7 => ?_)
  obtain rfl : x_7 = (0 : Int32) := ex_7
  refine lv_if_ne (tgt := 47) hx hb dX10_next_41 (by decide) (fun h9 => absurd (by decide) h9) (fun _ => ?_)
  refine lv_goto (tgt := 109) hx hb dX10_next_44 (by decide) ?_
  refine lv_iinc (v := (6)) (lv' := [(1, .int 6), (0, .ref h0)]) hx hb dX10_next_109 hl (k := 0) rfl (by decide) (by decide) rfl (fun ls hl => ?_)
  refine lv_goto (tgt := 29) hx hb dX10_next_112 (by decide) ?_
  refine lv_iload_n hx hb dX10_next_29 rfl (lv_at hl 0 rfl) ?_
  refine lv_bipush (v := 6) hx hb dX10_next_30 (by decide) ?_
  refine lv_icmp_ge (tgt := 115) hx hb dX10_next_32 (by decide) (fun _ => ?_) (fun h9 => absurd (by decide) h9)
  refine lv_aload_n hx hb dX10_next_115 rfl (lv_at hl 1 rfl) ?_
  refine gz_aftv (va_runV (As := []) (rest := []) ⟨hx, hb, hml, hown, hts⟩ (m_droughts l G cy H.size h0 w0 w1 w2 w3 w4 w5 w6 w7 w8 w9 w10 w11 w12 w13 w14 w15 w16 w17 w18 w19 w20 w21 w22 w23 w24 w25 w26 w27 w28 w29 w30 w31 w32 w33 w34 w35 w36 w37 0 1 ) ⟨(gz_cb (n := 0) hts gm_1181 gm_12 gm_1184 ⟨by decide +kernel, by decide +kernel, by decide +kernel⟩ ⟨Nat.le_of_ble_eq_true rfl, Nat.le_of_ble_eq_true rfl⟩), hts _ gm_1183, hts _ gs_48⟩ (gz_preV (ci := 10) (q0 := 0) hK hov hP hD [0, 1] (by decide) rfl rfl rfl) rfl rfl hl.1 rfl (lv_room (Nat.le_of_ble_eq_true rfl)) dX10_next_116 ⟨Nat.le_of_ble_eq_true rfl, Nat.le_of_ble_eq_true rfl⟩) hP hD hS hA [0, 1] [] rfl rfl (by decide) (by decide) (fun u_8 H locs hw_8 hP hD hS => ?_)
  have hP : va_P G vwCl [(h0, .inr (10, [.int 0, .ref w0, .ref w1, .ref w2, .ref w3, .ref w4, .ref w5, .int 1, .ref w6, .int 0, .int 0, .int 0, .int 0, .int 0, .int 0, .int 0, .int 0, .long 0, .int 0, .int 0, .ref w7, .ref w8, .ref w9, .ref w10, .ref w11, .ref w12, .ref w13, .ref w14, .int 0, .int 0, .int 0, .ref w15, .ref w16, .ref w17, .ref w18, .ref w19, .ref w20, .int 0, .ref w21, .ref w22, .ref w23, .ref w24, .ref w25, .ref w26, .ref w27, .ref w28, .ref w29, .ref w30, .ref w31, .ref w32, .ref w33, .ref w34, .ref w35, .ref w36, .ref w37, .int (-1), .int 0, .int 0, .int 0])), (w0, .inl (cy 2, 6, .inl (fun _ => 0)))] H := hP
  have hD : va_D A [(h0, .inr (10, [.int 0, .ref w0, .ref w1, .ref w2, .ref w3, .ref w4, .ref w5, .int 1, .ref w6, .int 0, .int 0, .int 0, .int 0, .int 0, .int 0, .int 0, .int 0, .long 0, .int 0, .int 0, .ref w7, .ref w8, .ref w9, .ref w10, .ref w11, .ref w12, .ref w13, .ref w14, .int 0, .int 0, .int 0, .ref w15, .ref w16, .ref w17, .ref w18, .ref w19, .ref w20, .int 0, .ref w21, .ref w22, .ref w23, .ref w24, .ref w25, .ref w26, .ref w27, .ref w28, .ref w29, .ref w30, .ref w31, .ref w32, .ref w33, .ref w34, .ref w35, .ref w36, .ref w37, .int (-1), .int 0, .int 0, .int 0])), (w0, .inl (cy 2, 6, .inl (fun _ => 0)))] := hD
  refine lv_iconst (v := 1) hx hb dX10_next_119 (by decide) ?_
  exact gz_iret (p := p) (l := l) (e := e) (s := s) (m := m) (below := below) (meth := meth) (c := c) (H := H) (cells := 0) (slots := 0) (mc := 0) (ms := 0) (cf := (fun (u : Unit) => [])) (post := (fun (r : Int32) (u : Unit) => r = 1)) hx hb hr hlocks hK hP hD hS () [] (by decide) rfl (by decide) rfl (by exact Nat.le_of_ble_eq_true rfl) (by exact Nat.le_of_ble_eq_true rfl) dX10_next_120

set_option maxHeartbeats 4000000 in
set_option maxRecDepth 100000 in
/-- WellCourtModel.water -/
theorem m_water (l : Launch) (G : va_G) (cy : Nat → ClassId) (sz : Nat) (h0 : Nat) (w0 : Nat) (w1 : Nat) (w2 : Nat) (w3 : Nat) (w4 : Nat) (w5 : Nat) (w6 : Nat) (w7 : Nat) (w8 : Nat) (w9 : Nat) (w10 : Nat) (w11 : Nat) (w12 : Nat) (w13 : Nat) (w14 : Nat) (w15 : Nat) (w16 : Nat) (w17 : Nat) (w18 : Nat) (w19 : Nat) (w20 : Nat) (w21 : Nat) (w22 : Nat) (w23 : Nat) (w24 : Nat) (w25 : Nat) (w26 : Nat) (w27 : Nat) (w28 : Nat) (w29 : Nat) (w30 : Nat) (w31 : Nat) (w32 : Nat) (w33 : Nat) (w34 : Nat) (w35 : Nat) (w36 : Nat) (w37 : Nat) (x : Int32) (y : Int32) (Xx : Int) (Xy : Int) (kx : x.toInt = Xx) (ky : y.toInt = Xy)  : gMi l yX10_water cX10_water 3 (some .int) ({ frames := 1, cells := 0, slots := 0, locals := 21 }) G cy sz [.ref h0, .int x, .int y] [(h0, .inr (10, [.int 0, .ref w0, .ref w1, .ref w2, .ref w3, .ref w4, .ref w5, .int 0, .ref w6, .int 0, .int 0, .int 0, .int 0, .int 0, .int 0, .int 0, .int 0, .long 0, .int 0, .int 0, .ref w7, .ref w8, .ref w9, .ref w10, .ref w11, .ref w12, .ref w13, .ref w14, .int 0, .int 0, .int 0, .ref w15, .ref w16, .ref w17, .ref w18, .ref w19, .ref w20, .int 0, .ref w21, .ref w22, .ref w23, .ref w24, .ref w25, .ref w26, .ref w27, .ref w28, .ref w29, .ref w30, .ref w31, .ref w32, .ref w33, .ref w34, .ref w35, .ref w36, .ref w37, .int (-1), .int 0, .int 0, .int 0])), (w0, .inl (cy 2, 6, .inl (fun _ => 0)))] (fun (r : Int32) (u : Unit) => r = (-1)) (fun (u : Unit) => []) := by
  refine gz_start (fun A => gQi G cy _ _ A) (by decide) (Nat.le_of_ble_eq_true rfl) ?_
  intro p e s m below meth c A ls H hx hb hr hml hlocks hin hown hts hK hov hsz hP hD hS hA hl
  have hl : lv_has ls 3 [(0, .ref h0), (1, .int x), (2, .int y)] := hl
  refine lv_aload_n hx hb dX10_water_0 rfl (lv_at hl 0 rfl) ?_
  refine lv_iconst (v := 0) hx hb dX10_water_1 (by decide) ?_
  refine va_put (ci := 10) (v := .int 0) (ty := .int) (C := RX10) (T := TX10) (N := 59) hx hb hts inX10 tyX10 tyX10_ok nmX10 hown hK hP hD hS 0 rfl rfl 0 (by decide) (hts _ gm_901) (fun _ h9 => h9) rfl (by decide +kernel) rfl rfl (Nat.le_of_ble_eq_true rfl) dX10_water_2 (fun H locs hP hD hS => ?_)
  have hP : va_P G vwCl [(h0, .inr (10, [.int 0, .ref w0, .ref w1, .ref w2, .ref w3, .ref w4, .ref w5, .int 0, .ref w6, .int 0, .int 0, .int 0, .int 0, .int 0, .int 0, .int 0, .int 0, .long 0, .int 0, .int 0, .ref w7, .ref w8, .ref w9, .ref w10, .ref w11, .ref w12, .ref w13, .ref w14, .int 0, .int 0, .int 0, .ref w15, .ref w16, .ref w17, .ref w18, .ref w19, .ref w20, .int 0, .ref w21, .ref w22, .ref w23, .ref w24, .ref w25, .ref w26, .ref w27, .ref w28, .ref w29, .ref w30, .ref w31, .ref w32, .ref w33, .ref w34, .ref w35, .ref w36, .ref w37, .int (-1), .int 0, .int 0, .int 0])), (w0, .inl (cy 2, 6, .inl (fun _ => 0)))] H := hP
  have hD : va_D A [(h0, .inr (10, [.int 0, .ref w0, .ref w1, .ref w2, .ref w3, .ref w4, .ref w5, .int 0, .ref w6, .int 0, .int 0, .int 0, .int 0, .int 0, .int 0, .int 0, .int 0, .long 0, .int 0, .int 0, .ref w7, .ref w8, .ref w9, .ref w10, .ref w11, .ref w12, .ref w13, .ref w14, .int 0, .int 0, .int 0, .ref w15, .ref w16, .ref w17, .ref w18, .ref w19, .ref w20, .int 0, .ref w21, .ref w22, .ref w23, .ref w24, .ref w25, .ref w26, .ref w27, .ref w28, .ref w29, .ref w30, .ref w31, .ref w32, .ref w33, .ref w34, .ref w35, .ref w36, .ref w37, .int (-1), .int 0, .int 0, .int 0])), (w0, .inl (cy 2, 6, .inl (fun _ => 0)))] := hD
  refine lv_aload_n hx hb dX10_water_5 rfl (lv_at hl 0 rfl) ?_
  refine lv_iload_n hx hb dX10_water_6 rfl (lv_at hl 1 rfl) ?_
  refine gz_afti (va_runV (As := [.int x]) (rest := []) ⟨hx, hb, hml, hown, hts⟩ (m_hasWell l G cy H.size h0 w0 w1 w2 w3 w4 w5 w6 w7 w8 w9 w10 w11 w12 w13 w14 w15 w16 w17 w18 w19 w20 w21 w22 w23 w24 w25 w26 w27 w28 w29 w30 w31 w32 w33 w34 w35 w36 w37 x x.toInt rfl) ⟨(gz_cb (n := 1) hts gm_1201 gm_12 gm_1204 ⟨by decide +kernel, by decide +kernel, by decide +kernel⟩ ⟨Nat.le_of_ble_eq_true rfl, Nat.le_of_ble_eq_true rfl⟩), hts _ gm_1203, hts _ gs_50⟩ (gz_preV (ci := 10) (q0 := 0) hK hov hP hD [0, 1] (by decide) rfl rfl rfl) rfl rfl hl.1 rfl (lv_room (Nat.le_of_ble_eq_true rfl)) dX10_water_7 ⟨Nat.le_of_ble_eq_true rfl, Nat.le_of_ble_eq_true rfl⟩) hP hD hS hA [0, 1] [] rfl rfl (by decide) (by decide) (fun r_1 u_1 H locs hw_1 hP hD hS => ?_)
  have hP : va_P G vwCl [(h0, .inr (10, [.int 0, .ref w0, .ref w1, .ref w2, .ref w3, .ref w4, .ref w5, .int 0, .ref w6, .int 0, .int 0, .int 0, .int 0, .int 0, .int 0, .int 0, .int 0, .long 0, .int 0, .int 0, .ref w7, .ref w8, .ref w9, .ref w10, .ref w11, .ref w12, .ref w13, .ref w14, .int 0, .int 0, .int 0, .ref w15, .ref w16, .ref w17, .ref w18, .ref w19, .ref w20, .int 0, .ref w21, .ref w22, .ref w23, .ref w24, .ref w25, .ref w26, .ref w27, .ref w28, .ref w29, .ref w30, .ref w31, .ref w32, .ref w33, .ref w34, .ref w35, .ref w36, .ref w37, .int (-1), .int 0, .int 0, .int 0])), (w0, .inl (cy 2, 6, .inl (fun _ => 0)))] H := hP
  have hD : va_D A [(h0, .inr (10, [.int 0, .ref w0, .ref w1, .ref w2, .ref w3, .ref w4, .ref w5, .int 0, .ref w6, .int 0, .int 0, .int 0, .int 0, .int 0, .int 0, .int 0, .int 0, .long 0, .int 0, .int 0, .ref w7, .ref w8, .ref w9, .ref w10, .ref w11, .ref w12, .ref w13, .ref w14, .int 0, .int 0, .int 0, .ref w15, .ref w16, .ref w17, .ref w18, .ref w19, .ref w20, .int 0, .ref w21, .ref w22, .ref w23, .ref w24, .ref w25, .ref w26, .ref w27, .ref w28, .ref w29, .ref w30, .ref w31, .ref w32, .ref w33, .ref w34, .ref w35, .ref w36, .ref w37, .int (-1), .int 0, .int 0, .int 0])), (w0, .inl (cy 2, 6, .inl (fun _ => 0)))] := hD
  obtain rfl := hw_1
  refine lv_if_ne (tgt := 15) hx hb dX10_water_10 (by decide) (fun h9 => absurd (by decide) h9) (fun _ => ?_)
  refine lv_iconst (v := (-1)) hx hb dX10_water_13 (by decide) ?_
  exact gz_iret (p := p) (l := l) (e := e) (s := s) (m := m) (below := below) (meth := meth) (c := c) (H := H) (cells := 0) (slots := 0) (mc := 0) (ms := 0) (cf := (fun (u : Unit) => [])) (post := (fun (r : Int32) (u : Unit) => r = (-1))) hx hb hr hlocks hK hP hD hS () [] rfl rfl (by decide) rfl (by exact Nat.le_of_ble_eq_true rfl) (by exact Nat.le_of_ble_eq_true rfl) dX10_water_14

set_option maxHeartbeats 4000000 in
set_option maxRecDepth 100000 in
/-- WellCourtModel.owner -/
theorem m_owner (l : Launch) (G : va_G) (cy : Nat → ClassId) (sz : Nat) (h0 : Nat) (w0 : Nat) (w1 : Nat) (w2 : Nat) (w3 : Nat) (w4 : Nat) (w5 : Nat) (w6 : Nat) (w7 : Nat) (w8 : Nat) (w9 : Nat) (w10 : Nat) (w11 : Nat) (w12 : Nat) (w13 : Nat) (w14 : Nat) (w15 : Nat) (w16 : Nat) (w17 : Nat) (w18 : Nat) (w19 : Nat) (w20 : Nat) (w21 : Nat) (w22 : Nat) (w23 : Nat) (w24 : Nat) (w25 : Nat) (w26 : Nat) (w27 : Nat) (w28 : Nat) (w29 : Nat) (w30 : Nat) (w31 : Nat) (w32 : Nat) (w33 : Nat) (w34 : Nat) (w35 : Nat) (w36 : Nat) (w37 : Nat) (x : Int32) (y : Int32) (Xx : Int) (Xy : Int) (kx : x.toInt = Xx) (ky : y.toInt = Xy)  : gMi l yX10_owner cX10_owner 3 (some .int) ({ frames := 0, cells := 0, slots := 0, locals := 0 }) G cy sz [.ref h0, .int x, .int y] [(h0, .inr (10, [.int 0, .ref w0, .ref w1, .ref w2, .ref w3, .ref w4, .ref w5, .int 0, .ref w6, .int 0, .int 0, .int 0, .int 0, .int 0, .int 0, .int 0, .int 0, .long 0, .int 0, .int 0, .ref w7, .ref w8, .ref w9, .ref w10, .ref w11, .ref w12, .ref w13, .ref w14, .int 0, .int 0, .int 0, .ref w15, .ref w16, .ref w17, .ref w18, .ref w19, .ref w20, .int 0, .ref w21, .ref w22, .ref w23, .ref w24, .ref w25, .ref w26, .ref w27, .ref w28, .ref w29, .ref w30, .ref w31, .ref w32, .ref w33, .ref w34, .ref w35, .ref w36, .ref w37, .int (-1), .int 0, .int 0, .int 0])), (w5, .inl (cy 0, 1200, .inl (fun _ => (-1))))] (fun (r : Int32) (u : Unit) => r = (-1)) (fun (u : Unit) => []) := by
  refine gz_start (fun A => gQi G cy _ _ A) (by decide) (Nat.le_of_ble_eq_true rfl) ?_
  intro p e s m below meth c A ls H hx hb hr hml hlocks hin hown hts hK hov hsz hP hD hS hA hl
  have hl : lv_has ls 3 [(0, .ref h0), (1, .int x), (2, .int y)] := hl
  refine lv_aload_n hx hb dX10_owner_0 rfl (lv_at hl 0 rfl) ?_
  refine lv_iconst (v := 0) hx hb dX10_owner_1 (by decide) ?_
  refine va_put (ci := 10) (v := .int 0) (ty := .int) (C := RX10) (T := TX10) (N := 59) hx hb hts inX10 tyX10 tyX10_ok nmX10 hown hK hP hD hS 0 rfl rfl 0 (by decide) (hts _ gm_901) (fun _ h9 => h9) rfl (by decide +kernel) rfl rfl (Nat.le_of_ble_eq_true rfl) dX10_owner_2 (fun H locs hP hD hS => ?_)
  have hP : va_P G vwCl [(h0, .inr (10, [.int 0, .ref w0, .ref w1, .ref w2, .ref w3, .ref w4, .ref w5, .int 0, .ref w6, .int 0, .int 0, .int 0, .int 0, .int 0, .int 0, .int 0, .int 0, .long 0, .int 0, .int 0, .ref w7, .ref w8, .ref w9, .ref w10, .ref w11, .ref w12, .ref w13, .ref w14, .int 0, .int 0, .int 0, .ref w15, .ref w16, .ref w17, .ref w18, .ref w19, .ref w20, .int 0, .ref w21, .ref w22, .ref w23, .ref w24, .ref w25, .ref w26, .ref w27, .ref w28, .ref w29, .ref w30, .ref w31, .ref w32, .ref w33, .ref w34, .ref w35, .ref w36, .ref w37, .int (-1), .int 0, .int 0, .int 0])), (w5, .inl (cy 0, 1200, .inl (fun _ => (-1))))] H := hP
  have hD : va_D A [(h0, .inr (10, [.int 0, .ref w0, .ref w1, .ref w2, .ref w3, .ref w4, .ref w5, .int 0, .ref w6, .int 0, .int 0, .int 0, .int 0, .int 0, .int 0, .int 0, .int 0, .long 0, .int 0, .int 0, .ref w7, .ref w8, .ref w9, .ref w10, .ref w11, .ref w12, .ref w13, .ref w14, .int 0, .int 0, .int 0, .ref w15, .ref w16, .ref w17, .ref w18, .ref w19, .ref w20, .int 0, .ref w21, .ref w22, .ref w23, .ref w24, .ref w25, .ref w26, .ref w27, .ref w28, .ref w29, .ref w30, .ref w31, .ref w32, .ref w33, .ref w34, .ref w35, .ref w36, .ref w37, .int (-1), .int 0, .int 0, .int 0])), (w5, .inl (cy 0, 1200, .inl (fun _ => (-1))))] := hD
  refine lv_iload_n hx hb dX10_owner_5 rfl (lv_at hl 1 rfl) ?_
  refine lv_if_lt (tgt := 26) hx hb dX10_owner_6 (by decide) (fun c_1 => ?_) (fun c_1 => ?_)
  · have ic_1 := gz_lt (rfl : x.toInt = x.toInt) (by decide : (0 : Int32).toInt = 0) c_1
    refine lv_iconst (v := (-1)) hx hb dX10_owner_26 (by decide) ?_
    refine lv_goto (tgt := 42) hx hb dX10_owner_27 (by decide) ?_
    exact gz_iret (p := p) (l := l) (e := e) (s := s) (m := m) (below := below) (meth := meth) (c := c) (H := H) (cells := 0) (slots := 0) (mc := 0) (ms := 0) (cf := (fun (u : Unit) => [])) (post := (fun (r : Int32) (u : Unit) => r = (-1))) hx hb hr hlocks hK hP hD hS () [] rfl rfl (by decide) rfl (by exact Nat.le_of_ble_eq_true rfl) (by exact Nat.le_of_ble_eq_true rfl) dX10_owner_42
  · have ic_1 := gz_nlt (rfl : x.toInt = x.toInt) (by decide : (0 : Int32).toInt = 0) c_1
    refine lv_iload_n hx hb dX10_owner_9 rfl (lv_at hl 1 rfl) ?_
    refine lv_bipush (v := 6) hx hb dX10_owner_10 (by decide) ?_
    refine lv_icmp_ge (tgt := 26) hx hb dX10_owner_12 (by decide) (fun c_2 => ?_) (fun c_2 => ?_)
    · have ic_2 := gz_le (by decide : (6 : Int32).toInt = 6) (rfl : x.toInt = x.toInt) c_2
      refine lv_iconst (v := (-1)) hx hb dX10_owner_26 (by decide) ?_
      refine lv_goto (tgt := 42) hx hb dX10_owner_27 (by decide) ?_
      exact gz_iret (p := p) (l := l) (e := e) (s := s) (m := m) (below := below) (meth := meth) (c := c) (H := H) (cells := 0) (slots := 0) (mc := 0) (ms := 0) (cf := (fun (u : Unit) => [])) (post := (fun (r : Int32) (u : Unit) => r = (-1))) hx hb hr hlocks hK hP hD hS () [] rfl rfl (by decide) rfl (by exact Nat.le_of_ble_eq_true rfl) (by exact Nat.le_of_ble_eq_true rfl) dX10_owner_42
    · have ic_2 := gz_nle (by decide : (6 : Int32).toInt = 6) (rfl : x.toInt = x.toInt) c_2
      refine lv_iload_n hx hb dX10_owner_15 rfl (lv_at hl 2 rfl) ?_
      refine lv_if_lt (tgt := 26) hx hb dX10_owner_16 (by decide) (fun c_3 => ?_) (fun c_3 => ?_)
      · have ic_3 := gz_lt (rfl : y.toInt = y.toInt) (by decide : (0 : Int32).toInt = 0) c_3
        refine lv_iconst (v := (-1)) hx hb dX10_owner_26 (by decide) ?_
        refine lv_goto (tgt := 42) hx hb dX10_owner_27 (by decide) ?_
        exact gz_iret (p := p) (l := l) (e := e) (s := s) (m := m) (below := below) (meth := meth) (c := c) (H := H) (cells := 0) (slots := 0) (mc := 0) (ms := 0) (cf := (fun (u : Unit) => [])) (post := (fun (r : Int32) (u : Unit) => r = (-1))) hx hb hr hlocks hK hP hD hS () [] rfl rfl (by decide) rfl (by exact Nat.le_of_ble_eq_true rfl) (by exact Nat.le_of_ble_eq_true rfl) dX10_owner_42
      · have ic_3 := gz_nlt (rfl : y.toInt = y.toInt) (by decide : (0 : Int32).toInt = 0) c_3
        refine lv_iload_n hx hb dX10_owner_19 rfl (lv_at hl 2 rfl) ?_
        refine lv_sipush (v := 199) hx hb dX10_owner_20 (by decide) ?_
        refine lv_icmp_le (tgt := 30) hx hb dX10_owner_23 (by decide) (fun c_4 => ?_) (fun c_4 => ?_)
        · have ic_4 := gz_le (rfl : y.toInt = y.toInt) (by decide : (199 : Int32).toInt = 199) c_4
          refine lv_aload_n hx hb dX10_owner_30 rfl (lv_at hl 0 rfl) ?_
          refine va_get (ci := 10) (v := .ref w5) (C := RX10) (T := TX10) (N := 59) hx hb hts inX10 hown hK hP 0 rfl rfl 6 (by decide) (hts _ gm_907) (fun _ h9 => h9) rfl dX10_owner_31 ?_
          refine lv_sipush (v := 200) hx hb dX10_owner_34 (by decide) ?_
          refine lv_iload_n hx hb dX10_owner_37 rfl (lv_at hl 1 rfl) ?_
          rcases gz_six (w := x) (by omega) (by omega) with rfl | rfl | rfl | rfl | rfl | rfl
          · skip
            refine lv_imul hx hb dX10_owner_38 ?_
            refine lv_topi (fun x_5 ex_5 => ?_)
            obtain rfl : x_5 = (0 : Int32) := ex_5.trans (by decide)
            refine lv_iload_n hx hb dX10_owner_39 rfl (lv_at hl 2 rfl) ?_
            refine lv_iadd hx hb dX10_owner_40 ?_
            refine lv_topi (fun x_6 ex_6 => ?_)
            have tx_6 : x_6.toInt = 0 + y.toInt := by rw [ex_6]; exact gz_addI (by decide) rfl (by omega) (by omega)
            refine va_iald hx hb hK hP 1 0 rfl rfl (vp_in_iff.mpr ⟨by omega, by omega⟩) dX10_owner_41 ?_
            refine lv_topi (fun x_7 ex_7 => ?_)
            obtain rfl : x_7 = (-1 : Int32) := ex_7
            exact gz_iret (p := p) (l := l) (e := e) (s := s) (m := m) (below := below) (meth := meth) (c := c) (H := H) (cells := 0) (slots := 0) (mc := 0) (ms := 0) (cf := (fun (u : Unit) => [])) (post := (fun (r : Int32) (u : Unit) => r = (-1))) hx hb hr hlocks hK hP hD hS () [] rfl rfl (by decide) rfl (by exact Nat.le_of_ble_eq_true rfl) (by exact Nat.le_of_ble_eq_true rfl) dX10_owner_42
          · skip
            refine lv_imul hx hb dX10_owner_38 ?_
            refine lv_topi (fun x_8 ex_8 => ?_)
            obtain rfl : x_8 = (200 : Int32) := ex_8.trans (by decide)
            refine lv_iload_n hx hb dX10_owner_39 rfl (lv_at hl 2 rfl) ?_
            refine lv_iadd hx hb dX10_owner_40 ?_
            refine lv_topi (fun x_9 ex_9 => ?_)
            have tx_9 : x_9.toInt = 200 + y.toInt := by rw [ex_9]; exact gz_addI (by decide) rfl (by omega) (by omega)
            refine va_iald hx hb hK hP 1 0 rfl rfl (vp_in_iff.mpr ⟨by omega, by omega⟩) dX10_owner_41 ?_
            refine lv_topi (fun x_10 ex_10 => ?_)
            obtain rfl : x_10 = (-1 : Int32) := ex_10
            exact gz_iret (p := p) (l := l) (e := e) (s := s) (m := m) (below := below) (meth := meth) (c := c) (H := H) (cells := 0) (slots := 0) (mc := 0) (ms := 0) (cf := (fun (u : Unit) => [])) (post := (fun (r : Int32) (u : Unit) => r = (-1))) hx hb hr hlocks hK hP hD hS () [] rfl rfl (by decide) rfl (by exact Nat.le_of_ble_eq_true rfl) (by exact Nat.le_of_ble_eq_true rfl) dX10_owner_42
          · skip
            refine lv_imul hx hb dX10_owner_38 ?_
            refine lv_topi (fun x_11 ex_11 => ?_)
            obtain rfl : x_11 = (400 : Int32) := ex_11.trans (by decide)
            refine lv_iload_n hx hb dX10_owner_39 rfl (lv_at hl 2 rfl) ?_
            refine lv_iadd hx hb dX10_owner_40 ?_
            refine lv_topi (fun x_12 ex_12 => ?_)
            have tx_12 : x_12.toInt = 400 + y.toInt := by rw [ex_12]; exact gz_addI (by decide) rfl (by omega) (by omega)
            refine va_iald hx hb hK hP 1 0 rfl rfl (vp_in_iff.mpr ⟨by omega, by omega⟩) dX10_owner_41 ?_
            refine lv_topi (fun x_13 ex_13 => ?_)
            obtain rfl : x_13 = (-1 : Int32) := ex_13
            exact gz_iret (p := p) (l := l) (e := e) (s := s) (m := m) (below := below) (meth := meth) (c := c) (H := H) (cells := 0) (slots := 0) (mc := 0) (ms := 0) (cf := (fun (u : Unit) => [])) (post := (fun (r : Int32) (u : Unit) => r = (-1))) hx hb hr hlocks hK hP hD hS () [] rfl rfl (by decide) rfl (by exact Nat.le_of_ble_eq_true rfl) (by exact Nat.le_of_ble_eq_true rfl) dX10_owner_42
          · skip
            refine lv_imul hx hb dX10_owner_38 ?_
            refine lv_topi (fun x_14 ex_14 => ?_)
            obtain rfl : x_14 = (600 : Int32) := ex_14.trans (by decide)
            refine lv_iload_n hx hb dX10_owner_39 rfl (lv_at hl 2 rfl) ?_
            refine lv_iadd hx hb dX10_owner_40 ?_
            refine lv_topi (fun x_15 ex_15 => ?_)
            have tx_15 : x_15.toInt = 600 + y.toInt := by rw [ex_15]; exact gz_addI (by decide) rfl (by omega) (by omega)
            refine va_iald hx hb hK hP 1 0 rfl rfl (vp_in_iff.mpr ⟨by omega, by omega⟩) dX10_owner_41 ?_
            refine lv_topi (fun x_16 ex_16 => ?_)
            obtain rfl : x_16 = (-1 : Int32) := ex_16
            exact gz_iret (p := p) (l := l) (e := e) (s := s) (m := m) (below := below) (meth := meth) (c := c) (H := H) (cells := 0) (slots := 0) (mc := 0) (ms := 0) (cf := (fun (u : Unit) => [])) (post := (fun (r : Int32) (u : Unit) => r = (-1))) hx hb hr hlocks hK hP hD hS () [] rfl rfl (by decide) rfl (by exact Nat.le_of_ble_eq_true rfl) (by exact Nat.le_of_ble_eq_true rfl) dX10_owner_42
          · skip
            refine lv_imul hx hb dX10_owner_38 ?_
            refine lv_topi (fun x_17 ex_17 => ?_)
            obtain rfl : x_17 = (800 : Int32) := ex_17.trans (by decide)
            refine lv_iload_n hx hb dX10_owner_39 rfl (lv_at hl 2 rfl) ?_
            refine lv_iadd hx hb dX10_owner_40 ?_
            refine lv_topi (fun x_18 ex_18 => ?_)
            have tx_18 : x_18.toInt = 800 + y.toInt := by rw [ex_18]; exact gz_addI (by decide) rfl (by omega) (by omega)
            refine va_iald hx hb hK hP 1 0 rfl rfl (vp_in_iff.mpr ⟨by omega, by omega⟩) dX10_owner_41 ?_
            refine lv_topi (fun x_19 ex_19 => ?_)
            obtain rfl : x_19 = (-1 : Int32) := ex_19
            exact gz_iret (p := p) (l := l) (e := e) (s := s) (m := m) (below := below) (meth := meth) (c := c) (H := H) (cells := 0) (slots := 0) (mc := 0) (ms := 0) (cf := (fun (u : Unit) => [])) (post := (fun (r : Int32) (u : Unit) => r = (-1))) hx hb hr hlocks hK hP hD hS () [] rfl rfl (by decide) rfl (by exact Nat.le_of_ble_eq_true rfl) (by exact Nat.le_of_ble_eq_true rfl) dX10_owner_42
          · skip
            refine lv_imul hx hb dX10_owner_38 ?_
            refine lv_topi (fun x_20 ex_20 => ?_)
            obtain rfl : x_20 = (1000 : Int32) := ex_20.trans (by decide)
            refine lv_iload_n hx hb dX10_owner_39 rfl (lv_at hl 2 rfl) ?_
            refine lv_iadd hx hb dX10_owner_40 ?_
            refine lv_topi (fun x_21 ex_21 => ?_)
            have tx_21 : x_21.toInt = 1000 + y.toInt := by rw [ex_21]; exact gz_addI (by decide) rfl (by omega) (by omega)
            refine va_iald hx hb hK hP 1 0 rfl rfl (vp_in_iff.mpr ⟨by omega, by omega⟩) dX10_owner_41 ?_
            refine lv_topi (fun x_22 ex_22 => ?_)
            obtain rfl : x_22 = (-1 : Int32) := ex_22
            exact gz_iret (p := p) (l := l) (e := e) (s := s) (m := m) (below := below) (meth := meth) (c := c) (H := H) (cells := 0) (slots := 0) (mc := 0) (ms := 0) (cf := (fun (u : Unit) => [])) (post := (fun (r : Int32) (u : Unit) => r = (-1))) hx hb hr hlocks hK hP hD hS () [] rfl rfl (by decide) rfl (by exact Nat.le_of_ble_eq_true rfl) (by exact Nat.le_of_ble_eq_true rfl) dX10_owner_42
        · have ic_4 := gz_nle (rfl : y.toInt = y.toInt) (by decide : (199 : Int32).toInt = 199) c_4
          refine lv_iconst (v := (-1)) hx hb dX10_owner_26 (by decide) ?_
          refine lv_goto (tgt := 42) hx hb dX10_owner_27 (by decide) ?_
          exact gz_iret (p := p) (l := l) (e := e) (s := s) (m := m) (below := below) (meth := meth) (c := c) (H := H) (cells := 0) (slots := 0) (mc := 0) (ms := 0) (cf := (fun (u : Unit) => [])) (post := (fun (r : Int32) (u : Unit) => r = (-1))) hx hb hr hlocks hK hP hD hS () [] rfl rfl (by decide) rfl (by exact Nat.le_of_ble_eq_true rfl) (by exact Nat.le_of_ble_eq_true rfl) dX10_owner_42

set_option maxHeartbeats 4000000 in
set_option maxRecDepth 100000 in
/-- WellCourtModel.may -/
theorem m_may (l : Launch) (G : va_G) (cy : Nat → ClassId) (sz : Nat) (h0 : Nat) (w0 : Nat) (w1 : Nat) (w2 : Nat) (w3 : Nat) (w4 : Nat) (w5 : Nat) (w6 : Nat) (w7 : Nat) (w8 : Nat) (w9 : Nat) (w10 : Nat) (w11 : Nat) (w12 : Nat) (w13 : Nat) (w14 : Nat) (w15 : Nat) (w16 : Nat) (w17 : Nat) (w18 : Nat) (w19 : Nat) (w20 : Nat) (w21 : Nat) (w22 : Nat) (w23 : Nat) (w24 : Nat) (w25 : Nat) (w26 : Nat) (w27 : Nat) (w28 : Nat) (w29 : Nat) (w30 : Nat) (w31 : Nat) (w32 : Nat) (w33 : Nat) (w34 : Nat) (w35 : Nat) (w36 : Nat) (w37 : Nat) (x : Int32) (y : Int32) (Xx : Int) (Xy : Int) (kx : x.toInt = Xx) (ky : y.toInt = Xy)  : gMi l yX10_may cX10_may 3 (some .int) ({ frames := 1, cells := 0, slots := 0, locals := 21 }) G cy sz [.ref h0, .int x, .int y] [(h0, .inr (10, [.int 0, .ref w0, .ref w1, .ref w2, .ref w3, .ref w4, .ref w5, .int 0, .ref w6, .int 0, .int 0, .int 0, .int 0, .int 0, .int 0, .int 0, .int 0, .long 0, .int 0, .int 0, .ref w7, .ref w8, .ref w9, .ref w10, .ref w11, .ref w12, .ref w13, .ref w14, .int 0, .int 0, .int 0, .ref w15, .ref w16, .ref w17, .ref w18, .ref w19, .ref w20, .int 0, .ref w21, .ref w22, .ref w23, .ref w24, .ref w25, .ref w26, .ref w27, .ref w28, .ref w29, .ref w30, .ref w31, .ref w32, .ref w33, .ref w34, .ref w35, .ref w36, .ref w37, .int (-1), .int 0, .int 0, .int 0])), (w0, .inl (cy 2, 6, .inl (fun _ => 0)))] (fun (r : Int32) (u : Unit) => r = (-1)) (fun (u : Unit) => []) := by
  refine gz_start (fun A => gQi G cy _ _ A) (by decide) (Nat.le_of_ble_eq_true rfl) ?_
  intro p e s m below meth c A ls H hx hb hr hml hlocks hin hown hts hK hov hsz hP hD hS hA hl
  have hl : lv_has ls 3 [(0, .ref h0), (1, .int x), (2, .int y)] := hl
  refine lv_aload_n hx hb dX10_may_0 rfl (lv_at hl 0 rfl) ?_
  refine lv_iconst (v := 0) hx hb dX10_may_1 (by decide) ?_
  refine va_put (ci := 10) (v := .int 0) (ty := .int) (C := RX10) (T := TX10) (N := 59) hx hb hts inX10 tyX10 tyX10_ok nmX10 hown hK hP hD hS 0 rfl rfl 0 (by decide) (hts _ gm_901) (fun _ h9 => h9) rfl (by decide +kernel) rfl rfl (Nat.le_of_ble_eq_true rfl) dX10_may_2 (fun H locs hP hD hS => ?_)
  have hP : va_P G vwCl [(h0, .inr (10, [.int 0, .ref w0, .ref w1, .ref w2, .ref w3, .ref w4, .ref w5, .int 0, .ref w6, .int 0, .int 0, .int 0, .int 0, .int 0, .int 0, .int 0, .int 0, .long 0, .int 0, .int 0, .ref w7, .ref w8, .ref w9, .ref w10, .ref w11, .ref w12, .ref w13, .ref w14, .int 0, .int 0, .int 0, .ref w15, .ref w16, .ref w17, .ref w18, .ref w19, .ref w20, .int 0, .ref w21, .ref w22, .ref w23, .ref w24, .ref w25, .ref w26, .ref w27, .ref w28, .ref w29, .ref w30, .ref w31, .ref w32, .ref w33, .ref w34, .ref w35, .ref w36, .ref w37, .int (-1), .int 0, .int 0, .int 0])), (w0, .inl (cy 2, 6, .inl (fun _ => 0)))] H := hP
  have hD : va_D A [(h0, .inr (10, [.int 0, .ref w0, .ref w1, .ref w2, .ref w3, .ref w4, .ref w5, .int 0, .ref w6, .int 0, .int 0, .int 0, .int 0, .int 0, .int 0, .int 0, .int 0, .long 0, .int 0, .int 0, .ref w7, .ref w8, .ref w9, .ref w10, .ref w11, .ref w12, .ref w13, .ref w14, .int 0, .int 0, .int 0, .ref w15, .ref w16, .ref w17, .ref w18, .ref w19, .ref w20, .int 0, .ref w21, .ref w22, .ref w23, .ref w24, .ref w25, .ref w26, .ref w27, .ref w28, .ref w29, .ref w30, .ref w31, .ref w32, .ref w33, .ref w34, .ref w35, .ref w36, .ref w37, .int (-1), .int 0, .int 0, .int 0])), (w0, .inl (cy 2, 6, .inl (fun _ => 0)))] := hD
  refine lv_aload_n hx hb dX10_may_5 rfl (lv_at hl 0 rfl) ?_
  refine lv_iload_n hx hb dX10_may_6 rfl (lv_at hl 1 rfl) ?_
  refine gz_afti (va_runV (As := [.int x]) (rest := []) ⟨hx, hb, hml, hown, hts⟩ (m_hasWell l G cy H.size h0 w0 w1 w2 w3 w4 w5 w6 w7 w8 w9 w10 w11 w12 w13 w14 w15 w16 w17 w18 w19 w20 w21 w22 w23 w24 w25 w26 w27 w28 w29 w30 w31 w32 w33 w34 w35 w36 w37 x x.toInt rfl) ⟨(gz_cb (n := 1) hts gm_1201 gm_12 gm_1204 ⟨by decide +kernel, by decide +kernel, by decide +kernel⟩ ⟨Nat.le_of_ble_eq_true rfl, Nat.le_of_ble_eq_true rfl⟩), hts _ gm_1203, hts _ gs_50⟩ (gz_preV (ci := 10) (q0 := 0) hK hov hP hD [0, 1] (by decide) rfl rfl rfl) rfl rfl hl.1 rfl (lv_room (Nat.le_of_ble_eq_true rfl)) dX10_may_7 ⟨Nat.le_of_ble_eq_true rfl, Nat.le_of_ble_eq_true rfl⟩) hP hD hS hA [0, 1] [] rfl rfl (by decide) (by decide) (fun r_1 u_1 H locs hw_1 hP hD hS => ?_)
  have hP : va_P G vwCl [(h0, .inr (10, [.int 0, .ref w0, .ref w1, .ref w2, .ref w3, .ref w4, .ref w5, .int 0, .ref w6, .int 0, .int 0, .int 0, .int 0, .int 0, .int 0, .int 0, .int 0, .long 0, .int 0, .int 0, .ref w7, .ref w8, .ref w9, .ref w10, .ref w11, .ref w12, .ref w13, .ref w14, .int 0, .int 0, .int 0, .ref w15, .ref w16, .ref w17, .ref w18, .ref w19, .ref w20, .int 0, .ref w21, .ref w22, .ref w23, .ref w24, .ref w25, .ref w26, .ref w27, .ref w28, .ref w29, .ref w30, .ref w31, .ref w32, .ref w33, .ref w34, .ref w35, .ref w36, .ref w37, .int (-1), .int 0, .int 0, .int 0])), (w0, .inl (cy 2, 6, .inl (fun _ => 0)))] H := hP
  have hD : va_D A [(h0, .inr (10, [.int 0, .ref w0, .ref w1, .ref w2, .ref w3, .ref w4, .ref w5, .int 0, .ref w6, .int 0, .int 0, .int 0, .int 0, .int 0, .int 0, .int 0, .int 0, .long 0, .int 0, .int 0, .ref w7, .ref w8, .ref w9, .ref w10, .ref w11, .ref w12, .ref w13, .ref w14, .int 0, .int 0, .int 0, .ref w15, .ref w16, .ref w17, .ref w18, .ref w19, .ref w20, .int 0, .ref w21, .ref w22, .ref w23, .ref w24, .ref w25, .ref w26, .ref w27, .ref w28, .ref w29, .ref w30, .ref w31, .ref w32, .ref w33, .ref w34, .ref w35, .ref w36, .ref w37, .int (-1), .int 0, .int 0, .int 0])), (w0, .inl (cy 2, 6, .inl (fun _ => 0)))] := hD
  obtain rfl := hw_1
  refine lv_if_eq (tgt := 20) hx hb dX10_may_10 (by decide) (fun _ => ?_) (fun h9 => absurd (by decide) h9)
  refine lv_iconst (v := (-1)) hx hb dX10_may_20 (by decide) ?_
  exact gz_iret (p := p) (l := l) (e := e) (s := s) (m := m) (below := below) (meth := meth) (c := c) (H := H) (cells := 0) (slots := 0) (mc := 0) (ms := 0) (cf := (fun (u : Unit) => [])) (post := (fun (r : Int32) (u : Unit) => r = (-1))) hx hb hr hlocks hK hP hD hS () [] rfl rfl (by decide) rfl (by exact Nat.le_of_ble_eq_true rfl) (by exact Nat.le_of_ble_eq_true rfl) dX10_may_21

set_option maxHeartbeats 4000000 in
set_option maxRecDepth 100000 in
/-- WellCourtModel.lend -/
theorem m_lend (l : Launch) (G : va_G) (cy : Nat → ClassId) (sz : Nat) (h0 : Nat) (w0 : Nat) (w1 : Nat) (w2 : Nat) (w3 : Nat) (w4 : Nat) (w5 : Nat) (w6 : Nat) (w7 : Nat) (w8 : Nat) (w9 : Nat) (w10 : Nat) (w11 : Nat) (w12 : Nat) (w13 : Nat) (w14 : Nat) (w15 : Nat) (w16 : Nat) (w17 : Nat) (w18 : Nat) (w19 : Nat) (w20 : Nat) (w21 : Nat) (w22 : Nat) (w23 : Nat) (w24 : Nat) (w25 : Nat) (w26 : Nat) (w27 : Nat) (w28 : Nat) (w29 : Nat) (w30 : Nat) (w31 : Nat) (w32 : Nat) (w33 : Nat) (w34 : Nat) (w35 : Nat) (w36 : Nat) (w37 : Nat) (x : Int32) (y : Int32) (z : Int32) (Xx : Int) (Xy : Int) (Xz : Int) (kx : x.toInt = Xx) (ky : y.toInt = Xy) (kz : z.toInt = Xz)  : gMi l yX10_lend cX10_lend 5 (some .int) ({ frames := 1, cells := 0, slots := 0, locals := 20 }) G cy sz [.ref h0, .int x, .int y, .int z] [(h0, .inr (10, [.int 0, .ref w0, .ref w1, .ref w2, .ref w3, .ref w4, .ref w5, .int 0, .ref w6, .int 0, .int 0, .int 0, .int 0, .int 0, .int 0, .int 0, .int 0, .long 0, .int 0, .int 0, .ref w7, .ref w8, .ref w9, .ref w10, .ref w11, .ref w12, .ref w13, .ref w14, .int 0, .int 0, .int 0, .ref w15, .ref w16, .ref w17, .ref w18, .ref w19, .ref w20, .int 0, .ref w21, .ref w22, .ref w23, .ref w24, .ref w25, .ref w26, .ref w27, .ref w28, .ref w29, .ref w30, .ref w31, .ref w32, .ref w33, .ref w34, .ref w35, .ref w36, .ref w37, .int (-1), .int 0, .int 0, .int 0])), (w5, .inl (cy 0, 1200, .inl (fun _ => (-1))))] (fun (r : Int32) (u : Unit) => r = (-1)) (fun (u : Unit) => []) := by
  refine gz_start (fun A => gQi G cy _ _ A) (by decide) (Nat.le_of_ble_eq_true rfl) ?_
  intro p e s m below meth c A ls H hx hb hr hml hlocks hin hown hts hK hov hsz hP hD hS hA hl
  have hl : lv_has ls 5 [(0, .ref h0), (1, .int x), (2, .int y), (3, .int z)] := hl
  refine lv_aload_n hx hb dX10_lend_0 rfl (lv_at hl 0 rfl) ?_
  refine lv_iconst (v := 0) hx hb dX10_lend_1 (by decide) ?_
  refine va_put (ci := 10) (v := .int 0) (ty := .int) (C := RX10) (T := TX10) (N := 59) hx hb hts inX10 tyX10 tyX10_ok nmX10 hown hK hP hD hS 0 rfl rfl 0 (by decide) (hts _ gm_901) (fun _ h9 => h9) rfl (by decide +kernel) rfl rfl (Nat.le_of_ble_eq_true rfl) dX10_lend_2 (fun H locs hP hD hS => ?_)
  have hP : va_P G vwCl [(h0, .inr (10, [.int 0, .ref w0, .ref w1, .ref w2, .ref w3, .ref w4, .ref w5, .int 0, .ref w6, .int 0, .int 0, .int 0, .int 0, .int 0, .int 0, .int 0, .int 0, .long 0, .int 0, .int 0, .ref w7, .ref w8, .ref w9, .ref w10, .ref w11, .ref w12, .ref w13, .ref w14, .int 0, .int 0, .int 0, .ref w15, .ref w16, .ref w17, .ref w18, .ref w19, .ref w20, .int 0, .ref w21, .ref w22, .ref w23, .ref w24, .ref w25, .ref w26, .ref w27, .ref w28, .ref w29, .ref w30, .ref w31, .ref w32, .ref w33, .ref w34, .ref w35, .ref w36, .ref w37, .int (-1), .int 0, .int 0, .int 0])), (w5, .inl (cy 0, 1200, .inl (fun _ => (-1))))] H := hP
  have hD : va_D A [(h0, .inr (10, [.int 0, .ref w0, .ref w1, .ref w2, .ref w3, .ref w4, .ref w5, .int 0, .ref w6, .int 0, .int 0, .int 0, .int 0, .int 0, .int 0, .int 0, .int 0, .long 0, .int 0, .int 0, .ref w7, .ref w8, .ref w9, .ref w10, .ref w11, .ref w12, .ref w13, .ref w14, .int 0, .int 0, .int 0, .ref w15, .ref w16, .ref w17, .ref w18, .ref w19, .ref w20, .int 0, .ref w21, .ref w22, .ref w23, .ref w24, .ref w25, .ref w26, .ref w27, .ref w28, .ref w29, .ref w30, .ref w31, .ref w32, .ref w33, .ref w34, .ref w35, .ref w36, .ref w37, .int (-1), .int 0, .int 0, .int 0])), (w5, .inl (cy 0, 1200, .inl (fun _ => (-1))))] := hD
  refine lv_iload_n hx hb dX10_lend_5 rfl (lv_at hl 1 rfl) ?_
  refine lv_if_lt (tgt := 68) hx hb dX10_lend_6 (by decide) (fun c_1 => ?_) (fun c_1 => ?_)
  · have ic_1 := gz_lt (rfl : x.toInt = x.toInt) (by decide : (0 : Int32).toInt = 0) c_1
    refine lv_iconst (v := (-1)) hx hb dX10_lend_68 (by decide) ?_
    exact gz_iret (p := p) (l := l) (e := e) (s := s) (m := m) (below := below) (meth := meth) (c := c) (H := H) (cells := 0) (slots := 0) (mc := 0) (ms := 0) (cf := (fun (u : Unit) => [])) (post := (fun (r : Int32) (u : Unit) => r = (-1))) hx hb hr hlocks hK hP hD hS () [] rfl rfl (by decide) rfl (by exact Nat.le_of_ble_eq_true rfl) (by exact Nat.le_of_ble_eq_true rfl) dX10_lend_69
  · have ic_1 := gz_nlt (rfl : x.toInt = x.toInt) (by decide : (0 : Int32).toInt = 0) c_1
    refine lv_iload_n hx hb dX10_lend_9 rfl (lv_at hl 1 rfl) ?_
    refine lv_bipush (v := 6) hx hb dX10_lend_10 (by decide) ?_
    refine lv_icmp_ge (tgt := 68) hx hb dX10_lend_12 (by decide) (fun c_2 => ?_) (fun c_2 => ?_)
    · have ic_2 := gz_le (by decide : (6 : Int32).toInt = 6) (rfl : x.toInt = x.toInt) c_2
      refine lv_iconst (v := (-1)) hx hb dX10_lend_68 (by decide) ?_
      exact gz_iret (p := p) (l := l) (e := e) (s := s) (m := m) (below := below) (meth := meth) (c := c) (H := H) (cells := 0) (slots := 0) (mc := 0) (ms := 0) (cf := (fun (u : Unit) => [])) (post := (fun (r : Int32) (u : Unit) => r = (-1))) hx hb hr hlocks hK hP hD hS () [] rfl rfl (by decide) rfl (by exact Nat.le_of_ble_eq_true rfl) (by exact Nat.le_of_ble_eq_true rfl) dX10_lend_69
    · have ic_2 := gz_nle (by decide : (6 : Int32).toInt = 6) (rfl : x.toInt = x.toInt) c_2
      refine lv_iload_n hx hb dX10_lend_15 rfl (lv_at hl 3 rfl) ?_
      refine gz_afti (va_runS (As := [.int z]) (rest := []) ⟨hx, hb, hml, hown, hts⟩ (m_isClan l G cy H.size z z.toInt rfl) ⟨(gz_cb (n := 1) hts gm_1213 gm_12 gm_1215 ⟨by decide +kernel, by decide +kernel, by decide +kernel⟩ ⟨Nat.le_of_ble_eq_true rfl, Nat.le_of_ble_eq_true rfl⟩), hts _ gm_1214⟩ (gz_preS hK hov hP hD [] (by decide) rfl) rfl rfl hl.1 rfl (lv_room (Nat.le_of_ble_eq_true rfl)) dX10_lend_16 ⟨Nat.le_of_ble_eq_true rfl, Nat.le_of_ble_eq_true rfl⟩) hP hD hS hA [] [0, 1] rfl rfl (by decide) (by decide) (fun r_3 u_3 H locs hw_3 hP hD hS => ?_)
      have hP : va_P G vwCl [(h0, .inr (10, [.int 0, .ref w0, .ref w1, .ref w2, .ref w3, .ref w4, .ref w5, .int 0, .ref w6, .int 0, .int 0, .int 0, .int 0, .int 0, .int 0, .int 0, .int 0, .long 0, .int 0, .int 0, .ref w7, .ref w8, .ref w9, .ref w10, .ref w11, .ref w12, .ref w13, .ref w14, .int 0, .int 0, .int 0, .ref w15, .ref w16, .ref w17, .ref w18, .ref w19, .ref w20, .int 0, .ref w21, .ref w22, .ref w23, .ref w24, .ref w25, .ref w26, .ref w27, .ref w28, .ref w29, .ref w30, .ref w31, .ref w32, .ref w33, .ref w34, .ref w35, .ref w36, .ref w37, .int (-1), .int 0, .int 0, .int 0])), (w5, .inl (cy 0, 1200, .inl (fun _ => (-1))))] H := hP
      have hD : va_D A [(h0, .inr (10, [.int 0, .ref w0, .ref w1, .ref w2, .ref w3, .ref w4, .ref w5, .int 0, .ref w6, .int 0, .int 0, .int 0, .int 0, .int 0, .int 0, .int 0, .int 0, .long 0, .int 0, .int 0, .ref w7, .ref w8, .ref w9, .ref w10, .ref w11, .ref w12, .ref w13, .ref w14, .int 0, .int 0, .int 0, .ref w15, .ref w16, .ref w17, .ref w18, .ref w19, .ref w20, .int 0, .ref w21, .ref w22, .ref w23, .ref w24, .ref w25, .ref w26, .ref w27, .ref w28, .ref w29, .ref w30, .ref w31, .ref w32, .ref w33, .ref w34, .ref w35, .ref w36, .ref w37, .int (-1), .int 0, .int 0, .int 0])), (w5, .inl (cy 0, 1200, .inl (fun _ => (-1))))] := hD
      rcases hw_3 with ⟨rfl, hw_3_0, hw_3_1⟩ | ⟨rfl, hw_3_0⟩
      · skip
        refine lv_if_eq (tgt := 68) hx hb dX10_lend_19 (by decide) (fun h9 => absurd h9 (by decide)) (fun _ => ?_)
        refine lv_iload_n hx hb dX10_lend_22 rfl (lv_at hl 2 rfl) ?_
        refine lv_aload_n hx hb dX10_lend_23 rfl (lv_at hl 0 rfl) ?_
        refine va_get (ci := 10) (v := .int 0) (C := RX10) (T := TX10) (N := 59) hx hb hts inX10 hown hK hP 0 rfl rfl 7 (by decide) (hts _ gm_908) (fun _ h9 => h9) rfl dX10_lend_24 ?_
        refine lv_icmp_le (tgt := 68) hx hb dX10_lend_27 (by decide) (fun c_4 => ?_) (fun c_4 => ?_)
        · have ic_4 := gz_le (rfl : y.toInt = y.toInt) (by decide : (0 : Int32).toInt = 0) c_4
          refine lv_iconst (v := (-1)) hx hb dX10_lend_68 (by decide) ?_
          exact gz_iret (p := p) (l := l) (e := e) (s := s) (m := m) (below := below) (meth := meth) (c := c) (H := H) (cells := 0) (slots := 0) (mc := 0) (ms := 0) (cf := (fun (u : Unit) => [])) (post := (fun (r : Int32) (u : Unit) => r = (-1))) hx hb hr hlocks hK hP hD hS () [] rfl rfl (by decide) rfl (by exact Nat.le_of_ble_eq_true rfl) (by exact Nat.le_of_ble_eq_true rfl) dX10_lend_69
        · have ic_4 := gz_nle (rfl : y.toInt = y.toInt) (by decide : (0 : Int32).toInt = 0) c_4
          refine lv_iload_n hx hb dX10_lend_30 rfl (lv_at hl 2 rfl) ?_
          refine lv_sipush (v := 199) hx hb dX10_lend_31 (by decide) ?_
          refine lv_icmp_gt (tgt := 68) hx hb dX10_lend_34 (by decide) (fun c_5 => ?_) (fun c_5 => ?_)
          · have ic_5 := gz_lt (by decide : (199 : Int32).toInt = 199) (rfl : y.toInt = y.toInt) c_5
            refine lv_iconst (v := (-1)) hx hb dX10_lend_68 (by decide) ?_
            exact gz_iret (p := p) (l := l) (e := e) (s := s) (m := m) (below := below) (meth := meth) (c := c) (H := H) (cells := 0) (slots := 0) (mc := 0) (ms := 0) (cf := (fun (u : Unit) => [])) (post := (fun (r : Int32) (u : Unit) => r = (-1))) hx hb hr hlocks hK hP hD hS () [] rfl rfl (by decide) rfl (by exact Nat.le_of_ble_eq_true rfl) (by exact Nat.le_of_ble_eq_true rfl) dX10_lend_69
          · have ic_5 := gz_nlt (by decide : (199 : Int32).toInt = 199) (rfl : y.toInt = y.toInt) c_5
            refine lv_aload_n hx hb dX10_lend_37 rfl (lv_at hl 0 rfl) ?_
            refine va_get (ci := 10) (v := .ref w5) (C := RX10) (T := TX10) (N := 59) hx hb hts inX10 hown hK hP 0 rfl rfl 6 (by decide) (hts _ gm_907) (fun _ h9 => h9) rfl dX10_lend_38 ?_
            refine lv_sipush (v := 200) hx hb dX10_lend_41 (by decide) ?_
            refine lv_iload_n hx hb dX10_lend_44 rfl (lv_at hl 1 rfl) ?_
            rcases gz_six (w := x) (by omega) (by omega) with rfl | rfl | rfl | rfl | rfl | rfl
            · skip
              refine lv_imul hx hb dX10_lend_45 ?_
              refine lv_topi (fun x_6 ex_6 => ?_)
              obtain rfl : x_6 = (0 : Int32) := ex_6.trans (by decide)
              refine lv_iload_n hx hb dX10_lend_46 rfl (lv_at hl 2 rfl) ?_
              refine lv_iadd hx hb dX10_lend_47 ?_
              refine lv_topi (fun x_7 ex_7 => ?_)
              have tx_7 : x_7.toInt = 0 + y.toInt := by rw [ex_7]; exact gz_addI (by decide) rfl (by omega) (by omega)
              refine va_iald hx hb hK hP 1 0 rfl rfl (vp_in_iff.mpr ⟨by omega, by omega⟩) dX10_lend_48 ?_
              refine lv_topi (fun x_8 ex_8 => ?_)
              obtain rfl : x_8 = (-1 : Int32) := ex_8
              refine lv_if_lt (tgt := 68) hx hb dX10_lend_49 (by decide) (fun _ => ?_) (fun h9 => absurd (by decide) h9)
              refine lv_iconst (v := (-1)) hx hb dX10_lend_68 (by decide) ?_
              exact gz_iret (p := p) (l := l) (e := e) (s := s) (m := m) (below := below) (meth := meth) (c := c) (H := H) (cells := 0) (slots := 0) (mc := 0) (ms := 0) (cf := (fun (u : Unit) => [])) (post := (fun (r : Int32) (u : Unit) => r = (-1))) hx hb hr hlocks hK hP hD hS () [] rfl rfl (by decide) rfl (by exact Nat.le_of_ble_eq_true rfl) (by exact Nat.le_of_ble_eq_true rfl) dX10_lend_69
            · skip
              refine lv_imul hx hb dX10_lend_45 ?_
              refine lv_topi (fun x_9 ex_9 => ?_)
              obtain rfl : x_9 = (200 : Int32) := ex_9.trans (by decide)
              refine lv_iload_n hx hb dX10_lend_46 rfl (lv_at hl 2 rfl) ?_
              refine lv_iadd hx hb dX10_lend_47 ?_
              refine lv_topi (fun x_10 ex_10 => ?_)
              have tx_10 : x_10.toInt = 200 + y.toInt := by rw [ex_10]; exact gz_addI (by decide) rfl (by omega) (by omega)
              refine va_iald hx hb hK hP 1 0 rfl rfl (vp_in_iff.mpr ⟨by omega, by omega⟩) dX10_lend_48 ?_
              refine lv_topi (fun x_11 ex_11 => ?_)
              obtain rfl : x_11 = (-1 : Int32) := ex_11
              refine lv_if_lt (tgt := 68) hx hb dX10_lend_49 (by decide) (fun _ => ?_) (fun h9 => absurd (by decide) h9)
              refine lv_iconst (v := (-1)) hx hb dX10_lend_68 (by decide) ?_
              exact gz_iret (p := p) (l := l) (e := e) (s := s) (m := m) (below := below) (meth := meth) (c := c) (H := H) (cells := 0) (slots := 0) (mc := 0) (ms := 0) (cf := (fun (u : Unit) => [])) (post := (fun (r : Int32) (u : Unit) => r = (-1))) hx hb hr hlocks hK hP hD hS () [] rfl rfl (by decide) rfl (by exact Nat.le_of_ble_eq_true rfl) (by exact Nat.le_of_ble_eq_true rfl) dX10_lend_69
            · skip
              refine lv_imul hx hb dX10_lend_45 ?_
              refine lv_topi (fun x_12 ex_12 => ?_)
              obtain rfl : x_12 = (400 : Int32) := ex_12.trans (by decide)
              refine lv_iload_n hx hb dX10_lend_46 rfl (lv_at hl 2 rfl) ?_
              refine lv_iadd hx hb dX10_lend_47 ?_
              refine lv_topi (fun x_13 ex_13 => ?_)
              have tx_13 : x_13.toInt = 400 + y.toInt := by rw [ex_13]; exact gz_addI (by decide) rfl (by omega) (by omega)
              refine va_iald hx hb hK hP 1 0 rfl rfl (vp_in_iff.mpr ⟨by omega, by omega⟩) dX10_lend_48 ?_
              refine lv_topi (fun x_14 ex_14 => ?_)
              obtain rfl : x_14 = (-1 : Int32) := ex_14
              refine lv_if_lt (tgt := 68) hx hb dX10_lend_49 (by decide) (fun _ => ?_) (fun h9 => absurd (by decide) h9)
              refine lv_iconst (v := (-1)) hx hb dX10_lend_68 (by decide) ?_
              exact gz_iret (p := p) (l := l) (e := e) (s := s) (m := m) (below := below) (meth := meth) (c := c) (H := H) (cells := 0) (slots := 0) (mc := 0) (ms := 0) (cf := (fun (u : Unit) => [])) (post := (fun (r : Int32) (u : Unit) => r = (-1))) hx hb hr hlocks hK hP hD hS () [] rfl rfl (by decide) rfl (by exact Nat.le_of_ble_eq_true rfl) (by exact Nat.le_of_ble_eq_true rfl) dX10_lend_69
            · skip
              refine lv_imul hx hb dX10_lend_45 ?_
              refine lv_topi (fun x_15 ex_15 => ?_)
              obtain rfl : x_15 = (600 : Int32) := ex_15.trans (by decide)
              refine lv_iload_n hx hb dX10_lend_46 rfl (lv_at hl 2 rfl) ?_
              refine lv_iadd hx hb dX10_lend_47 ?_
              refine lv_topi (fun x_16 ex_16 => ?_)
              have tx_16 : x_16.toInt = 600 + y.toInt := by rw [ex_16]; exact gz_addI (by decide) rfl (by omega) (by omega)
              refine va_iald hx hb hK hP 1 0 rfl rfl (vp_in_iff.mpr ⟨by omega, by omega⟩) dX10_lend_48 ?_
              refine lv_topi (fun x_17 ex_17 => ?_)
              obtain rfl : x_17 = (-1 : Int32) := ex_17
              refine lv_if_lt (tgt := 68) hx hb dX10_lend_49 (by decide) (fun _ => ?_) (fun h9 => absurd (by decide) h9)
              refine lv_iconst (v := (-1)) hx hb dX10_lend_68 (by decide) ?_
              exact gz_iret (p := p) (l := l) (e := e) (s := s) (m := m) (below := below) (meth := meth) (c := c) (H := H) (cells := 0) (slots := 0) (mc := 0) (ms := 0) (cf := (fun (u : Unit) => [])) (post := (fun (r : Int32) (u : Unit) => r = (-1))) hx hb hr hlocks hK hP hD hS () [] rfl rfl (by decide) rfl (by exact Nat.le_of_ble_eq_true rfl) (by exact Nat.le_of_ble_eq_true rfl) dX10_lend_69
            · skip
              refine lv_imul hx hb dX10_lend_45 ?_
              refine lv_topi (fun x_18 ex_18 => ?_)
              obtain rfl : x_18 = (800 : Int32) := ex_18.trans (by decide)
              refine lv_iload_n hx hb dX10_lend_46 rfl (lv_at hl 2 rfl) ?_
              refine lv_iadd hx hb dX10_lend_47 ?_
              refine lv_topi (fun x_19 ex_19 => ?_)
              have tx_19 : x_19.toInt = 800 + y.toInt := by rw [ex_19]; exact gz_addI (by decide) rfl (by omega) (by omega)
              refine va_iald hx hb hK hP 1 0 rfl rfl (vp_in_iff.mpr ⟨by omega, by omega⟩) dX10_lend_48 ?_
              refine lv_topi (fun x_20 ex_20 => ?_)
              obtain rfl : x_20 = (-1 : Int32) := ex_20
              refine lv_if_lt (tgt := 68) hx hb dX10_lend_49 (by decide) (fun _ => ?_) (fun h9 => absurd (by decide) h9)
              refine lv_iconst (v := (-1)) hx hb dX10_lend_68 (by decide) ?_
              exact gz_iret (p := p) (l := l) (e := e) (s := s) (m := m) (below := below) (meth := meth) (c := c) (H := H) (cells := 0) (slots := 0) (mc := 0) (ms := 0) (cf := (fun (u : Unit) => [])) (post := (fun (r : Int32) (u : Unit) => r = (-1))) hx hb hr hlocks hK hP hD hS () [] rfl rfl (by decide) rfl (by exact Nat.le_of_ble_eq_true rfl) (by exact Nat.le_of_ble_eq_true rfl) dX10_lend_69
            · skip
              refine lv_imul hx hb dX10_lend_45 ?_
              refine lv_topi (fun x_21 ex_21 => ?_)
              obtain rfl : x_21 = (1000 : Int32) := ex_21.trans (by decide)
              refine lv_iload_n hx hb dX10_lend_46 rfl (lv_at hl 2 rfl) ?_
              refine lv_iadd hx hb dX10_lend_47 ?_
              refine lv_topi (fun x_22 ex_22 => ?_)
              have tx_22 : x_22.toInt = 1000 + y.toInt := by rw [ex_22]; exact gz_addI (by decide) rfl (by omega) (by omega)
              refine va_iald hx hb hK hP 1 0 rfl rfl (vp_in_iff.mpr ⟨by omega, by omega⟩) dX10_lend_48 ?_
              refine lv_topi (fun x_23 ex_23 => ?_)
              obtain rfl : x_23 = (-1 : Int32) := ex_23
              refine lv_if_lt (tgt := 68) hx hb dX10_lend_49 (by decide) (fun _ => ?_) (fun h9 => absurd (by decide) h9)
              refine lv_iconst (v := (-1)) hx hb dX10_lend_68 (by decide) ?_
              exact gz_iret (p := p) (l := l) (e := e) (s := s) (m := m) (below := below) (meth := meth) (c := c) (H := H) (cells := 0) (slots := 0) (mc := 0) (ms := 0) (cf := (fun (u : Unit) => [])) (post := (fun (r : Int32) (u : Unit) => r = (-1))) hx hb hr hlocks hK hP hD hS () [] rfl rfl (by decide) rfl (by exact Nat.le_of_ble_eq_true rfl) (by exact Nat.le_of_ble_eq_true rfl) dX10_lend_69
      · skip
        refine lv_if_eq (tgt := 68) hx hb dX10_lend_19 (by decide) (fun _ => ?_) (fun h9 => absurd (by decide) h9)
        refine lv_iconst (v := (-1)) hx hb dX10_lend_68 (by decide) ?_
        exact gz_iret (p := p) (l := l) (e := e) (s := s) (m := m) (below := below) (meth := meth) (c := c) (H := H) (cells := 0) (slots := 0) (mc := 0) (ms := 0) (cf := (fun (u : Unit) => [])) (post := (fun (r : Int32) (u : Unit) => r = (-1))) hx hb hr hlocks hK hP hD hS () [] rfl rfl (by decide) rfl (by exact Nat.le_of_ble_eq_true rfl) (by exact Nat.le_of_ble_eq_true rfl) dX10_lend_69

set_option maxHeartbeats 4000000 in
set_option maxRecDepth 100000 in
/-- WellCourtModel.cantDraw -/
theorem m_cantDraw (l : Launch) (G : va_G) (cy : Nat → ClassId) (sz : Nat) (h0 : Nat) (w0 : Nat) (w1 : Nat) (w2 : Nat) (w3 : Nat) (w4 : Nat) (w5 : Nat) (w6 : Nat) (w7 : Nat) (w8 : Nat) (w9 : Nat) (w10 : Nat) (w11 : Nat) (w12 : Nat) (w13 : Nat) (w14 : Nat) (w15 : Nat) (w16 : Nat) (w17 : Nat) (w18 : Nat) (w19 : Nat) (w20 : Nat) (w21 : Nat) (w22 : Nat) (w23 : Nat) (w24 : Nat) (w25 : Nat) (w26 : Nat) (w27 : Nat) (w28 : Nat) (w29 : Nat) (w30 : Nat) (w31 : Nat) (w32 : Nat) (w33 : Nat) (w34 : Nat) (w35 : Nat) (w36 : Nat) (w37 : Nat) (x : Int32) (y : Int32) (z : Int32) (Xx : Int) (Xy : Int) (Xz : Int) (kx : x.toInt = Xx) (ky : y.toInt = Xy) (kz : z.toInt = Xz)  : gMi l yX10_cantDraw cX10_cantDraw 4 (some .boolean) ({ frames := 1, cells := 0, slots := 0, locals := 21 }) G cy sz [.ref h0, .int x, .int y, .int z] [(h0, .inr (10, [.int 0, .ref w0, .ref w1, .ref w2, .ref w3, .ref w4, .ref w5, .int 0, .ref w6, .int 0, .int 0, .int 0, .int 0, .int 0, .int 0, .int 0, .int 0, .long 0, .int 0, .int 0, .ref w7, .ref w8, .ref w9, .ref w10, .ref w11, .ref w12, .ref w13, .ref w14, .int 0, .int 0, .int 0, .ref w15, .ref w16, .ref w17, .ref w18, .ref w19, .ref w20, .int 0, .ref w21, .ref w22, .ref w23, .ref w24, .ref w25, .ref w26, .ref w27, .ref w28, .ref w29, .ref w30, .ref w31, .ref w32, .ref w33, .ref w34, .ref w35, .ref w36, .ref w37, .int (-1), .int 0, .int 0, .int 0])), (w0, .inl (cy 2, 6, .inl (fun _ => 0)))] (fun (r : Int32) (u : Unit) => r = 1) (fun (u : Unit) => [(h0, .inr (10, [.int 0, .ref w0, .ref w1, .ref w2, .ref w3, .ref w4, .ref w5, .int 0, .ref w6, .int 0, .int 0, .int 0, .int 0, .int 0, .int 0, .int 0, .int 0, .long 0, .int 0, .int 0, .ref w7, .ref w8, .ref w9, .ref w10, .ref w11, .ref w12, .ref w13, .ref w14, .int 0, .int 0, .int 0, .ref w15, .ref w16, .ref w17, .ref w18, .ref w19, .ref w20, .int 0, .ref w21, .ref w22, .ref w23, .ref w24, .ref w25, .ref w26, .ref w27, .ref w28, .ref w29, .ref w30, .ref w31, .ref w32, .ref w33, .ref w34, .ref w35, .ref w36, .ref w37, .int (-1), .int 0, .int 0, .int 0])), (w0, .inl (cy 2, 6, .inl (fun _ => 0)))]) := by
  refine gz_start (fun A => gQi G cy _ _ A) (by decide) (Nat.le_of_ble_eq_true rfl) ?_
  intro p e s m below meth c A ls H hx hb hr hml hlocks hin hown hts hK hov hsz hP hD hS hA hl
  have hl : lv_has ls 4 [(0, .ref h0), (1, .int x), (2, .int y), (3, .int z)] := hl
  refine lv_aload_n hx hb dX10_cantDraw_0 rfl (lv_at hl 0 rfl) ?_
  refine lv_iload_n hx hb dX10_cantDraw_1 rfl (lv_at hl 1 rfl) ?_
  refine gz_afti (va_runV (As := [.int x]) (rest := []) ⟨hx, hb, hml, hown, hts⟩ (m_hasWell l G cy H.size h0 w0 w1 w2 w3 w4 w5 w6 w7 w8 w9 w10 w11 w12 w13 w14 w15 w16 w17 w18 w19 w20 w21 w22 w23 w24 w25 w26 w27 w28 w29 w30 w31 w32 w33 w34 w35 w36 w37 x x.toInt rfl) ⟨(gz_cb (n := 1) hts gm_1201 gm_12 gm_1204 ⟨by decide +kernel, by decide +kernel, by decide +kernel⟩ ⟨Nat.le_of_ble_eq_true rfl, Nat.le_of_ble_eq_true rfl⟩), hts _ gm_1203, hts _ gs_50⟩ (gz_preV (ci := 10) (q0 := 0) hK hov hP hD [0, 1] (by decide) rfl rfl rfl) rfl rfl hl.1 rfl (lv_room (Nat.le_of_ble_eq_true rfl)) dX10_cantDraw_2 ⟨Nat.le_of_ble_eq_true rfl, Nat.le_of_ble_eq_true rfl⟩) hP hD hS hA [0, 1] [] rfl rfl (by decide) (by decide) (fun r_1 u_1 H locs hw_1 hP hD hS => ?_)
  have hP : va_P G vwCl [(h0, .inr (10, [.int 0, .ref w0, .ref w1, .ref w2, .ref w3, .ref w4, .ref w5, .int 0, .ref w6, .int 0, .int 0, .int 0, .int 0, .int 0, .int 0, .int 0, .int 0, .long 0, .int 0, .int 0, .ref w7, .ref w8, .ref w9, .ref w10, .ref w11, .ref w12, .ref w13, .ref w14, .int 0, .int 0, .int 0, .ref w15, .ref w16, .ref w17, .ref w18, .ref w19, .ref w20, .int 0, .ref w21, .ref w22, .ref w23, .ref w24, .ref w25, .ref w26, .ref w27, .ref w28, .ref w29, .ref w30, .ref w31, .ref w32, .ref w33, .ref w34, .ref w35, .ref w36, .ref w37, .int (-1), .int 0, .int 0, .int 0])), (w0, .inl (cy 2, 6, .inl (fun _ => 0)))] H := hP
  have hD : va_D A [(h0, .inr (10, [.int 0, .ref w0, .ref w1, .ref w2, .ref w3, .ref w4, .ref w5, .int 0, .ref w6, .int 0, .int 0, .int 0, .int 0, .int 0, .int 0, .int 0, .int 0, .long 0, .int 0, .int 0, .ref w7, .ref w8, .ref w9, .ref w10, .ref w11, .ref w12, .ref w13, .ref w14, .int 0, .int 0, .int 0, .ref w15, .ref w16, .ref w17, .ref w18, .ref w19, .ref w20, .int 0, .ref w21, .ref w22, .ref w23, .ref w24, .ref w25, .ref w26, .ref w27, .ref w28, .ref w29, .ref w30, .ref w31, .ref w32, .ref w33, .ref w34, .ref w35, .ref w36, .ref w37, .int (-1), .int 0, .int 0, .int 0])), (w0, .inl (cy 2, 6, .inl (fun _ => 0)))] := hD
  obtain rfl := hw_1
  refine lv_if_eq (tgt := 37) hx hb dX10_cantDraw_5 (by decide) (fun _ => ?_) (fun h9 => absurd (by decide) h9)
  refine lv_iconst (v := 1) hx hb dX10_cantDraw_37 (by decide) ?_
  refine lv_goto (tgt := 42) hx hb dX10_cantDraw_38 (by decide) ?_
  exact gz_iret (p := p) (l := l) (e := e) (s := s) (m := m) (below := below) (meth := meth) (c := c) (H := H) (cells := 0) (slots := 0) (mc := 0) (ms := 0) (cf := (fun (u : Unit) => [(h0, .inr (10, [.int 0, .ref w0, .ref w1, .ref w2, .ref w3, .ref w4, .ref w5, .int 0, .ref w6, .int 0, .int 0, .int 0, .int 0, .int 0, .int 0, .int 0, .int 0, .long 0, .int 0, .int 0, .ref w7, .ref w8, .ref w9, .ref w10, .ref w11, .ref w12, .ref w13, .ref w14, .int 0, .int 0, .int 0, .ref w15, .ref w16, .ref w17, .ref w18, .ref w19, .ref w20, .int 0, .ref w21, .ref w22, .ref w23, .ref w24, .ref w25, .ref w26, .ref w27, .ref w28, .ref w29, .ref w30, .ref w31, .ref w32, .ref w33, .ref w34, .ref w35, .ref w36, .ref w37, .int (-1), .int 0, .int 0, .int 0])), (w0, .inl (cy 2, 6, .inl (fun _ => 0)))])) (post := (fun (r : Int32) (u : Unit) => r = 1)) hx hb hr hlocks hK hP hD hS () [0, 1] (by decide) rfl (by decide) rfl (by exact Nat.le_of_ble_eq_true rfl) (by exact Nat.le_of_ble_eq_true rfl) dX10_cantDraw_42

set_option maxHeartbeats 4000000 in
set_option maxRecDepth 100000 in
/-- WellCourtModel.draw -/
theorem m_draw (l : Launch) (G : va_G) (cy : Nat → ClassId) (sz : Nat) (h0 : Nat) (w0 : Nat) (w1 : Nat) (w2 : Nat) (w3 : Nat) (w4 : Nat) (w5 : Nat) (w6 : Nat) (w7 : Nat) (w8 : Nat) (w9 : Nat) (w10 : Nat) (w11 : Nat) (w12 : Nat) (w13 : Nat) (w14 : Nat) (w15 : Nat) (w16 : Nat) (w17 : Nat) (w18 : Nat) (w19 : Nat) (w20 : Nat) (w21 : Nat) (w22 : Nat) (w23 : Nat) (w24 : Nat) (w25 : Nat) (w26 : Nat) (w27 : Nat) (w28 : Nat) (w29 : Nat) (w30 : Nat) (w31 : Nat) (w32 : Nat) (w33 : Nat) (w34 : Nat) (w35 : Nat) (w36 : Nat) (w37 : Nat) (x : Int32) (y : Int32) (z : Int32) (Xx : Int) (Xy : Int) (Xz : Int) (kx : x.toInt = Xx) (ky : y.toInt = Xy) (kz : z.toInt = Xz)  : gMi l yX10_draw cX10_draw 7 (some .int) ({ frames := 2, cells := 0, slots := 0, locals := 44 }) G cy sz [.ref h0, .int x, .int y, .int z] [(h0, .inr (10, [.int 0, .ref w0, .ref w1, .ref w2, .ref w3, .ref w4, .ref w5, .int 0, .ref w6, .int 0, .int 0, .int 0, .int 0, .int 0, .int 0, .int 0, .int 0, .long 0, .int 0, .int 0, .ref w7, .ref w8, .ref w9, .ref w10, .ref w11, .ref w12, .ref w13, .ref w14, .int 0, .int 0, .int 0, .ref w15, .ref w16, .ref w17, .ref w18, .ref w19, .ref w20, .int 0, .ref w21, .ref w22, .ref w23, .ref w24, .ref w25, .ref w26, .ref w27, .ref w28, .ref w29, .ref w30, .ref w31, .ref w32, .ref w33, .ref w34, .ref w35, .ref w36, .ref w37, .int (-1), .int 0, .int 0, .int 0])), (w0, .inl (cy 2, 6, .inl (fun _ => 0)))] (fun (r : Int32) (u : Unit) => r = 1) (fun (u : Unit) => []) := by
  refine gz_start (fun A => gQi G cy _ _ A) (by decide) (Nat.le_of_ble_eq_true rfl) ?_
  intro p e s m below meth c A ls H hx hb hr hml hlocks hin hown hts hK hov hsz hP hD hS hA hl
  have hl : lv_has ls 7 [(0, .ref h0), (1, .int x), (2, .int y), (3, .int z)] := hl
  refine lv_aload_n hx hb dX10_draw_0 rfl (lv_at hl 0 rfl) ?_
  refine lv_iconst (v := 0) hx hb dX10_draw_1 (by decide) ?_
  refine va_put (ci := 10) (v := .int 0) (ty := .int) (C := RX10) (T := TX10) (N := 59) hx hb hts inX10 tyX10 tyX10_ok nmX10 hown hK hP hD hS 0 rfl rfl 0 (by decide) (hts _ gm_901) (fun _ h9 => h9) rfl (by decide +kernel) rfl rfl (Nat.le_of_ble_eq_true rfl) dX10_draw_2 (fun H locs hP hD hS => ?_)
  have hP : va_P G vwCl [(h0, .inr (10, [.int 0, .ref w0, .ref w1, .ref w2, .ref w3, .ref w4, .ref w5, .int 0, .ref w6, .int 0, .int 0, .int 0, .int 0, .int 0, .int 0, .int 0, .int 0, .long 0, .int 0, .int 0, .ref w7, .ref w8, .ref w9, .ref w10, .ref w11, .ref w12, .ref w13, .ref w14, .int 0, .int 0, .int 0, .ref w15, .ref w16, .ref w17, .ref w18, .ref w19, .ref w20, .int 0, .ref w21, .ref w22, .ref w23, .ref w24, .ref w25, .ref w26, .ref w27, .ref w28, .ref w29, .ref w30, .ref w31, .ref w32, .ref w33, .ref w34, .ref w35, .ref w36, .ref w37, .int (-1), .int 0, .int 0, .int 0])), (w0, .inl (cy 2, 6, .inl (fun _ => 0)))] H := hP
  have hD : va_D A [(h0, .inr (10, [.int 0, .ref w0, .ref w1, .ref w2, .ref w3, .ref w4, .ref w5, .int 0, .ref w6, .int 0, .int 0, .int 0, .int 0, .int 0, .int 0, .int 0, .int 0, .long 0, .int 0, .int 0, .ref w7, .ref w8, .ref w9, .ref w10, .ref w11, .ref w12, .ref w13, .ref w14, .int 0, .int 0, .int 0, .ref w15, .ref w16, .ref w17, .ref w18, .ref w19, .ref w20, .int 0, .ref w21, .ref w22, .ref w23, .ref w24, .ref w25, .ref w26, .ref w27, .ref w28, .ref w29, .ref w30, .ref w31, .ref w32, .ref w33, .ref w34, .ref w35, .ref w36, .ref w37, .int (-1), .int 0, .int 0, .int 0])), (w0, .inl (cy 2, 6, .inl (fun _ => 0)))] := hD
  refine lv_aload_n hx hb dX10_draw_5 rfl (lv_at hl 0 rfl) ?_
  refine lv_iload_n hx hb dX10_draw_6 rfl (lv_at hl 1 rfl) ?_
  refine lv_iload_n hx hb dX10_draw_7 rfl (lv_at hl 2 rfl) ?_
  refine lv_iload_n hx hb dX10_draw_8 rfl (lv_at hl 3 rfl) ?_
  refine gz_afti (va_runV (As := [.int x, .int y, .int z]) (rest := []) ⟨hx, hb, hml, hown, hts⟩ (m_cantDraw l G cy H.size h0 w0 w1 w2 w3 w4 w5 w6 w7 w8 w9 w10 w11 w12 w13 w14 w15 w16 w17 w18 w19 w20 w21 w22 w23 w24 w25 w26 w27 w28 w29 w30 w31 w32 w33 w34 w35 w36 w37 x y z x.toInt y.toInt z.toInt rfl rfl rfl) ⟨(gz_cb (n := 3) hts gm_1236 gm_12 gm_1239 ⟨by decide +kernel, by decide +kernel, by decide +kernel⟩ ⟨Nat.le_of_ble_eq_true rfl, Nat.le_of_ble_eq_true rfl⟩), hts _ gm_1238, hts _ gs_54⟩ (gz_preV (ci := 10) (q0 := 0) hK hov hP hD [0, 1] (by decide) rfl rfl rfl) rfl rfl hl.1 rfl (lv_room (Nat.le_of_ble_eq_true rfl)) dX10_draw_9 ⟨Nat.le_of_ble_eq_true rfl, Nat.le_of_ble_eq_true rfl⟩) hP hD hS hA [0, 1] [] rfl rfl (by decide) (by decide) (fun r_1 u_1 H locs hw_1 hP hD hS => ?_)
  have hP : va_P G vwCl [(h0, .inr (10, [.int 0, .ref w0, .ref w1, .ref w2, .ref w3, .ref w4, .ref w5, .int 0, .ref w6, .int 0, .int 0, .int 0, .int 0, .int 0, .int 0, .int 0, .int 0, .long 0, .int 0, .int 0, .ref w7, .ref w8, .ref w9, .ref w10, .ref w11, .ref w12, .ref w13, .ref w14, .int 0, .int 0, .int 0, .ref w15, .ref w16, .ref w17, .ref w18, .ref w19, .ref w20, .int 0, .ref w21, .ref w22, .ref w23, .ref w24, .ref w25, .ref w26, .ref w27, .ref w28, .ref w29, .ref w30, .ref w31, .ref w32, .ref w33, .ref w34, .ref w35, .ref w36, .ref w37, .int (-1), .int 0, .int 0, .int 0])), (w0, .inl (cy 2, 6, .inl (fun _ => 0)))] H := hP
  have hD : va_D A [(h0, .inr (10, [.int 0, .ref w0, .ref w1, .ref w2, .ref w3, .ref w4, .ref w5, .int 0, .ref w6, .int 0, .int 0, .int 0, .int 0, .int 0, .int 0, .int 0, .int 0, .long 0, .int 0, .int 0, .ref w7, .ref w8, .ref w9, .ref w10, .ref w11, .ref w12, .ref w13, .ref w14, .int 0, .int 0, .int 0, .ref w15, .ref w16, .ref w17, .ref w18, .ref w19, .ref w20, .int 0, .ref w21, .ref w22, .ref w23, .ref w24, .ref w25, .ref w26, .ref w27, .ref w28, .ref w29, .ref w30, .ref w31, .ref w32, .ref w33, .ref w34, .ref w35, .ref w36, .ref w37, .int (-1), .int 0, .int 0, .int 0])), (w0, .inl (cy 2, 6, .inl (fun _ => 0)))] := hD
  obtain rfl := hw_1
  refine lv_if_eq (tgt := 17) hx hb dX10_draw_12 (by decide) (fun h9 => absurd h9 (by decide)) (fun _ => ?_)
  refine lv_iconst (v := 1) hx hb dX10_draw_15 (by decide) ?_
  exact gz_iret (p := p) (l := l) (e := e) (s := s) (m := m) (below := below) (meth := meth) (c := c) (H := H) (cells := 0) (slots := 0) (mc := 0) (ms := 0) (cf := (fun (u : Unit) => [])) (post := (fun (r : Int32) (u : Unit) => r = 1)) hx hb hr hlocks hK hP hD hS () [] rfl rfl (by decide) rfl (by exact Nat.le_of_ble_eq_true rfl) (by exact Nat.le_of_ble_eq_true rfl) dX10_draw_16

set_option maxHeartbeats 4000000 in
set_option maxRecDepth 100000 in
/-- WellCourtModel.take -/
theorem m_take (l : Launch) (G : va_G) (cy : Nat → ClassId) (sz : Nat) (h0 : Nat) (w0 : Nat) (w1 : Nat) (w2 : Nat) (w3 : Nat) (w4 : Nat) (w5 : Nat) (w6 : Nat) (w7 : Nat) (w8 : Nat) (w9 : Nat) (w10 : Nat) (w11 : Nat) (w12 : Nat) (w13 : Nat) (w14 : Nat) (w15 : Nat) (w16 : Nat) (w17 : Nat) (w18 : Nat) (w19 : Nat) (w20 : Nat) (w21 : Nat) (w22 : Nat) (w23 : Nat) (w24 : Nat) (w25 : Nat) (w26 : Nat) (w27 : Nat) (w28 : Nat) (w29 : Nat) (w30 : Nat) (w31 : Nat) (w32 : Nat) (w33 : Nat) (w34 : Nat) (w35 : Nat) (w36 : Nat) (w37 : Nat) (x : Int32) (y : Int32) (z : Int32) (Xx : Int) (Xy : Int) (Xz : Int) (kx : x.toInt = Xx) (ky : y.toInt = Xy) (kz : z.toInt = Xz)  : gMi l yX10_take cX10_take 4 (some .int) ({ frames := 2, cells := 0, slots := 0, locals := 44 }) G cy sz [.ref h0, .int x, .int y, .int z] [(h0, .inr (10, [.int 0, .ref w0, .ref w1, .ref w2, .ref w3, .ref w4, .ref w5, .int 0, .ref w6, .int 0, .int 0, .int 0, .int 0, .int 0, .int 0, .int 0, .int 0, .long 0, .int 0, .int 0, .ref w7, .ref w8, .ref w9, .ref w10, .ref w11, .ref w12, .ref w13, .ref w14, .int 0, .int 0, .int 0, .ref w15, .ref w16, .ref w17, .ref w18, .ref w19, .ref w20, .int 0, .ref w21, .ref w22, .ref w23, .ref w24, .ref w25, .ref w26, .ref w27, .ref w28, .ref w29, .ref w30, .ref w31, .ref w32, .ref w33, .ref w34, .ref w35, .ref w36, .ref w37, .int (-1), .int 0, .int 0, .int 0])), (w0, .inl (cy 2, 6, .inl (fun _ => 0)))] (fun (r : Int32) (u : Unit) => r = 1) (fun (u : Unit) => []) := by
  refine gz_start (fun A => gQi G cy _ _ A) (by decide) (Nat.le_of_ble_eq_true rfl) ?_
  intro p e s m below meth c A ls H hx hb hr hml hlocks hin hown hts hK hov hsz hP hD hS hA hl
  have hl : lv_has ls 4 [(0, .ref h0), (1, .int x), (2, .int y), (3, .int z)] := hl
  refine lv_aload_n hx hb dX10_take_0 rfl (lv_at hl 0 rfl) ?_
  refine lv_iconst (v := 0) hx hb dX10_take_1 (by decide) ?_
  refine va_put (ci := 10) (v := .int 0) (ty := .int) (C := RX10) (T := TX10) (N := 59) hx hb hts inX10 tyX10 tyX10_ok nmX10 hown hK hP hD hS 0 rfl rfl 0 (by decide) (hts _ gm_901) (fun _ h9 => h9) rfl (by decide +kernel) rfl rfl (Nat.le_of_ble_eq_true rfl) dX10_take_2 (fun H locs hP hD hS => ?_)
  have hP : va_P G vwCl [(h0, .inr (10, [.int 0, .ref w0, .ref w1, .ref w2, .ref w3, .ref w4, .ref w5, .int 0, .ref w6, .int 0, .int 0, .int 0, .int 0, .int 0, .int 0, .int 0, .int 0, .long 0, .int 0, .int 0, .ref w7, .ref w8, .ref w9, .ref w10, .ref w11, .ref w12, .ref w13, .ref w14, .int 0, .int 0, .int 0, .ref w15, .ref w16, .ref w17, .ref w18, .ref w19, .ref w20, .int 0, .ref w21, .ref w22, .ref w23, .ref w24, .ref w25, .ref w26, .ref w27, .ref w28, .ref w29, .ref w30, .ref w31, .ref w32, .ref w33, .ref w34, .ref w35, .ref w36, .ref w37, .int (-1), .int 0, .int 0, .int 0])), (w0, .inl (cy 2, 6, .inl (fun _ => 0)))] H := hP
  have hD : va_D A [(h0, .inr (10, [.int 0, .ref w0, .ref w1, .ref w2, .ref w3, .ref w4, .ref w5, .int 0, .ref w6, .int 0, .int 0, .int 0, .int 0, .int 0, .int 0, .int 0, .int 0, .long 0, .int 0, .int 0, .ref w7, .ref w8, .ref w9, .ref w10, .ref w11, .ref w12, .ref w13, .ref w14, .int 0, .int 0, .int 0, .ref w15, .ref w16, .ref w17, .ref w18, .ref w19, .ref w20, .int 0, .ref w21, .ref w22, .ref w23, .ref w24, .ref w25, .ref w26, .ref w27, .ref w28, .ref w29, .ref w30, .ref w31, .ref w32, .ref w33, .ref w34, .ref w35, .ref w36, .ref w37, .int (-1), .int 0, .int 0, .int 0])), (w0, .inl (cy 2, 6, .inl (fun _ => 0)))] := hD
  refine lv_aload_n hx hb dX10_take_5 rfl (lv_at hl 0 rfl) ?_
  refine lv_iload_n hx hb dX10_take_6 rfl (lv_at hl 1 rfl) ?_
  refine lv_iload_n hx hb dX10_take_7 rfl (lv_at hl 2 rfl) ?_
  refine lv_iload_n hx hb dX10_take_8 rfl (lv_at hl 3 rfl) ?_
  refine gz_afti (va_runV (As := [.int x, .int y, .int z]) (rest := []) ⟨hx, hb, hml, hown, hts⟩ (m_cantDraw l G cy H.size h0 w0 w1 w2 w3 w4 w5 w6 w7 w8 w9 w10 w11 w12 w13 w14 w15 w16 w17 w18 w19 w20 w21 w22 w23 w24 w25 w26 w27 w28 w29 w30 w31 w32 w33 w34 w35 w36 w37 x y z x.toInt y.toInt z.toInt rfl rfl rfl) ⟨(gz_cb (n := 3) hts gm_1236 gm_12 gm_1239 ⟨by decide +kernel, by decide +kernel, by decide +kernel⟩ ⟨Nat.le_of_ble_eq_true rfl, Nat.le_of_ble_eq_true rfl⟩), hts _ gm_1238, hts _ gs_54⟩ (gz_preV (ci := 10) (q0 := 0) hK hov hP hD [0, 1] (by decide) rfl rfl rfl) rfl rfl hl.1 rfl (lv_room (Nat.le_of_ble_eq_true rfl)) dX10_take_9 ⟨Nat.le_of_ble_eq_true rfl, Nat.le_of_ble_eq_true rfl⟩) hP hD hS hA [0, 1] [] rfl rfl (by decide) (by decide) (fun r_1 u_1 H locs hw_1 hP hD hS => ?_)
  have hP : va_P G vwCl [(h0, .inr (10, [.int 0, .ref w0, .ref w1, .ref w2, .ref w3, .ref w4, .ref w5, .int 0, .ref w6, .int 0, .int 0, .int 0, .int 0, .int 0, .int 0, .int 0, .int 0, .long 0, .int 0, .int 0, .ref w7, .ref w8, .ref w9, .ref w10, .ref w11, .ref w12, .ref w13, .ref w14, .int 0, .int 0, .int 0, .ref w15, .ref w16, .ref w17, .ref w18, .ref w19, .ref w20, .int 0, .ref w21, .ref w22, .ref w23, .ref w24, .ref w25, .ref w26, .ref w27, .ref w28, .ref w29, .ref w30, .ref w31, .ref w32, .ref w33, .ref w34, .ref w35, .ref w36, .ref w37, .int (-1), .int 0, .int 0, .int 0])), (w0, .inl (cy 2, 6, .inl (fun _ => 0)))] H := hP
  have hD : va_D A [(h0, .inr (10, [.int 0, .ref w0, .ref w1, .ref w2, .ref w3, .ref w4, .ref w5, .int 0, .ref w6, .int 0, .int 0, .int 0, .int 0, .int 0, .int 0, .int 0, .int 0, .long 0, .int 0, .int 0, .ref w7, .ref w8, .ref w9, .ref w10, .ref w11, .ref w12, .ref w13, .ref w14, .int 0, .int 0, .int 0, .ref w15, .ref w16, .ref w17, .ref w18, .ref w19, .ref w20, .int 0, .ref w21, .ref w22, .ref w23, .ref w24, .ref w25, .ref w26, .ref w27, .ref w28, .ref w29, .ref w30, .ref w31, .ref w32, .ref w33, .ref w34, .ref w35, .ref w36, .ref w37, .int (-1), .int 0, .int 0, .int 0])), (w0, .inl (cy 2, 6, .inl (fun _ => 0)))] := hD
  obtain rfl := hw_1
  refine lv_if_eq (tgt := 17) hx hb dX10_take_12 (by decide) (fun h9 => absurd h9 (by decide)) (fun _ => ?_)
  refine lv_iconst (v := 1) hx hb dX10_take_15 (by decide) ?_
  exact gz_iret (p := p) (l := l) (e := e) (s := s) (m := m) (below := below) (meth := meth) (c := c) (H := H) (cells := 0) (slots := 0) (mc := 0) (ms := 0) (cf := (fun (u : Unit) => [])) (post := (fun (r : Int32) (u : Unit) => r = 1)) hx hb hr hlocks hK hP hD hS () [] rfl rfl (by decide) rfl (by exact Nat.le_of_ble_eq_true rfl) (by exact Nat.le_of_ble_eq_true rfl) dX10_take_16

set_option maxHeartbeats 4000000 in
set_option maxRecDepth 100000 in
/-- WellCourtModel.report -/
theorem m_report (l : Launch) (G : va_G) (cy : Nat → ClassId) (sz : Nat) (h0 : Nat) (w0 : Nat) (w1 : Nat) (w2 : Nat) (w3 : Nat) (w4 : Nat) (w5 : Nat) (w6 : Nat) (w7 : Nat) (w8 : Nat) (w9 : Nat) (w10 : Nat) (w11 : Nat) (w12 : Nat) (w13 : Nat) (w14 : Nat) (w15 : Nat) (w16 : Nat) (w17 : Nat) (w18 : Nat) (w19 : Nat) (w20 : Nat) (w21 : Nat) (w22 : Nat) (w23 : Nat) (w24 : Nat) (w25 : Nat) (w26 : Nat) (w27 : Nat) (w28 : Nat) (w29 : Nat) (w30 : Nat) (w31 : Nat) (w32 : Nat) (w33 : Nat) (w34 : Nat) (w35 : Nat) (w36 : Nat) (w37 : Nat) (x : Int32) (Xx : Int) (kx : x.toInt = Xx)  : gMi l yX10_report cX10_report 2 (some .boolean) ({ frames := 0, cells := 0, slots := 0, locals := 0 }) G cy sz [.ref h0, .int x] [(h0, .inr (10, [.int 0, .ref w0, .ref w1, .ref w2, .ref w3, .ref w4, .ref w5, .int 0, .ref w6, .int 0, .int 0, .int 0, .int 0, .int 0, .int 0, .int 0, .int 0, .long 0, .int 0, .int 0, .ref w7, .ref w8, .ref w9, .ref w10, .ref w11, .ref w12, .ref w13, .ref w14, .int 0, .int 0, .int 0, .ref w15, .ref w16, .ref w17, .ref w18, .ref w19, .ref w20, .int 0, .ref w21, .ref w22, .ref w23, .ref w24, .ref w25, .ref w26, .ref w27, .ref w28, .ref w29, .ref w30, .ref w31, .ref w32, .ref w33, .ref w34, .ref w35, .ref w36, .ref w37, .int (-1), .int 0, .int 0, .int 0]))] (fun (r : Int32) (u : Unit) => r = 0) (fun (u : Unit) => []) := by
  refine gz_start (fun A => gQi G cy _ _ A) (by decide) (Nat.le_of_ble_eq_true rfl) ?_
  intro p e s m below meth c A ls H hx hb hr hml hlocks hin hown hts hK hov hsz hP hD hS hA hl
  have hl : lv_has ls 2 [(0, .ref h0), (1, .int x)] := hl
  refine lv_aload_n hx hb dX10_report_0 rfl (lv_at hl 0 rfl) ?_
  refine lv_iconst (v := 0) hx hb dX10_report_1 (by decide) ?_
  refine va_put (ci := 10) (v := .int 0) (ty := .int) (C := RX10) (T := TX10) (N := 59) hx hb hts inX10 tyX10 tyX10_ok nmX10 hown hK hP hD hS 0 rfl rfl 0 (by decide) (hts _ gm_901) (fun _ h9 => h9) rfl (by decide +kernel) rfl rfl (Nat.le_of_ble_eq_true rfl) dX10_report_2 (fun H locs hP hD hS => ?_)
  have hP : va_P G vwCl [(h0, .inr (10, [.int 0, .ref w0, .ref w1, .ref w2, .ref w3, .ref w4, .ref w5, .int 0, .ref w6, .int 0, .int 0, .int 0, .int 0, .int 0, .int 0, .int 0, .int 0, .long 0, .int 0, .int 0, .ref w7, .ref w8, .ref w9, .ref w10, .ref w11, .ref w12, .ref w13, .ref w14, .int 0, .int 0, .int 0, .ref w15, .ref w16, .ref w17, .ref w18, .ref w19, .ref w20, .int 0, .ref w21, .ref w22, .ref w23, .ref w24, .ref w25, .ref w26, .ref w27, .ref w28, .ref w29, .ref w30, .ref w31, .ref w32, .ref w33, .ref w34, .ref w35, .ref w36, .ref w37, .int (-1), .int 0, .int 0, .int 0]))] H := hP
  have hD : va_D A [(h0, .inr (10, [.int 0, .ref w0, .ref w1, .ref w2, .ref w3, .ref w4, .ref w5, .int 0, .ref w6, .int 0, .int 0, .int 0, .int 0, .int 0, .int 0, .int 0, .int 0, .long 0, .int 0, .int 0, .ref w7, .ref w8, .ref w9, .ref w10, .ref w11, .ref w12, .ref w13, .ref w14, .int 0, .int 0, .int 0, .ref w15, .ref w16, .ref w17, .ref w18, .ref w19, .ref w20, .int 0, .ref w21, .ref w22, .ref w23, .ref w24, .ref w25, .ref w26, .ref w27, .ref w28, .ref w29, .ref w30, .ref w31, .ref w32, .ref w33, .ref w34, .ref w35, .ref w36, .ref w37, .int (-1), .int 0, .int 0, .int 0]))] := hD
  refine lv_iload_n hx hb dX10_report_5 rfl (lv_at hl 1 rfl) ?_
  refine lv_if_lt (tgt := 26) hx hb dX10_report_6 (by decide) (fun c_1 => ?_) (fun c_1 => ?_)
  · have ic_1 := gz_lt (rfl : x.toInt = x.toInt) (by decide : (0 : Int32).toInt = 0) c_1
    refine lv_iconst (v := 0) hx hb dX10_report_26 (by decide) ?_
    exact gz_iret (p := p) (l := l) (e := e) (s := s) (m := m) (below := below) (meth := meth) (c := c) (H := H) (cells := 0) (slots := 0) (mc := 0) (ms := 0) (cf := (fun (u : Unit) => [])) (post := (fun (r : Int32) (u : Unit) => r = 0)) hx hb hr hlocks hK hP hD hS () [] (by decide) rfl (by decide) rfl (by exact Nat.le_of_ble_eq_true rfl) (by exact Nat.le_of_ble_eq_true rfl) dX10_report_27
  · have ic_1 := gz_nlt (rfl : x.toInt = x.toInt) (by decide : (0 : Int32).toInt = 0) c_1
    refine lv_iload_n hx hb dX10_report_9 rfl (lv_at hl 1 rfl) ?_
    refine lv_aload_n hx hb dX10_report_10 rfl (lv_at hl 0 rfl) ?_
    refine va_get (ci := 10) (v := .int 0) (C := RX10) (T := TX10) (N := 59) hx hb hts inX10 hown hK hP 0 rfl rfl 37 (by decide) (hts _ gm_938) (fun _ h9 => h9) rfl dX10_report_11 ?_
    refine lv_icmp_ge (tgt := 26) hx hb dX10_report_14 (by decide) (fun c_2 => ?_) (fun c_2 => ?_)
    · have ic_2 := gz_le (by decide : (0 : Int32).toInt = 0) (rfl : x.toInt = x.toInt) c_2
      refine lv_iconst (v := 0) hx hb dX10_report_26 (by decide) ?_
      exact gz_iret (p := p) (l := l) (e := e) (s := s) (m := m) (below := below) (meth := meth) (c := c) (H := H) (cells := 0) (slots := 0) (mc := 0) (ms := 0) (cf := (fun (u : Unit) => [])) (post := (fun (r : Int32) (u : Unit) => r = 0)) hx hb hr hlocks hK hP hD hS () [] (by decide) rfl (by decide) rfl (by exact Nat.le_of_ble_eq_true rfl) (by exact Nat.le_of_ble_eq_true rfl) dX10_report_27
    · have ic_2 := gz_nle (by decide : (0 : Int32).toInt = 0) (rfl : x.toInt = x.toInt) c_2
      refine lv_aload_n hx hb dX10_report_17 rfl (lv_at hl 0 rfl) ?_
      refine va_get (ci := 10) (v := .ref w20) (C := RX10) (T := TX10) (N := 59) hx hb hts inX10 hown hK hP 0 rfl rfl 36 (by decide) (hts _ gm_937) (fun _ h9 => h9) rfl dX10_report_18 ?_
      refine lv_iload_n hx hb dX10_report_21 rfl (lv_at hl 1 rfl) ?_
      exfalso; omega

set_option maxHeartbeats 4000000 in
set_option maxRecDepth 100000 in
/-- WellCourtModel.drawn -/
theorem m_drawn (l : Launch) (G : va_G) (cy : Nat → ClassId) (sz : Nat) (h0 : Nat) (w0 : Nat) (w1 : Nat) (w2 : Nat) (w3 : Nat) (w4 : Nat) (w5 : Nat) (w6 : Nat) (w7 : Nat) (w8 : Nat) (w9 : Nat) (w10 : Nat) (w11 : Nat) (w12 : Nat) (w13 : Nat) (w14 : Nat) (w15 : Nat) (w16 : Nat) (w17 : Nat) (w18 : Nat) (w19 : Nat) (w20 : Nat) (w21 : Nat) (w22 : Nat) (w23 : Nat) (w24 : Nat) (w25 : Nat) (w26 : Nat) (w27 : Nat) (w28 : Nat) (w29 : Nat) (w30 : Nat) (w31 : Nat) (w32 : Nat) (w33 : Nat) (w34 : Nat) (w35 : Nat) (w36 : Nat) (w37 : Nat) (x : Int32) (y : Int32) (Xx : Int) (Xy : Int) (kx : x.toInt = Xx) (ky : y.toInt = Xy)  : gMi l yX10_drawn_ cX10_drawn_ 3 (some .int) ({ frames := 0, cells := 0, slots := 0, locals := 0 }) G cy sz [.ref h0, .int x, .int y] [(h0, .inr (10, [.int 0, .ref w0, .ref w1, .ref w2, .ref w3, .ref w4, .ref w5, .int 0, .ref w6, .int 0, .int 0, .int 0, .int 0, .int 0, .int 0, .int 0, .int 0, .long 0, .int 0, .int 0, .ref w7, .ref w8, .ref w9, .ref w10, .ref w11, .ref w12, .ref w13, .ref w14, .int 0, .int 0, .int 0, .ref w15, .ref w16, .ref w17, .ref w18, .ref w19, .ref w20, .int 0, .ref w21, .ref w22, .ref w23, .ref w24, .ref w25, .ref w26, .ref w27, .ref w28, .ref w29, .ref w30, .ref w31, .ref w32, .ref w33, .ref w34, .ref w35, .ref w36, .ref w37, .int (-1), .int 0, .int 0, .int 0]))] (fun (r : Int32) (u : Unit) => r = 0) (fun (u : Unit) => [(h0, .inr (10, [.int 1, .ref w0, .ref w1, .ref w2, .ref w3, .ref w4, .ref w5, .int 0, .ref w6, .int 0, .int 0, .int 0, .int 0, .int 0, .int 0, .int 0, .int 0, .long 0, .int 0, .int 0, .ref w7, .ref w8, .ref w9, .ref w10, .ref w11, .ref w12, .ref w13, .ref w14, .int 0, .int 0, .int 0, .ref w15, .ref w16, .ref w17, .ref w18, .ref w19, .ref w20, .int 0, .ref w21, .ref w22, .ref w23, .ref w24, .ref w25, .ref w26, .ref w27, .ref w28, .ref w29, .ref w30, .ref w31, .ref w32, .ref w33, .ref w34, .ref w35, .ref w36, .ref w37, .int (-1), .int 0, .int 0, .int 0]))]) := by
  refine gz_start (fun A => gQi G cy _ _ A) (by decide) (Nat.le_of_ble_eq_true rfl) ?_
  intro p e s m below meth c A ls H hx hb hr hml hlocks hin hown hts hK hov hsz hP hD hS hA hl
  have hl : lv_has ls 3 [(0, .ref h0), (1, .int x), (2, .int y)] := hl
  refine lv_aload_n hx hb dX10_drawn__0 rfl (lv_at hl 0 rfl) ?_
  refine lv_iload_n hx hb dX10_drawn__1 rfl (lv_at hl 1 rfl) ?_
  refine lv_if_lt (tgt := 22) hx hb dX10_drawn__2 (by decide) (fun c_1 => ?_) (fun c_1 => ?_)
  · have ic_1 := gz_lt (rfl : x.toInt = x.toInt) (by decide : (0 : Int32).toInt = 0) c_1
    refine lv_iconst (v := 1) hx hb dX10_drawn__22 (by decide) ?_
    refine lv_goto (tgt := 27) hx hb dX10_drawn__23 (by decide) ?_
    refine va_put (ci := 10) (v := .int 1) (ty := .int) (C := RX10) (T := TX10) (N := 59) hx hb hts inX10 tyX10 tyX10_ok nmX10 hown hK hP hD hS 0 rfl rfl 0 (by decide) (hts _ gm_901) (fun _ h9 => h9) rfl (by decide +kernel) rfl rfl (Nat.le_of_ble_eq_true rfl) dX10_drawn__27 (fun H locs hP hD hS => ?_)
    have hP : va_P G vwCl [(h0, .inr (10, [.int 1, .ref w0, .ref w1, .ref w2, .ref w3, .ref w4, .ref w5, .int 0, .ref w6, .int 0, .int 0, .int 0, .int 0, .int 0, .int 0, .int 0, .int 0, .long 0, .int 0, .int 0, .ref w7, .ref w8, .ref w9, .ref w10, .ref w11, .ref w12, .ref w13, .ref w14, .int 0, .int 0, .int 0, .ref w15, .ref w16, .ref w17, .ref w18, .ref w19, .ref w20, .int 0, .ref w21, .ref w22, .ref w23, .ref w24, .ref w25, .ref w26, .ref w27, .ref w28, .ref w29, .ref w30, .ref w31, .ref w32, .ref w33, .ref w34, .ref w35, .ref w36, .ref w37, .int (-1), .int 0, .int 0, .int 0]))] H := hP
    have hD : va_D A [(h0, .inr (10, [.int 1, .ref w0, .ref w1, .ref w2, .ref w3, .ref w4, .ref w5, .int 0, .ref w6, .int 0, .int 0, .int 0, .int 0, .int 0, .int 0, .int 0, .int 0, .long 0, .int 0, .int 0, .ref w7, .ref w8, .ref w9, .ref w10, .ref w11, .ref w12, .ref w13, .ref w14, .int 0, .int 0, .int 0, .ref w15, .ref w16, .ref w17, .ref w18, .ref w19, .ref w20, .int 0, .ref w21, .ref w22, .ref w23, .ref w24, .ref w25, .ref w26, .ref w27, .ref w28, .ref w29, .ref w30, .ref w31, .ref w32, .ref w33, .ref w34, .ref w35, .ref w36, .ref w37, .int (-1), .int 0, .int 0, .int 0]))] := hD
    refine lv_aload_n hx hb dX10_drawn__30 rfl (lv_at hl 0 rfl) ?_
    refine va_get (ci := 10) (v := .int 1) (C := RX10) (T := TX10) (N := 59) hx hb hts inX10 hown hK hP 0 rfl rfl 0 (by decide) (hts _ gm_901) (fun _ h9 => h9) rfl dX10_drawn__31 ?_
    refine lv_iconst (v := 1) hx hb dX10_drawn__34 (by decide) ?_
    refine lv_icmp_ne (tgt := 40) hx hb dX10_drawn__35 (by decide) (fun h9 => absurd (by decide) h9) (fun _ => ?_)
    refine lv_iconst (v := 0) hx hb dX10_drawn__38 (by decide) ?_
    exact gz_iret (p := p) (l := l) (e := e) (s := s) (m := m) (below := below) (meth := meth) (c := c) (H := H) (cells := 0) (slots := 0) (mc := 0) (ms := 0) (cf := (fun (u : Unit) => [(h0, .inr (10, [.int 1, .ref w0, .ref w1, .ref w2, .ref w3, .ref w4, .ref w5, .int 0, .ref w6, .int 0, .int 0, .int 0, .int 0, .int 0, .int 0, .int 0, .int 0, .long 0, .int 0, .int 0, .ref w7, .ref w8, .ref w9, .ref w10, .ref w11, .ref w12, .ref w13, .ref w14, .int 0, .int 0, .int 0, .ref w15, .ref w16, .ref w17, .ref w18, .ref w19, .ref w20, .int 0, .ref w21, .ref w22, .ref w23, .ref w24, .ref w25, .ref w26, .ref w27, .ref w28, .ref w29, .ref w30, .ref w31, .ref w32, .ref w33, .ref w34, .ref w35, .ref w36, .ref w37, .int (-1), .int 0, .int 0, .int 0]))])) (post := (fun (r : Int32) (u : Unit) => r = 0)) hx hb hr hlocks hK hP hD hS () [0] rfl rfl (by decide) rfl (by exact Nat.le_of_ble_eq_true rfl) (by exact Nat.le_of_ble_eq_true rfl) dX10_drawn__39
  · have ic_1 := gz_nlt (rfl : x.toInt = x.toInt) (by decide : (0 : Int32).toInt = 0) c_1
    refine lv_iload_n hx hb dX10_drawn__5 rfl (lv_at hl 1 rfl) ?_
    refine lv_aload_n hx hb dX10_drawn__6 rfl (lv_at hl 0 rfl) ?_
    refine va_get (ci := 10) (v := .int 0) (C := RX10) (T := TX10) (N := 59) hx hb hts inX10 hown hK hP 0 rfl rfl 37 (by decide) (hts _ gm_938) (fun _ h9 => h9) rfl dX10_drawn__7 ?_
    refine lv_icmp_ge (tgt := 22) hx hb dX10_drawn__10 (by decide) (fun c_2 => ?_) (fun c_2 => ?_)
    · have ic_2 := gz_le (by decide : (0 : Int32).toInt = 0) (rfl : x.toInt = x.toInt) c_2
      refine lv_iconst (v := 1) hx hb dX10_drawn__22 (by decide) ?_
      refine lv_goto (tgt := 27) hx hb dX10_drawn__23 (by decide) ?_
      refine va_put (ci := 10) (v := .int 1) (ty := .int) (C := RX10) (T := TX10) (N := 59) hx hb hts inX10 tyX10 tyX10_ok nmX10 hown hK hP hD hS 0 rfl rfl 0 (by decide) (hts _ gm_901) (fun _ h9 => h9) rfl (by decide +kernel) rfl rfl (Nat.le_of_ble_eq_true rfl) dX10_drawn__27 (fun H locs hP hD hS => ?_)
      have hP : va_P G vwCl [(h0, .inr (10, [.int 1, .ref w0, .ref w1, .ref w2, .ref w3, .ref w4, .ref w5, .int 0, .ref w6, .int 0, .int 0, .int 0, .int 0, .int 0, .int 0, .int 0, .int 0, .long 0, .int 0, .int 0, .ref w7, .ref w8, .ref w9, .ref w10, .ref w11, .ref w12, .ref w13, .ref w14, .int 0, .int 0, .int 0, .ref w15, .ref w16, .ref w17, .ref w18, .ref w19, .ref w20, .int 0, .ref w21, .ref w22, .ref w23, .ref w24, .ref w25, .ref w26, .ref w27, .ref w28, .ref w29, .ref w30, .ref w31, .ref w32, .ref w33, .ref w34, .ref w35, .ref w36, .ref w37, .int (-1), .int 0, .int 0, .int 0]))] H := hP
      have hD : va_D A [(h0, .inr (10, [.int 1, .ref w0, .ref w1, .ref w2, .ref w3, .ref w4, .ref w5, .int 0, .ref w6, .int 0, .int 0, .int 0, .int 0, .int 0, .int 0, .int 0, .int 0, .long 0, .int 0, .int 0, .ref w7, .ref w8, .ref w9, .ref w10, .ref w11, .ref w12, .ref w13, .ref w14, .int 0, .int 0, .int 0, .ref w15, .ref w16, .ref w17, .ref w18, .ref w19, .ref w20, .int 0, .ref w21, .ref w22, .ref w23, .ref w24, .ref w25, .ref w26, .ref w27, .ref w28, .ref w29, .ref w30, .ref w31, .ref w32, .ref w33, .ref w34, .ref w35, .ref w36, .ref w37, .int (-1), .int 0, .int 0, .int 0]))] := hD
      refine lv_aload_n hx hb dX10_drawn__30 rfl (lv_at hl 0 rfl) ?_
      refine va_get (ci := 10) (v := .int 1) (C := RX10) (T := TX10) (N := 59) hx hb hts inX10 hown hK hP 0 rfl rfl 0 (by decide) (hts _ gm_901) (fun _ h9 => h9) rfl dX10_drawn__31 ?_
      refine lv_iconst (v := 1) hx hb dX10_drawn__34 (by decide) ?_
      refine lv_icmp_ne (tgt := 40) hx hb dX10_drawn__35 (by decide) (fun h9 => absurd (by decide) h9) (fun _ => ?_)
      refine lv_iconst (v := 0) hx hb dX10_drawn__38 (by decide) ?_
      exact gz_iret (p := p) (l := l) (e := e) (s := s) (m := m) (below := below) (meth := meth) (c := c) (H := H) (cells := 0) (slots := 0) (mc := 0) (ms := 0) (cf := (fun (u : Unit) => [(h0, .inr (10, [.int 1, .ref w0, .ref w1, .ref w2, .ref w3, .ref w4, .ref w5, .int 0, .ref w6, .int 0, .int 0, .int 0, .int 0, .int 0, .int 0, .int 0, .int 0, .long 0, .int 0, .int 0, .ref w7, .ref w8, .ref w9, .ref w10, .ref w11, .ref w12, .ref w13, .ref w14, .int 0, .int 0, .int 0, .ref w15, .ref w16, .ref w17, .ref w18, .ref w19, .ref w20, .int 0, .ref w21, .ref w22, .ref w23, .ref w24, .ref w25, .ref w26, .ref w27, .ref w28, .ref w29, .ref w30, .ref w31, .ref w32, .ref w33, .ref w34, .ref w35, .ref w36, .ref w37, .int (-1), .int 0, .int 0, .int 0]))])) (post := (fun (r : Int32) (u : Unit) => r = 0)) hx hb hr hlocks hK hP hD hS () [0] rfl rfl (by decide) rfl (by exact Nat.le_of_ble_eq_true rfl) (by exact Nat.le_of_ble_eq_true rfl) dX10_drawn__39
    · have ic_2 := gz_nle (by decide : (0 : Int32).toInt = 0) (rfl : x.toInt = x.toInt) c_2
      refine lv_iload_n hx hb dX10_drawn__13 rfl (lv_at hl 2 rfl) ?_
      refine lv_if_lt (tgt := 22) hx hb dX10_drawn__14 (by decide) (fun c_3 => ?_) (fun c_3 => ?_)
      · have ic_3 := gz_lt (rfl : y.toInt = y.toInt) (by decide : (0 : Int32).toInt = 0) c_3
        refine lv_iconst (v := 1) hx hb dX10_drawn__22 (by decide) ?_
        refine lv_goto (tgt := 27) hx hb dX10_drawn__23 (by decide) ?_
        refine va_put (ci := 10) (v := .int 1) (ty := .int) (C := RX10) (T := TX10) (N := 59) hx hb hts inX10 tyX10 tyX10_ok nmX10 hown hK hP hD hS 0 rfl rfl 0 (by decide) (hts _ gm_901) (fun _ h9 => h9) rfl (by decide +kernel) rfl rfl (Nat.le_of_ble_eq_true rfl) dX10_drawn__27 (fun H locs hP hD hS => ?_)
        have hP : va_P G vwCl [(h0, .inr (10, [.int 1, .ref w0, .ref w1, .ref w2, .ref w3, .ref w4, .ref w5, .int 0, .ref w6, .int 0, .int 0, .int 0, .int 0, .int 0, .int 0, .int 0, .int 0, .long 0, .int 0, .int 0, .ref w7, .ref w8, .ref w9, .ref w10, .ref w11, .ref w12, .ref w13, .ref w14, .int 0, .int 0, .int 0, .ref w15, .ref w16, .ref w17, .ref w18, .ref w19, .ref w20, .int 0, .ref w21, .ref w22, .ref w23, .ref w24, .ref w25, .ref w26, .ref w27, .ref w28, .ref w29, .ref w30, .ref w31, .ref w32, .ref w33, .ref w34, .ref w35, .ref w36, .ref w37, .int (-1), .int 0, .int 0, .int 0]))] H := hP
        have hD : va_D A [(h0, .inr (10, [.int 1, .ref w0, .ref w1, .ref w2, .ref w3, .ref w4, .ref w5, .int 0, .ref w6, .int 0, .int 0, .int 0, .int 0, .int 0, .int 0, .int 0, .int 0, .long 0, .int 0, .int 0, .ref w7, .ref w8, .ref w9, .ref w10, .ref w11, .ref w12, .ref w13, .ref w14, .int 0, .int 0, .int 0, .ref w15, .ref w16, .ref w17, .ref w18, .ref w19, .ref w20, .int 0, .ref w21, .ref w22, .ref w23, .ref w24, .ref w25, .ref w26, .ref w27, .ref w28, .ref w29, .ref w30, .ref w31, .ref w32, .ref w33, .ref w34, .ref w35, .ref w36, .ref w37, .int (-1), .int 0, .int 0, .int 0]))] := hD
        refine lv_aload_n hx hb dX10_drawn__30 rfl (lv_at hl 0 rfl) ?_
        refine va_get (ci := 10) (v := .int 1) (C := RX10) (T := TX10) (N := 59) hx hb hts inX10 hown hK hP 0 rfl rfl 0 (by decide) (hts _ gm_901) (fun _ h9 => h9) rfl dX10_drawn__31 ?_
        refine lv_iconst (v := 1) hx hb dX10_drawn__34 (by decide) ?_
        refine lv_icmp_ne (tgt := 40) hx hb dX10_drawn__35 (by decide) (fun h9 => absurd (by decide) h9) (fun _ => ?_)
        refine lv_iconst (v := 0) hx hb dX10_drawn__38 (by decide) ?_
        exact gz_iret (p := p) (l := l) (e := e) (s := s) (m := m) (below := below) (meth := meth) (c := c) (H := H) (cells := 0) (slots := 0) (mc := 0) (ms := 0) (cf := (fun (u : Unit) => [(h0, .inr (10, [.int 1, .ref w0, .ref w1, .ref w2, .ref w3, .ref w4, .ref w5, .int 0, .ref w6, .int 0, .int 0, .int 0, .int 0, .int 0, .int 0, .int 0, .int 0, .long 0, .int 0, .int 0, .ref w7, .ref w8, .ref w9, .ref w10, .ref w11, .ref w12, .ref w13, .ref w14, .int 0, .int 0, .int 0, .ref w15, .ref w16, .ref w17, .ref w18, .ref w19, .ref w20, .int 0, .ref w21, .ref w22, .ref w23, .ref w24, .ref w25, .ref w26, .ref w27, .ref w28, .ref w29, .ref w30, .ref w31, .ref w32, .ref w33, .ref w34, .ref w35, .ref w36, .ref w37, .int (-1), .int 0, .int 0, .int 0]))])) (post := (fun (r : Int32) (u : Unit) => r = 0)) hx hb hr hlocks hK hP hD hS () [0] rfl rfl (by decide) rfl (by exact Nat.le_of_ble_eq_true rfl) (by exact Nat.le_of_ble_eq_true rfl) dX10_drawn__39
      · have ic_3 := gz_nlt (rfl : y.toInt = y.toInt) (by decide : (0 : Int32).toInt = 0) c_3
        refine lv_iload_n hx hb dX10_drawn__17 rfl (lv_at hl 2 rfl) ?_
        refine lv_iconst (v := 5) hx hb dX10_drawn__18 (by decide) ?_
        refine lv_icmp_le (tgt := 26) hx hb dX10_drawn__19 (by decide) (fun c_4 => ?_) (fun c_4 => ?_)
        · have ic_4 := gz_le (rfl : y.toInt = y.toInt) (by decide : (5 : Int32).toInt = 5) c_4
          refine lv_iconst (v := 0) hx hb dX10_drawn__26 (by decide) ?_
          refine va_put (ci := 10) (v := .int 0) (ty := .int) (C := RX10) (T := TX10) (N := 59) hx hb hts inX10 tyX10 tyX10_ok nmX10 hown hK hP hD hS 0 rfl rfl 0 (by decide) (hts _ gm_901) (fun _ h9 => h9) rfl (by decide +kernel) rfl rfl (Nat.le_of_ble_eq_true rfl) dX10_drawn__27 (fun H locs hP hD hS => ?_)
          have hP : va_P G vwCl [(h0, .inr (10, [.int 0, .ref w0, .ref w1, .ref w2, .ref w3, .ref w4, .ref w5, .int 0, .ref w6, .int 0, .int 0, .int 0, .int 0, .int 0, .int 0, .int 0, .int 0, .long 0, .int 0, .int 0, .ref w7, .ref w8, .ref w9, .ref w10, .ref w11, .ref w12, .ref w13, .ref w14, .int 0, .int 0, .int 0, .ref w15, .ref w16, .ref w17, .ref w18, .ref w19, .ref w20, .int 0, .ref w21, .ref w22, .ref w23, .ref w24, .ref w25, .ref w26, .ref w27, .ref w28, .ref w29, .ref w30, .ref w31, .ref w32, .ref w33, .ref w34, .ref w35, .ref w36, .ref w37, .int (-1), .int 0, .int 0, .int 0]))] H := hP
          have hD : va_D A [(h0, .inr (10, [.int 0, .ref w0, .ref w1, .ref w2, .ref w3, .ref w4, .ref w5, .int 0, .ref w6, .int 0, .int 0, .int 0, .int 0, .int 0, .int 0, .int 0, .int 0, .long 0, .int 0, .int 0, .ref w7, .ref w8, .ref w9, .ref w10, .ref w11, .ref w12, .ref w13, .ref w14, .int 0, .int 0, .int 0, .ref w15, .ref w16, .ref w17, .ref w18, .ref w19, .ref w20, .int 0, .ref w21, .ref w22, .ref w23, .ref w24, .ref w25, .ref w26, .ref w27, .ref w28, .ref w29, .ref w30, .ref w31, .ref w32, .ref w33, .ref w34, .ref w35, .ref w36, .ref w37, .int (-1), .int 0, .int 0, .int 0]))] := hD
          refine lv_aload_n hx hb dX10_drawn__30 rfl (lv_at hl 0 rfl) ?_
          refine va_get (ci := 10) (v := .int 0) (C := RX10) (T := TX10) (N := 59) hx hb hts inX10 hown hK hP 0 rfl rfl 0 (by decide) (hts _ gm_901) (fun _ h9 => h9) rfl dX10_drawn__31 ?_
          refine lv_iconst (v := 1) hx hb dX10_drawn__34 (by decide) ?_
          refine lv_icmp_ne (tgt := 40) hx hb dX10_drawn__35 (by decide) (fun _ => ?_) (fun h9 => absurd h9 (by decide))
          refine lv_iload_n hx hb dX10_drawn__40 rfl (lv_at hl 2 rfl) ?_
          refine lv_if_ne (tgt := 53) hx hb dX10_drawn__41 (by decide) (fun c_5 => ?_) (fun c_5 => ?_)
          · have ic_5 := gz_ne (rfl : y.toInt = y.toInt) (by decide : (0 : Int32).toInt = 0) c_5
            refine lv_iload_n hx hb dX10_drawn__53 rfl (lv_at hl 2 rfl) ?_
            refine lv_iconst (v := 1) hx hb dX10_drawn__54 (by decide) ?_
            refine lv_icmp_ne (tgt := 67) hx hb dX10_drawn__55 (by decide) (fun c_6 => ?_) (fun c_6 => ?_)
            · have ic_6 := gz_ne (rfl : y.toInt = y.toInt) (by decide : (1 : Int32).toInt = 1) c_6
              refine lv_iload_n hx hb dX10_drawn__67 rfl (lv_at hl 2 rfl) ?_
              refine lv_iconst (v := 2) hx hb dX10_drawn__68 (by decide) ?_
              refine lv_icmp_ne (tgt := 81) hx hb dX10_drawn__69 (by decide) (fun c_7 => ?_) (fun c_7 => ?_)
              · have ic_7 := gz_ne (rfl : y.toInt = y.toInt) (by decide : (2 : Int32).toInt = 2) c_7
                refine lv_iload_n hx hb dX10_drawn__81 rfl (lv_at hl 2 rfl) ?_
                refine lv_iconst (v := 3) hx hb dX10_drawn__82 (by decide) ?_
                refine lv_icmp_ne (tgt := 95) hx hb dX10_drawn__83 (by decide) (fun c_8 => ?_) (fun c_8 => ?_)
                · have ic_8 := gz_ne (rfl : y.toInt = y.toInt) (by decide : (3 : Int32).toInt = 3) c_8
                  refine lv_iload_n hx hb dX10_drawn__95 rfl (lv_at hl 2 rfl) ?_
                  refine lv_iconst (v := 4) hx hb dX10_drawn__96 (by decide) ?_
                  refine lv_icmp_ne (tgt := 109) hx hb dX10_drawn__97 (by decide) (fun c_9 => ?_) (fun c_9 => ?_)
                  · have ic_9 := gz_ne (rfl : y.toInt = y.toInt) (by decide : (4 : Int32).toInt = 4) c_9
                    refine lv_aload_n hx hb dX10_drawn__109 rfl (lv_at hl 0 rfl) ?_
                    refine va_get (ci := 10) (v := .ref w20) (C := RX10) (T := TX10) (N := 59) hx hb hts inX10 hown hK hP 0 rfl rfl 36 (by decide) (hts _ gm_937) (fun _ h9 => h9) rfl dX10_drawn__110 ?_
                    refine lv_iload_n hx hb dX10_drawn__113 rfl (lv_at hl 1 rfl) ?_
                    exfalso; omega
                  · have ic_9 := gz_eqn (rfl : y.toInt = y.toInt) (by decide : (4 : Int32).toInt = 4) c_9
                    refine lv_aload_n hx hb dX10_drawn__100 rfl (lv_at hl 0 rfl) ?_
                    refine va_get (ci := 10) (v := .ref w19) (C := RX10) (T := TX10) (N := 59) hx hb hts inX10 hown hK hP 0 rfl rfl 35 (by decide) (hts _ gm_936) (fun _ h9 => h9) rfl dX10_drawn__101 ?_
                    refine lv_iload_n hx hb dX10_drawn__104 rfl (lv_at hl 1 rfl) ?_
                    exfalso; omega
                · have ic_8 := gz_eqn (rfl : y.toInt = y.toInt) (by decide : (3 : Int32).toInt = 3) c_8
                  refine lv_aload_n hx hb dX10_drawn__86 rfl (lv_at hl 0 rfl) ?_
                  refine va_get (ci := 10) (v := .ref w18) (C := RX10) (T := TX10) (N := 59) hx hb hts inX10 hown hK hP 0 rfl rfl 34 (by decide) (hts _ gm_935) (fun _ h9 => h9) rfl dX10_drawn__87 ?_
                  refine lv_iload_n hx hb dX10_drawn__90 rfl (lv_at hl 1 rfl) ?_
                  exfalso; omega
              · have ic_7 := gz_eqn (rfl : y.toInt = y.toInt) (by decide : (2 : Int32).toInt = 2) c_7
                refine lv_aload_n hx hb dX10_drawn__72 rfl (lv_at hl 0 rfl) ?_
                refine va_get (ci := 10) (v := .ref w17) (C := RX10) (T := TX10) (N := 59) hx hb hts inX10 hown hK hP 0 rfl rfl 33 (by decide) (hts _ gm_934) (fun _ h9 => h9) rfl dX10_drawn__73 ?_
                refine lv_iload_n hx hb dX10_drawn__76 rfl (lv_at hl 1 rfl) ?_
                exfalso; omega
            · have ic_6 := gz_eqn (rfl : y.toInt = y.toInt) (by decide : (1 : Int32).toInt = 1) c_6
              refine lv_aload_n hx hb dX10_drawn__58 rfl (lv_at hl 0 rfl) ?_
              refine va_get (ci := 10) (v := .ref w16) (C := RX10) (T := TX10) (N := 59) hx hb hts inX10 hown hK hP 0 rfl rfl 32 (by decide) (hts _ gm_933) (fun _ h9 => h9) rfl dX10_drawn__59 ?_
              refine lv_iload_n hx hb dX10_drawn__62 rfl (lv_at hl 1 rfl) ?_
              exfalso; omega
          · have ic_5 := gz_eqn (rfl : y.toInt = y.toInt) (by decide : (0 : Int32).toInt = 0) c_5
            refine lv_aload_n hx hb dX10_drawn__44 rfl (lv_at hl 0 rfl) ?_
            refine va_get (ci := 10) (v := .ref w15) (C := RX10) (T := TX10) (N := 59) hx hb hts inX10 hown hK hP 0 rfl rfl 31 (by decide) (hts _ gm_932) (fun _ h9 => h9) rfl dX10_drawn__45 ?_
            refine lv_iload_n hx hb dX10_drawn__48 rfl (lv_at hl 1 rfl) ?_
            exfalso; omega
        · have ic_4 := gz_nle (rfl : y.toInt = y.toInt) (by decide : (5 : Int32).toInt = 5) c_4
          refine lv_iconst (v := 1) hx hb dX10_drawn__22 (by decide) ?_
          refine lv_goto (tgt := 27) hx hb dX10_drawn__23 (by decide) ?_
          refine va_put (ci := 10) (v := .int 1) (ty := .int) (C := RX10) (T := TX10) (N := 59) hx hb hts inX10 tyX10 tyX10_ok nmX10 hown hK hP hD hS 0 rfl rfl 0 (by decide) (hts _ gm_901) (fun _ h9 => h9) rfl (by decide +kernel) rfl rfl (Nat.le_of_ble_eq_true rfl) dX10_drawn__27 (fun H locs hP hD hS => ?_)
          have hP : va_P G vwCl [(h0, .inr (10, [.int 1, .ref w0, .ref w1, .ref w2, .ref w3, .ref w4, .ref w5, .int 0, .ref w6, .int 0, .int 0, .int 0, .int 0, .int 0, .int 0, .int 0, .int 0, .long 0, .int 0, .int 0, .ref w7, .ref w8, .ref w9, .ref w10, .ref w11, .ref w12, .ref w13, .ref w14, .int 0, .int 0, .int 0, .ref w15, .ref w16, .ref w17, .ref w18, .ref w19, .ref w20, .int 0, .ref w21, .ref w22, .ref w23, .ref w24, .ref w25, .ref w26, .ref w27, .ref w28, .ref w29, .ref w30, .ref w31, .ref w32, .ref w33, .ref w34, .ref w35, .ref w36, .ref w37, .int (-1), .int 0, .int 0, .int 0]))] H := hP
          have hD : va_D A [(h0, .inr (10, [.int 1, .ref w0, .ref w1, .ref w2, .ref w3, .ref w4, .ref w5, .int 0, .ref w6, .int 0, .int 0, .int 0, .int 0, .int 0, .int 0, .int 0, .int 0, .long 0, .int 0, .int 0, .ref w7, .ref w8, .ref w9, .ref w10, .ref w11, .ref w12, .ref w13, .ref w14, .int 0, .int 0, .int 0, .ref w15, .ref w16, .ref w17, .ref w18, .ref w19, .ref w20, .int 0, .ref w21, .ref w22, .ref w23, .ref w24, .ref w25, .ref w26, .ref w27, .ref w28, .ref w29, .ref w30, .ref w31, .ref w32, .ref w33, .ref w34, .ref w35, .ref w36, .ref w37, .int (-1), .int 0, .int 0, .int 0]))] := hD
          refine lv_aload_n hx hb dX10_drawn__30 rfl (lv_at hl 0 rfl) ?_
          refine va_get (ci := 10) (v := .int 1) (C := RX10) (T := TX10) (N := 59) hx hb hts inX10 hown hK hP 0 rfl rfl 0 (by decide) (hts _ gm_901) (fun _ h9 => h9) rfl dX10_drawn__31 ?_
          refine lv_iconst (v := 1) hx hb dX10_drawn__34 (by decide) ?_
          refine lv_icmp_ne (tgt := 40) hx hb dX10_drawn__35 (by decide) (fun h9 => absurd (by decide) h9) (fun _ => ?_)
          refine lv_iconst (v := 0) hx hb dX10_drawn__38 (by decide) ?_
          exact gz_iret (p := p) (l := l) (e := e) (s := s) (m := m) (below := below) (meth := meth) (c := c) (H := H) (cells := 0) (slots := 0) (mc := 0) (ms := 0) (cf := (fun (u : Unit) => [(h0, .inr (10, [.int 1, .ref w0, .ref w1, .ref w2, .ref w3, .ref w4, .ref w5, .int 0, .ref w6, .int 0, .int 0, .int 0, .int 0, .int 0, .int 0, .int 0, .int 0, .long 0, .int 0, .int 0, .ref w7, .ref w8, .ref w9, .ref w10, .ref w11, .ref w12, .ref w13, .ref w14, .int 0, .int 0, .int 0, .ref w15, .ref w16, .ref w17, .ref w18, .ref w19, .ref w20, .int 0, .ref w21, .ref w22, .ref w23, .ref w24, .ref w25, .ref w26, .ref w27, .ref w28, .ref w29, .ref w30, .ref w31, .ref w32, .ref w33, .ref w34, .ref w35, .ref w36, .ref w37, .int (-1), .int 0, .int 0, .int 0]))])) (post := (fun (r : Int32) (u : Unit) => r = 0)) hx hb hr hlocks hK hP hD hS () [0] rfl rfl (by decide) rfl (by exact Nat.le_of_ble_eq_true rfl) (by exact Nat.le_of_ble_eq_true rfl) dX10_drawn__39

set_option maxHeartbeats 4000000 in
set_option maxRecDepth 100000 in
/-- WellCourtModel.judge -/
theorem m_judge (l : Launch) (G : va_G) (cy : Nat → ClassId) (sz : Nat) (h0 : Nat) (w0 : Nat) (w1 : Nat) (w2 : Nat) (w3 : Nat) (w4 : Nat) (w5 : Nat) (w6 : Nat) (w7 : Nat) (w8 : Nat) (w9 : Nat) (w10 : Nat) (w11 : Nat) (w12 : Nat) (w13 : Nat) (w14 : Nat) (w15 : Nat) (w16 : Nat) (w17 : Nat) (w18 : Nat) (w19 : Nat) (w20 : Nat) (w21 : Nat) (w22 : Nat) (w23 : Nat) (w24 : Nat) (w25 : Nat) (w26 : Nat) (w27 : Nat) (w28 : Nat) (w29 : Nat) (w30 : Nat) (w31 : Nat) (w32 : Nat) (w33 : Nat) (w34 : Nat) (w35 : Nat) (w36 : Nat) (w37 : Nat) (x : Int32) (y : Int32) (z : Int32) (v : Int32) (t : Int32) (Xx : Int) (Xy : Int) (Xz : Int) (Xv : Int) (Xt : Int) (kx : x.toInt = Xx) (ky : y.toInt = Xy) (kz : z.toInt = Xz) (kv : v.toInt = Xv) (kt : t.toInt = Xt)  : gMi l yX10_judge cX10_judge 12 (some .int) ({ frames := 1, cells := 0, slots := 0, locals := 20 }) G cy sz [.ref h0, .int x, .int y, .int z, .int v, .int t] [(h0, .inr (10, [.int 0, .ref w0, .ref w1, .ref w2, .ref w3, .ref w4, .ref w5, .int 0, .ref w6, .int 0, .int 0, .int 0, .int 0, .int 0, .int 0, .int 0, .int 0, .long 0, .int 0, .int 0, .ref w7, .ref w8, .ref w9, .ref w10, .ref w11, .ref w12, .ref w13, .ref w14, .int 0, .int 0, .int 0, .ref w15, .ref w16, .ref w17, .ref w18, .ref w19, .ref w20, .int 0, .ref w21, .ref w22, .ref w23, .ref w24, .ref w25, .ref w26, .ref w27, .ref w28, .ref w29, .ref w30, .ref w31, .ref w32, .ref w33, .ref w34, .ref w35, .ref w36, .ref w37, .int (-1), .int 0, .int 0, .int 0]))] (fun (r : Int32) (u : Unit) => (r = 0 ∧ (0 ≤ Xx ∧ Xx < 6 ∧ 0 ≤ Xt ∧ Xt ≤ 3)) ∨ (r = (-1) ∧ (¬ (0 ≤ Xx ∧ Xx < 6 ∧ 0 ≤ Xt ∧ Xt ≤ 3)))) (fun (u : Unit) => []) := by
  refine gz_start (fun A => gQi G cy _ _ A) (by decide) (Nat.le_of_ble_eq_true rfl) ?_
  intro p e s m below meth c A ls H hx hb hr hml hlocks hin hown hts hK hov hsz hP hD hS hA hl
  have hl : lv_has ls 12 [(0, .ref h0), (1, .int x), (2, .int y), (3, .int z), (4, .int v), (5, .int t)] := hl
  refine lv_aload_n hx hb dX10_judge_0 rfl (lv_at hl 0 rfl) ?_
  refine lv_iconst (v := 0) hx hb dX10_judge_1 (by decide) ?_
  refine va_put (ci := 10) (v := .int 0) (ty := .int) (C := RX10) (T := TX10) (N := 59) hx hb hts inX10 tyX10 tyX10_ok nmX10 hown hK hP hD hS 0 rfl rfl 0 (by decide) (hts _ gm_901) (fun _ h9 => h9) rfl (by decide +kernel) rfl rfl (Nat.le_of_ble_eq_true rfl) dX10_judge_2 (fun H locs hP hD hS => ?_)
  have hP : va_P G vwCl [(h0, .inr (10, [.int 0, .ref w0, .ref w1, .ref w2, .ref w3, .ref w4, .ref w5, .int 0, .ref w6, .int 0, .int 0, .int 0, .int 0, .int 0, .int 0, .int 0, .int 0, .long 0, .int 0, .int 0, .ref w7, .ref w8, .ref w9, .ref w10, .ref w11, .ref w12, .ref w13, .ref w14, .int 0, .int 0, .int 0, .ref w15, .ref w16, .ref w17, .ref w18, .ref w19, .ref w20, .int 0, .ref w21, .ref w22, .ref w23, .ref w24, .ref w25, .ref w26, .ref w27, .ref w28, .ref w29, .ref w30, .ref w31, .ref w32, .ref w33, .ref w34, .ref w35, .ref w36, .ref w37, .int (-1), .int 0, .int 0, .int 0]))] H := hP
  have hD : va_D A [(h0, .inr (10, [.int 0, .ref w0, .ref w1, .ref w2, .ref w3, .ref w4, .ref w5, .int 0, .ref w6, .int 0, .int 0, .int 0, .int 0, .int 0, .int 0, .int 0, .int 0, .long 0, .int 0, .int 0, .ref w7, .ref w8, .ref w9, .ref w10, .ref w11, .ref w12, .ref w13, .ref w14, .int 0, .int 0, .int 0, .ref w15, .ref w16, .ref w17, .ref w18, .ref w19, .ref w20, .int 0, .ref w21, .ref w22, .ref w23, .ref w24, .ref w25, .ref w26, .ref w27, .ref w28, .ref w29, .ref w30, .ref w31, .ref w32, .ref w33, .ref w34, .ref w35, .ref w36, .ref w37, .int (-1), .int 0, .int 0, .int 0]))] := hD
  refine lv_iload_n hx hb dX10_judge_5 rfl (lv_at hl 1 rfl) ?_
  refine gz_afti (va_runS (As := [.int x]) (rest := []) ⟨hx, hb, hml, hown, hts⟩ (m_isClan l G cy H.size x x.toInt rfl) ⟨(gz_cb (n := 1) hts gm_1213 gm_12 gm_1215 ⟨by decide +kernel, by decide +kernel, by decide +kernel⟩ ⟨Nat.le_of_ble_eq_true rfl, Nat.le_of_ble_eq_true rfl⟩), hts _ gm_1214⟩ (gz_preS hK hov hP hD [] (by decide) rfl) rfl rfl hl.1 rfl (lv_room (Nat.le_of_ble_eq_true rfl)) dX10_judge_6 ⟨Nat.le_of_ble_eq_true rfl, Nat.le_of_ble_eq_true rfl⟩) hP hD hS hA [] [0] rfl rfl (by decide) (by decide) (fun r_1 u_1 H locs hw_1 hP hD hS => ?_)
  have hP : va_P G vwCl [(h0, .inr (10, [.int 0, .ref w0, .ref w1, .ref w2, .ref w3, .ref w4, .ref w5, .int 0, .ref w6, .int 0, .int 0, .int 0, .int 0, .int 0, .int 0, .int 0, .int 0, .long 0, .int 0, .int 0, .ref w7, .ref w8, .ref w9, .ref w10, .ref w11, .ref w12, .ref w13, .ref w14, .int 0, .int 0, .int 0, .ref w15, .ref w16, .ref w17, .ref w18, .ref w19, .ref w20, .int 0, .ref w21, .ref w22, .ref w23, .ref w24, .ref w25, .ref w26, .ref w27, .ref w28, .ref w29, .ref w30, .ref w31, .ref w32, .ref w33, .ref w34, .ref w35, .ref w36, .ref w37, .int (-1), .int 0, .int 0, .int 0]))] H := hP
  have hD : va_D A [(h0, .inr (10, [.int 0, .ref w0, .ref w1, .ref w2, .ref w3, .ref w4, .ref w5, .int 0, .ref w6, .int 0, .int 0, .int 0, .int 0, .int 0, .int 0, .int 0, .int 0, .long 0, .int 0, .int 0, .ref w7, .ref w8, .ref w9, .ref w10, .ref w11, .ref w12, .ref w13, .ref w14, .int 0, .int 0, .int 0, .ref w15, .ref w16, .ref w17, .ref w18, .ref w19, .ref w20, .int 0, .ref w21, .ref w22, .ref w23, .ref w24, .ref w25, .ref w26, .ref w27, .ref w28, .ref w29, .ref w30, .ref w31, .ref w32, .ref w33, .ref w34, .ref w35, .ref w36, .ref w37, .int (-1), .int 0, .int 0, .int 0]))] := hD
  rcases hw_1 with ⟨rfl, hw_1_0, hw_1_1⟩ | ⟨rfl, hw_1_0⟩
  · skip
    refine lv_if_eq (tgt := 23) hx hb dX10_judge_9 (by decide) (fun h9 => absurd h9 (by decide)) (fun _ => ?_)
    refine lv_iload hx hb dX10_judge_12 (lv_at hl 5 rfl) ?_
    refine lv_if_lt (tgt := 23) hx hb dX10_judge_14 (by decide) (fun c_2 => ?_) (fun c_2 => ?_)
    · have ic_2 := gz_lt (rfl : t.toInt = t.toInt) (by decide : (0 : Int32).toInt = 0) c_2
      refine lv_iconst (v := (-1)) hx hb dX10_judge_23 (by decide) ?_
      exact gz_iret (p := p) (l := l) (e := e) (s := s) (m := m) (below := below) (meth := meth) (c := c) (H := H) (cells := 0) (slots := 0) (mc := 0) (ms := 0) (cf := (fun (u : Unit) => [])) (post := (fun (r : Int32) (u : Unit) => (r = 0 ∧ (0 ≤ Xx ∧ Xx < 6 ∧ 0 ≤ Xt ∧ Xt ≤ 3)) ∨ (r = (-1) ∧ (¬ (0 ≤ Xx ∧ Xx < 6 ∧ 0 ≤ Xt ∧ Xt ≤ 3))))) hx hb hr hlocks hK hP hD hS () [] rfl (Or.inr (⟨rfl, by omega⟩)) (by decide) rfl (by exact Nat.le_of_ble_eq_true rfl) (by exact Nat.le_of_ble_eq_true rfl) dX10_judge_24
    · have ic_2 := gz_nlt (rfl : t.toInt = t.toInt) (by decide : (0 : Int32).toInt = 0) c_2
      refine lv_iload hx hb dX10_judge_17 (lv_at hl 5 rfl) ?_
      refine lv_iconst (v := 3) hx hb dX10_judge_19 (by decide) ?_
      refine lv_icmp_le (tgt := 25) hx hb dX10_judge_20 (by decide) (fun c_3 => ?_) (fun c_3 => ?_)
      · have ic_3 := gz_le (rfl : t.toInt = t.toInt) (by decide : (3 : Int32).toInt = 3) c_3
        refine lv_iconst (v := 0) hx hb dX10_judge_25 (by decide) ?_
        refine lv_istore (lv' := [(6, .int 0), (0, .ref h0), (1, .int x), (2, .int y), (3, .int z), (4, .int v), (5, .int t)]) hx hb dX10_judge_26 hl (by decide) rfl (fun ls hl => ?_)
        refine lv_iconst (v := 0) hx hb dX10_judge_28 (by decide) ?_
        refine lv_istore (lv' := [(7, .int 0), (6, .int 0), (0, .ref h0), (1, .int x), (2, .int y), (3, .int z), (4, .int v), (5, .int t)]) hx hb dX10_judge_29 hl (by decide) rfl (fun ls hl => ?_)
        refine lv_iconst (v := 0) hx hb dX10_judge_31 (by decide) ?_
        refine lv_istore (lv' := [(8, .int 0), (7, .int 0), (6, .int 0), (0, .ref h0), (1, .int x), (2, .int y), (3, .int z), (4, .int v), (5, .int t)]) hx hb dX10_judge_32 hl (by decide) rfl (fun ls hl => ?_)
        refine lv_iconst (v := 0) hx hb dX10_judge_34 (by decide) ?_
        refine lv_istore (lv' := [(9, .int 0), (8, .int 0), (7, .int 0), (6, .int 0), (0, .ref h0), (1, .int x), (2, .int y), (3, .int z), (4, .int v), (5, .int t)]) hx hb dX10_judge_35 hl (by decide) rfl (fun ls hl => ?_)
        refine lv_iconst (v := 0) hx hb dX10_judge_37 (by decide) ?_
        refine lv_istore (lv' := [(10, .int 0), (9, .int 0), (8, .int 0), (7, .int 0), (6, .int 0), (0, .ref h0), (1, .int x), (2, .int y), (3, .int z), (4, .int v), (5, .int t)]) hx hb dX10_judge_38 hl (by decide) rfl (fun ls hl => ?_)
        refine lv_iload hx hb dX10_judge_40 (lv_at hl 0 rfl) ?_
        refine lv_aload_n hx hb dX10_judge_42 rfl (lv_at hl 5 rfl) ?_
        refine va_get (ci := 10) (v := .int 0) (C := RX10) (T := TX10) (N := 59) hx hb hts inX10 hown hK hP 0 rfl rfl 37 (by decide) (hts _ gm_938) (fun _ h9 => h9) rfl dX10_judge_43 ?_
        refine lv_icmp_ge (tgt := 221) hx hb dX10_judge_46 (by decide) (fun _ => ?_) (fun h9 => absurd (by decide) h9)
        refine lv_iconst (v := 2) hx hb dX10_judge_221 (by decide) ?_
        refine lv_iload hx hb dX10_judge_222 (lv_at hl 2 rfl) ?_
        refine lv_imul hx hb dX10_judge_224 ?_
        refine lv_topi (fun x_4 ex_4 => ?_)
        obtain rfl : x_4 = (0 : Int32) := ex_4.trans (by decide)
        refine lv_iload hx hb dX10_judge_225 (lv_at hl 1 rfl) ?_
        refine lv_isub hx hb dX10_judge_227 ?_
        refine lv_topi (fun x_5 ex_5 => ?_)
        obtain rfl : x_5 = (0 : Int32) := ex_5.trans (by decide)
        refine lv_istore (lv' := [(10, .int 0), (9, .int 0), (8, .int 0), (7, .int 0), (6, .int 0), (0, .ref h0), (1, .int x), (2, .int y), (3, .int z), (4, .int v), (5, .int t)]) hx hb dX10_judge_228 hl (by decide) rfl (fun ls hl => ?_)
        refine lv_iload hx hb dX10_judge_230 (lv_at hl 10 rfl) ?_
        refine lv_if_ne (tgt := 240) hx hb dX10_judge_232 (by decide) (fun c_6 => ?_) (fun c_6 => ?_)
        · have ic_6 := gz_ne (rfl : t.toInt = t.toInt) (by decide : (0 : Int32).toInt = 0) c_6
          refine lv_iload hx hb dX10_judge_240 (lv_at hl 10 rfl) ?_
          refine lv_iconst (v := 1) hx hb dX10_judge_242 (by decide) ?_
          refine lv_icmp_ne (tgt := 251) hx hb dX10_judge_243 (by decide) (fun c_7 => ?_) (fun c_7 => ?_)
          · have ic_7 := gz_ne (rfl : t.toInt = t.toInt) (by decide : (1 : Int32).toInt = 1) c_7
            refine lv_iload hx hb dX10_judge_251 (lv_at hl 10 rfl) ?_
            refine lv_iconst (v := 2) hx hb dX10_judge_253 (by decide) ?_
            refine lv_icmp_ne (tgt := 262) hx hb dX10_judge_254 (by decide) (fun c_8 => ?_) (fun c_8 => ?_)
            · have ic_8 := gz_ne (rfl : t.toInt = t.toInt) (by decide : (2 : Int32).toInt = 2) c_8
              refine lv_iload hx hb dX10_judge_262 (lv_at hl 0 rfl) ?_
              refine lv_if_le (tgt := 272) hx hb dX10_judge_264 (by decide) (fun _ => ?_) (fun h9 => absurd (by decide) h9)
              refine lv_iconst (v := 0) hx hb dX10_judge_272 (by decide) ?_
              exact gz_iret (p := p) (l := l) (e := e) (s := s) (m := m) (below := below) (meth := meth) (c := c) (H := H) (cells := 0) (slots := 0) (mc := 0) (ms := 0) (cf := (fun (u : Unit) => [])) (post := (fun (r : Int32) (u : Unit) => (r = 0 ∧ (0 ≤ Xx ∧ Xx < 6 ∧ 0 ≤ Xt ∧ Xt ≤ 3)) ∨ (r = (-1) ∧ (¬ (0 ≤ Xx ∧ Xx < 6 ∧ 0 ≤ Xt ∧ Xt ≤ 3))))) hx hb hr hlocks hK hP hD hS () [] rfl (Or.inl (⟨rfl, by omega⟩)) (by decide) rfl (by exact Nat.le_of_ble_eq_true rfl) (by exact Nat.le_of_ble_eq_true rfl) dX10_judge_273
            · have ic_8 := gz_eqn (rfl : t.toInt = t.toInt) (by decide : (2 : Int32).toInt = 2) c_8
              refine lv_iload hx hb dX10_judge_257 (lv_at hl 2 rfl) ?_
              refine lv_goto (tgt := 273) hx hb dX10_judge_259 (by decide) ?_
              exact gz_iret (p := p) (l := l) (e := e) (s := s) (m := m) (below := below) (meth := meth) (c := c) (H := H) (cells := 0) (slots := 0) (mc := 0) (ms := 0) (cf := (fun (u : Unit) => [])) (post := (fun (r : Int32) (u : Unit) => (r = 0 ∧ (0 ≤ Xx ∧ Xx < 6 ∧ 0 ≤ Xt ∧ Xt ≤ 3)) ∨ (r = (-1) ∧ (¬ (0 ≤ Xx ∧ Xx < 6 ∧ 0 ≤ Xt ∧ Xt ≤ 3))))) hx hb hr hlocks hK hP hD hS () [] rfl (Or.inl (⟨rfl, by omega⟩)) (by decide) rfl (by exact Nat.le_of_ble_eq_true rfl) (by exact Nat.le_of_ble_eq_true rfl) dX10_judge_273
          · have ic_7 := gz_eqn (rfl : t.toInt = t.toInt) (by decide : (1 : Int32).toInt = 1) c_7
            refine lv_iload hx hb dX10_judge_246 (lv_at hl 3 rfl) ?_
            refine lv_goto (tgt := 273) hx hb dX10_judge_248 (by decide) ?_
            exact gz_iret (p := p) (l := l) (e := e) (s := s) (m := m) (below := below) (meth := meth) (c := c) (H := H) (cells := 0) (slots := 0) (mc := 0) (ms := 0) (cf := (fun (u : Unit) => [])) (post := (fun (r : Int32) (u : Unit) => (r = 0 ∧ (0 ≤ Xx ∧ Xx < 6 ∧ 0 ≤ Xt ∧ Xt ≤ 3)) ∨ (r = (-1) ∧ (¬ (0 ≤ Xx ∧ Xx < 6 ∧ 0 ≤ Xt ∧ Xt ≤ 3))))) hx hb hr hlocks hK hP hD hS () [] rfl (Or.inl (⟨rfl, by omega⟩)) (by decide) rfl (by exact Nat.le_of_ble_eq_true rfl) (by exact Nat.le_of_ble_eq_true rfl) dX10_judge_273
        · have ic_6 := gz_eqn (rfl : t.toInt = t.toInt) (by decide : (0 : Int32).toInt = 0) c_6
          refine lv_iload hx hb dX10_judge_235 (lv_at hl 4 rfl) ?_
          refine lv_goto (tgt := 273) hx hb dX10_judge_237 (by decide) ?_
          exact gz_iret (p := p) (l := l) (e := e) (s := s) (m := m) (below := below) (meth := meth) (c := c) (H := H) (cells := 0) (slots := 0) (mc := 0) (ms := 0) (cf := (fun (u : Unit) => [])) (post := (fun (r : Int32) (u : Unit) => (r = 0 ∧ (0 ≤ Xx ∧ Xx < 6 ∧ 0 ≤ Xt ∧ Xt ≤ 3)) ∨ (r = (-1) ∧ (¬ (0 ≤ Xx ∧ Xx < 6 ∧ 0 ≤ Xt ∧ Xt ≤ 3))))) hx hb hr hlocks hK hP hD hS () [] rfl (Or.inl (⟨rfl, by omega⟩)) (by decide) rfl (by exact Nat.le_of_ble_eq_true rfl) (by exact Nat.le_of_ble_eq_true rfl) dX10_judge_273
      · have ic_3 := gz_nle (rfl : t.toInt = t.toInt) (by decide : (3 : Int32).toInt = 3) c_3
        refine lv_iconst (v := (-1)) hx hb dX10_judge_23 (by decide) ?_
        exact gz_iret (p := p) (l := l) (e := e) (s := s) (m := m) (below := below) (meth := meth) (c := c) (H := H) (cells := 0) (slots := 0) (mc := 0) (ms := 0) (cf := (fun (u : Unit) => [])) (post := (fun (r : Int32) (u : Unit) => (r = 0 ∧ (0 ≤ Xx ∧ Xx < 6 ∧ 0 ≤ Xt ∧ Xt ≤ 3)) ∨ (r = (-1) ∧ (¬ (0 ≤ Xx ∧ Xx < 6 ∧ 0 ≤ Xt ∧ Xt ≤ 3))))) hx hb hr hlocks hK hP hD hS () [] rfl (Or.inr (⟨rfl, by omega⟩)) (by decide) rfl (by exact Nat.le_of_ble_eq_true rfl) (by exact Nat.le_of_ble_eq_true rfl) dX10_judge_24
  · skip
    refine lv_if_eq (tgt := 23) hx hb dX10_judge_9 (by decide) (fun _ => ?_) (fun h9 => absurd (by decide) h9)
    refine lv_iconst (v := (-1)) hx hb dX10_judge_23 (by decide) ?_
    exact gz_iret (p := p) (l := l) (e := e) (s := s) (m := m) (below := below) (meth := meth) (c := c) (H := H) (cells := 0) (slots := 0) (mc := 0) (ms := 0) (cf := (fun (u : Unit) => [])) (post := (fun (r : Int32) (u : Unit) => (r = 0 ∧ (0 ≤ Xx ∧ Xx < 6 ∧ 0 ≤ Xt ∧ Xt ≤ 3)) ∨ (r = (-1) ∧ (¬ (0 ≤ Xx ∧ Xx < 6 ∧ 0 ≤ Xt ∧ Xt ≤ 3))))) hx hb hr hlocks hK hP hD hS () [] rfl (Or.inr (⟨rfl, by omega⟩)) (by decide) rfl (by exact Nat.le_of_ble_eq_true rfl) (by exact Nat.le_of_ble_eq_true rfl) dX10_judge_24

set_option maxHeartbeats 4000000 in
set_option maxRecDepth 100000 in
/-- WellCourtModel.herd -/
theorem m_herd (l : Launch) (G : va_G) (cy : Nat → ClassId) (sz : Nat) (h0 : Nat) (w0 : Nat) (w1 : Nat) (w2 : Nat) (w3 : Nat) (w4 : Nat) (w5 : Nat) (w6 : Nat) (w7 : Nat) (w8 : Nat) (w9 : Nat) (w10 : Nat) (w11 : Nat) (w12 : Nat) (w13 : Nat) (w14 : Nat) (w15 : Nat) (w16 : Nat) (w17 : Nat) (w18 : Nat) (w19 : Nat) (w20 : Nat) (w21 : Nat) (w22 : Nat) (w23 : Nat) (w24 : Nat) (w25 : Nat) (w26 : Nat) (w27 : Nat) (w28 : Nat) (w29 : Nat) (w30 : Nat) (w31 : Nat) (w32 : Nat) (w33 : Nat) (w34 : Nat) (w35 : Nat) (w36 : Nat) (w37 : Nat) (x : Int32) (y : Int32) (z : Int32) (v : Int32) (t : Int32) (Xx : Int) (Xy : Int) (Xz : Int) (Xv : Int) (Xt : Int) (kx : x.toInt = Xx) (ky : y.toInt = Xy) (kz : z.toInt = Xz) (kv : v.toInt = Xv) (kt : t.toInt = Xt)  : gMi l yX10_herd cX10_herd 6 (some .boolean) ({ frames := 1, cells := 0, slots := 0, locals := 21 }) G cy sz [.ref h0, .int x, .int y, .int z, .int v, .int t] [(h0, .inr (10, [.int 0, .ref w0, .ref w1, .ref w2, .ref w3, .ref w4, .ref w5, .int 0, .ref w6, .int 0, .int 0, .int 0, .int 0, .int 0, .int 0, .int 0, .int 0, .long 0, .int 0, .int 0, .ref w7, .ref w8, .ref w9, .ref w10, .ref w11, .ref w12, .ref w13, .ref w14, .int 0, .int 0, .int 0, .ref w15, .ref w16, .ref w17, .ref w18, .ref w19, .ref w20, .int 0, .ref w21, .ref w22, .ref w23, .ref w24, .ref w25, .ref w26, .ref w27, .ref w28, .ref w29, .ref w30, .ref w31, .ref w32, .ref w33, .ref w34, .ref w35, .ref w36, .ref w37, .int (-1), .int 0, .int 0, .int 0])), (w0, .inl (cy 2, 6, .inl (fun _ => 0)))] (fun (r : Int32) (u : Unit) => r = 0) (fun (u : Unit) => []) := by
  refine gz_start (fun A => gQi G cy _ _ A) (by decide) (Nat.le_of_ble_eq_true rfl) ?_
  intro p e s m below meth c A ls H hx hb hr hml hlocks hin hown hts hK hov hsz hP hD hS hA hl
  have hl : lv_has ls 6 [(0, .ref h0), (1, .int x), (2, .int y), (3, .int z), (4, .int v), (5, .int t)] := hl
  refine lv_aload_n hx hb dX10_herd_0 rfl (lv_at hl 0 rfl) ?_
  refine lv_iconst (v := 0) hx hb dX10_herd_1 (by decide) ?_
  refine va_put (ci := 10) (v := .int 0) (ty := .int) (C := RX10) (T := TX10) (N := 59) hx hb hts inX10 tyX10 tyX10_ok nmX10 hown hK hP hD hS 0 rfl rfl 0 (by decide) (hts _ gm_901) (fun _ h9 => h9) rfl (by decide +kernel) rfl rfl (Nat.le_of_ble_eq_true rfl) dX10_herd_2 (fun H locs hP hD hS => ?_)
  have hP : va_P G vwCl [(h0, .inr (10, [.int 0, .ref w0, .ref w1, .ref w2, .ref w3, .ref w4, .ref w5, .int 0, .ref w6, .int 0, .int 0, .int 0, .int 0, .int 0, .int 0, .int 0, .int 0, .long 0, .int 0, .int 0, .ref w7, .ref w8, .ref w9, .ref w10, .ref w11, .ref w12, .ref w13, .ref w14, .int 0, .int 0, .int 0, .ref w15, .ref w16, .ref w17, .ref w18, .ref w19, .ref w20, .int 0, .ref w21, .ref w22, .ref w23, .ref w24, .ref w25, .ref w26, .ref w27, .ref w28, .ref w29, .ref w30, .ref w31, .ref w32, .ref w33, .ref w34, .ref w35, .ref w36, .ref w37, .int (-1), .int 0, .int 0, .int 0])), (w0, .inl (cy 2, 6, .inl (fun _ => 0)))] H := hP
  have hD : va_D A [(h0, .inr (10, [.int 0, .ref w0, .ref w1, .ref w2, .ref w3, .ref w4, .ref w5, .int 0, .ref w6, .int 0, .int 0, .int 0, .int 0, .int 0, .int 0, .int 0, .int 0, .long 0, .int 0, .int 0, .ref w7, .ref w8, .ref w9, .ref w10, .ref w11, .ref w12, .ref w13, .ref w14, .int 0, .int 0, .int 0, .ref w15, .ref w16, .ref w17, .ref w18, .ref w19, .ref w20, .int 0, .ref w21, .ref w22, .ref w23, .ref w24, .ref w25, .ref w26, .ref w27, .ref w28, .ref w29, .ref w30, .ref w31, .ref w32, .ref w33, .ref w34, .ref w35, .ref w36, .ref w37, .int (-1), .int 0, .int 0, .int 0])), (w0, .inl (cy 2, 6, .inl (fun _ => 0)))] := hD
  refine lv_iload_n hx hb dX10_herd_5 rfl (lv_at hl 1 rfl) ?_
  refine lv_if_lt (tgt := 54) hx hb dX10_herd_6 (by decide) (fun c_1 => ?_) (fun c_1 => ?_)
  · have ic_1 := gz_lt (rfl : x.toInt = x.toInt) (by decide : (0 : Int32).toInt = 0) c_1
    refine lv_iconst (v := 0) hx hb dX10_herd_54 (by decide) ?_
    exact gz_iret (p := p) (l := l) (e := e) (s := s) (m := m) (below := below) (meth := meth) (c := c) (H := H) (cells := 0) (slots := 0) (mc := 0) (ms := 0) (cf := (fun (u : Unit) => [])) (post := (fun (r : Int32) (u : Unit) => r = 0)) hx hb hr hlocks hK hP hD hS () [] (by decide) rfl (by decide) rfl (by exact Nat.le_of_ble_eq_true rfl) (by exact Nat.le_of_ble_eq_true rfl) dX10_herd_55
  · have ic_1 := gz_nlt (rfl : x.toInt = x.toInt) (by decide : (0 : Int32).toInt = 0) c_1
    refine lv_iload_n hx hb dX10_herd_9 rfl (lv_at hl 1 rfl) ?_
    refine lv_iconst (v := 4) hx hb dX10_herd_10 (by decide) ?_
    refine lv_icmp_ge (tgt := 54) hx hb dX10_herd_11 (by decide) (fun c_2 => ?_) (fun c_2 => ?_)
    · have ic_2 := gz_le (by decide : (4 : Int32).toInt = 4) (rfl : x.toInt = x.toInt) c_2
      refine lv_iconst (v := 0) hx hb dX10_herd_54 (by decide) ?_
      exact gz_iret (p := p) (l := l) (e := e) (s := s) (m := m) (below := below) (meth := meth) (c := c) (H := H) (cells := 0) (slots := 0) (mc := 0) (ms := 0) (cf := (fun (u : Unit) => [])) (post := (fun (r : Int32) (u : Unit) => r = 0)) hx hb hr hlocks hK hP hD hS () [] (by decide) rfl (by decide) rfl (by exact Nat.le_of_ble_eq_true rfl) (by exact Nat.le_of_ble_eq_true rfl) dX10_herd_55
    · have ic_2 := gz_nle (by decide : (4 : Int32).toInt = 4) (rfl : x.toInt = x.toInt) c_2
      refine lv_iload_n hx hb dX10_herd_14 rfl (lv_at hl 2 rfl) ?_
      refine gz_afti (va_runS (As := [.int y]) (rest := []) ⟨hx, hb, hml, hown, hts⟩ (m_isClan l G cy H.size y y.toInt rfl) ⟨(gz_cb (n := 1) hts gm_1213 gm_12 gm_1215 ⟨by decide +kernel, by decide +kernel, by decide +kernel⟩ ⟨Nat.le_of_ble_eq_true rfl, Nat.le_of_ble_eq_true rfl⟩), hts _ gm_1214⟩ (gz_preS hK hov hP hD [] (by decide) rfl) rfl rfl hl.1 rfl (lv_room (Nat.le_of_ble_eq_true rfl)) dX10_herd_15 ⟨Nat.le_of_ble_eq_true rfl, Nat.le_of_ble_eq_true rfl⟩) hP hD hS hA [] [0, 1] rfl rfl (by decide) (by decide) (fun r_3 u_3 H locs hw_3 hP hD hS => ?_)
      have hP : va_P G vwCl [(h0, .inr (10, [.int 0, .ref w0, .ref w1, .ref w2, .ref w3, .ref w4, .ref w5, .int 0, .ref w6, .int 0, .int 0, .int 0, .int 0, .int 0, .int 0, .int 0, .int 0, .long 0, .int 0, .int 0, .ref w7, .ref w8, .ref w9, .ref w10, .ref w11, .ref w12, .ref w13, .ref w14, .int 0, .int 0, .int 0, .ref w15, .ref w16, .ref w17, .ref w18, .ref w19, .ref w20, .int 0, .ref w21, .ref w22, .ref w23, .ref w24, .ref w25, .ref w26, .ref w27, .ref w28, .ref w29, .ref w30, .ref w31, .ref w32, .ref w33, .ref w34, .ref w35, .ref w36, .ref w37, .int (-1), .int 0, .int 0, .int 0])), (w0, .inl (cy 2, 6, .inl (fun _ => 0)))] H := hP
      have hD : va_D A [(h0, .inr (10, [.int 0, .ref w0, .ref w1, .ref w2, .ref w3, .ref w4, .ref w5, .int 0, .ref w6, .int 0, .int 0, .int 0, .int 0, .int 0, .int 0, .int 0, .int 0, .long 0, .int 0, .int 0, .ref w7, .ref w8, .ref w9, .ref w10, .ref w11, .ref w12, .ref w13, .ref w14, .int 0, .int 0, .int 0, .ref w15, .ref w16, .ref w17, .ref w18, .ref w19, .ref w20, .int 0, .ref w21, .ref w22, .ref w23, .ref w24, .ref w25, .ref w26, .ref w27, .ref w28, .ref w29, .ref w30, .ref w31, .ref w32, .ref w33, .ref w34, .ref w35, .ref w36, .ref w37, .int (-1), .int 0, .int 0, .int 0])), (w0, .inl (cy 2, 6, .inl (fun _ => 0)))] := hD
      rcases hw_3 with ⟨rfl, hw_3_0, hw_3_1⟩ | ⟨rfl, hw_3_0⟩
      · skip
        refine lv_if_eq (tgt := 54) hx hb dX10_herd_18 (by decide) (fun h9 => absurd h9 (by decide)) (fun _ => ?_)
        refine lv_iload_n hx hb dX10_herd_21 rfl (lv_at hl 3 rfl) ?_
        refine lv_iconst (v := 1) hx hb dX10_herd_22 (by decide) ?_
        refine lv_icmp_lt (tgt := 54) hx hb dX10_herd_23 (by decide) (fun c_4 => ?_) (fun c_4 => ?_)
        · have ic_4 := gz_lt (rfl : z.toInt = z.toInt) (by decide : (1 : Int32).toInt = 1) c_4
          refine lv_iconst (v := 0) hx hb dX10_herd_54 (by decide) ?_
          exact gz_iret (p := p) (l := l) (e := e) (s := s) (m := m) (below := below) (meth := meth) (c := c) (H := H) (cells := 0) (slots := 0) (mc := 0) (ms := 0) (cf := (fun (u : Unit) => [])) (post := (fun (r : Int32) (u : Unit) => r = 0)) hx hb hr hlocks hK hP hD hS () [] (by decide) rfl (by decide) rfl (by exact Nat.le_of_ble_eq_true rfl) (by exact Nat.le_of_ble_eq_true rfl) dX10_herd_55
        · have ic_4 := gz_nlt (rfl : z.toInt = z.toInt) (by decide : (1 : Int32).toInt = 1) c_4
          refine lv_iload_n hx hb dX10_herd_26 rfl (lv_at hl 3 rfl) ?_
          refine lv_bipush (v := 100) hx hb dX10_herd_27 (by decide) ?_
          refine lv_icmp_gt (tgt := 54) hx hb dX10_herd_29 (by decide) (fun c_5 => ?_) (fun c_5 => ?_)
          · have ic_5 := gz_lt (by decide : (100 : Int32).toInt = 100) (rfl : z.toInt = z.toInt) c_5
            refine lv_iconst (v := 0) hx hb dX10_herd_54 (by decide) ?_
            exact gz_iret (p := p) (l := l) (e := e) (s := s) (m := m) (below := below) (meth := meth) (c := c) (H := H) (cells := 0) (slots := 0) (mc := 0) (ms := 0) (cf := (fun (u : Unit) => [])) (post := (fun (r : Int32) (u : Unit) => r = 0)) hx hb hr hlocks hK hP hD hS () [] (by decide) rfl (by decide) rfl (by exact Nat.le_of_ble_eq_true rfl) (by exact Nat.le_of_ble_eq_true rfl) dX10_herd_55
          · have ic_5 := gz_nlt (by decide : (100 : Int32).toInt = 100) (rfl : z.toInt = z.toInt) c_5
            refine lv_iload hx hb dX10_herd_32 (lv_at hl 4 rfl) ?_
            refine lv_iconst (v := 1) hx hb dX10_herd_34 (by decide) ?_
            refine lv_icmp_lt (tgt := 54) hx hb dX10_herd_35 (by decide) (fun c_6 => ?_) (fun c_6 => ?_)
            · have ic_6 := gz_lt (rfl : v.toInt = v.toInt) (by decide : (1 : Int32).toInt = 1) c_6
              refine lv_iconst (v := 0) hx hb dX10_herd_54 (by decide) ?_
              exact gz_iret (p := p) (l := l) (e := e) (s := s) (m := m) (below := below) (meth := meth) (c := c) (H := H) (cells := 0) (slots := 0) (mc := 0) (ms := 0) (cf := (fun (u : Unit) => [])) (post := (fun (r : Int32) (u : Unit) => r = 0)) hx hb hr hlocks hK hP hD hS () [] (by decide) rfl (by decide) rfl (by exact Nat.le_of_ble_eq_true rfl) (by exact Nat.le_of_ble_eq_true rfl) dX10_herd_55
            · have ic_6 := gz_nlt (rfl : v.toInt = v.toInt) (by decide : (1 : Int32).toInt = 1) c_6
              refine lv_iload hx hb dX10_herd_38 (lv_at hl 4 rfl) ?_
              refine lv_bipush (v := 9) hx hb dX10_herd_40 (by decide) ?_
              refine lv_icmp_gt (tgt := 54) hx hb dX10_herd_42 (by decide) (fun c_7 => ?_) (fun c_7 => ?_)
              · have ic_7 := gz_lt (by decide : (9 : Int32).toInt = 9) (rfl : v.toInt = v.toInt) c_7
                refine lv_iconst (v := 0) hx hb dX10_herd_54 (by decide) ?_
                exact gz_iret (p := p) (l := l) (e := e) (s := s) (m := m) (below := below) (meth := meth) (c := c) (H := H) (cells := 0) (slots := 0) (mc := 0) (ms := 0) (cf := (fun (u : Unit) => [])) (post := (fun (r : Int32) (u : Unit) => r = 0)) hx hb hr hlocks hK hP hD hS () [] (by decide) rfl (by decide) rfl (by exact Nat.le_of_ble_eq_true rfl) (by exact Nat.le_of_ble_eq_true rfl) dX10_herd_55
              · have ic_7 := gz_nlt (by decide : (9 : Int32).toInt = 9) (rfl : v.toInt = v.toInt) c_7
                refine lv_aload_n hx hb dX10_herd_45 rfl (lv_at hl 0 rfl) ?_
                refine lv_iload hx hb dX10_herd_46 (lv_at hl 5 rfl) ?_
                refine gz_afti (va_runV (As := [.int t]) (rest := []) ⟨hx, hb, hml, hown, hts⟩ (m_hasWell l G cy H.size h0 w0 w1 w2 w3 w4 w5 w6 w7 w8 w9 w10 w11 w12 w13 w14 w15 w16 w17 w18 w19 w20 w21 w22 w23 w24 w25 w26 w27 w28 w29 w30 w31 w32 w33 w34 w35 w36 w37 t t.toInt rfl) ⟨(gz_cb (n := 1) hts gm_1201 gm_12 gm_1204 ⟨by decide +kernel, by decide +kernel, by decide +kernel⟩ ⟨Nat.le_of_ble_eq_true rfl, Nat.le_of_ble_eq_true rfl⟩), hts _ gm_1203, hts _ gs_50⟩ (gz_preV (ci := 10) (q0 := 0) hK hov hP hD [0, 1] (by decide) rfl rfl rfl) rfl rfl hl.1 rfl (lv_room (Nat.le_of_ble_eq_true rfl)) dX10_herd_48 ⟨Nat.le_of_ble_eq_true rfl, Nat.le_of_ble_eq_true rfl⟩) hP hD hS hA [0, 1] [] rfl rfl (by decide) (by decide) (fun r_8 u_8 H locs hw_8 hP hD hS => ?_)
                have hP : va_P G vwCl [(h0, .inr (10, [.int 0, .ref w0, .ref w1, .ref w2, .ref w3, .ref w4, .ref w5, .int 0, .ref w6, .int 0, .int 0, .int 0, .int 0, .int 0, .int 0, .int 0, .int 0, .long 0, .int 0, .int 0, .ref w7, .ref w8, .ref w9, .ref w10, .ref w11, .ref w12, .ref w13, .ref w14, .int 0, .int 0, .int 0, .ref w15, .ref w16, .ref w17, .ref w18, .ref w19, .ref w20, .int 0, .ref w21, .ref w22, .ref w23, .ref w24, .ref w25, .ref w26, .ref w27, .ref w28, .ref w29, .ref w30, .ref w31, .ref w32, .ref w33, .ref w34, .ref w35, .ref w36, .ref w37, .int (-1), .int 0, .int 0, .int 0])), (w0, .inl (cy 2, 6, .inl (fun _ => 0)))] H := hP
                have hD : va_D A [(h0, .inr (10, [.int 0, .ref w0, .ref w1, .ref w2, .ref w3, .ref w4, .ref w5, .int 0, .ref w6, .int 0, .int 0, .int 0, .int 0, .int 0, .int 0, .int 0, .int 0, .long 0, .int 0, .int 0, .ref w7, .ref w8, .ref w9, .ref w10, .ref w11, .ref w12, .ref w13, .ref w14, .int 0, .int 0, .int 0, .ref w15, .ref w16, .ref w17, .ref w18, .ref w19, .ref w20, .int 0, .ref w21, .ref w22, .ref w23, .ref w24, .ref w25, .ref w26, .ref w27, .ref w28, .ref w29, .ref w30, .ref w31, .ref w32, .ref w33, .ref w34, .ref w35, .ref w36, .ref w37, .int (-1), .int 0, .int 0, .int 0])), (w0, .inl (cy 2, 6, .inl (fun _ => 0)))] := hD
                obtain rfl := hw_8
                refine lv_if_ne (tgt := 56) hx hb dX10_herd_51 (by decide) (fun h9 => absurd (by decide) h9) (fun _ => ?_)
                refine lv_iconst (v := 0) hx hb dX10_herd_54 (by decide) ?_
                exact gz_iret (p := p) (l := l) (e := e) (s := s) (m := m) (below := below) (meth := meth) (c := c) (H := H) (cells := 0) (slots := 0) (mc := 0) (ms := 0) (cf := (fun (u : Unit) => [])) (post := (fun (r : Int32) (u : Unit) => r = 0)) hx hb hr hlocks hK hP hD hS () [] (by decide) rfl (by decide) rfl (by exact Nat.le_of_ble_eq_true rfl) (by exact Nat.le_of_ble_eq_true rfl) dX10_herd_55
      · skip
        refine lv_if_eq (tgt := 54) hx hb dX10_herd_18 (by decide) (fun _ => ?_) (fun h9 => absurd (by decide) h9)
        refine lv_iconst (v := 0) hx hb dX10_herd_54 (by decide) ?_
        exact gz_iret (p := p) (l := l) (e := e) (s := s) (m := m) (below := below) (meth := meth) (c := c) (H := H) (cells := 0) (slots := 0) (mc := 0) (ms := 0) (cf := (fun (u : Unit) => [])) (post := (fun (r : Int32) (u : Unit) => r = 0)) hx hb hr hlocks hK hP hD hS () [] (by decide) rfl (by decide) rfl (by exact Nat.le_of_ble_eq_true rfl) (by exact Nat.le_of_ble_eq_true rfl) dX10_herd_55

set_option maxHeartbeats 4000000 in
set_option maxRecDepth 100000 in
/-- WellCourtModel.drop -/
theorem m_drop (l : Launch) (G : va_G) (cy : Nat → ClassId) (sz : Nat) (h0 : Nat) (w0 : Nat) (w1 : Nat) (w2 : Nat) (w3 : Nat) (w4 : Nat) (w5 : Nat) (w6 : Nat) (w7 : Nat) (w8 : Nat) (w9 : Nat) (w10 : Nat) (w11 : Nat) (w12 : Nat) (w13 : Nat) (w14 : Nat) (w15 : Nat) (w16 : Nat) (w17 : Nat) (w18 : Nat) (w19 : Nat) (w20 : Nat) (w21 : Nat) (w22 : Nat) (w23 : Nat) (w24 : Nat) (w25 : Nat) (w26 : Nat) (w27 : Nat) (w28 : Nat) (w29 : Nat) (w30 : Nat) (w31 : Nat) (w32 : Nat) (w33 : Nat) (w34 : Nat) (w35 : Nat) (w36 : Nat) (w37 : Nat) (x : Int32) (Xx : Int) (kx : x.toInt = Xx)  : gMi l yX10_drop cX10_drop 2 (some .boolean) ({ frames := 0, cells := 0, slots := 0, locals := 0 }) G cy sz [.ref h0, .int x] [(h0, .inr (10, [.int 0, .ref w0, .ref w1, .ref w2, .ref w3, .ref w4, .ref w5, .int 0, .ref w6, .int 0, .int 0, .int 0, .int 0, .int 0, .int 0, .int 0, .int 0, .long 0, .int 0, .int 0, .ref w7, .ref w8, .ref w9, .ref w10, .ref w11, .ref w12, .ref w13, .ref w14, .int 0, .int 0, .int 0, .ref w15, .ref w16, .ref w17, .ref w18, .ref w19, .ref w20, .int 0, .ref w21, .ref w22, .ref w23, .ref w24, .ref w25, .ref w26, .ref w27, .ref w28, .ref w29, .ref w30, .ref w31, .ref w32, .ref w33, .ref w34, .ref w35, .ref w36, .ref w37, .int (-1), .int 0, .int 0, .int 0])), (w21, .inl (cy 2, 4, .inl (fun _ => 0)))] (fun (r : Int32) (u : Unit) => r = 0) (fun (u : Unit) => []) := by
  refine gz_start (fun A => gQi G cy _ _ A) (by decide) (Nat.le_of_ble_eq_true rfl) ?_
  intro p e s m below meth c A ls H hx hb hr hml hlocks hin hown hts hK hov hsz hP hD hS hA hl
  have hl : lv_has ls 2 [(0, .ref h0), (1, .int x)] := hl
  refine lv_aload_n hx hb dX10_drop_0 rfl (lv_at hl 0 rfl) ?_
  refine lv_iconst (v := 0) hx hb dX10_drop_1 (by decide) ?_
  refine va_put (ci := 10) (v := .int 0) (ty := .int) (C := RX10) (T := TX10) (N := 59) hx hb hts inX10 tyX10 tyX10_ok nmX10 hown hK hP hD hS 0 rfl rfl 0 (by decide) (hts _ gm_901) (fun _ h9 => h9) rfl (by decide +kernel) rfl rfl (Nat.le_of_ble_eq_true rfl) dX10_drop_2 (fun H locs hP hD hS => ?_)
  have hP : va_P G vwCl [(h0, .inr (10, [.int 0, .ref w0, .ref w1, .ref w2, .ref w3, .ref w4, .ref w5, .int 0, .ref w6, .int 0, .int 0, .int 0, .int 0, .int 0, .int 0, .int 0, .int 0, .long 0, .int 0, .int 0, .ref w7, .ref w8, .ref w9, .ref w10, .ref w11, .ref w12, .ref w13, .ref w14, .int 0, .int 0, .int 0, .ref w15, .ref w16, .ref w17, .ref w18, .ref w19, .ref w20, .int 0, .ref w21, .ref w22, .ref w23, .ref w24, .ref w25, .ref w26, .ref w27, .ref w28, .ref w29, .ref w30, .ref w31, .ref w32, .ref w33, .ref w34, .ref w35, .ref w36, .ref w37, .int (-1), .int 0, .int 0, .int 0])), (w21, .inl (cy 2, 4, .inl (fun _ => 0)))] H := hP
  have hD : va_D A [(h0, .inr (10, [.int 0, .ref w0, .ref w1, .ref w2, .ref w3, .ref w4, .ref w5, .int 0, .ref w6, .int 0, .int 0, .int 0, .int 0, .int 0, .int 0, .int 0, .int 0, .long 0, .int 0, .int 0, .ref w7, .ref w8, .ref w9, .ref w10, .ref w11, .ref w12, .ref w13, .ref w14, .int 0, .int 0, .int 0, .ref w15, .ref w16, .ref w17, .ref w18, .ref w19, .ref w20, .int 0, .ref w21, .ref w22, .ref w23, .ref w24, .ref w25, .ref w26, .ref w27, .ref w28, .ref w29, .ref w30, .ref w31, .ref w32, .ref w33, .ref w34, .ref w35, .ref w36, .ref w37, .int (-1), .int 0, .int 0, .int 0])), (w21, .inl (cy 2, 4, .inl (fun _ => 0)))] := hD
  refine lv_iload_n hx hb dX10_drop_5 rfl (lv_at hl 1 rfl) ?_
  refine lv_if_lt (tgt := 23) hx hb dX10_drop_6 (by decide) (fun c_1 => ?_) (fun c_1 => ?_)
  · have ic_1 := gz_lt (rfl : x.toInt = x.toInt) (by decide : (0 : Int32).toInt = 0) c_1
    refine lv_iconst (v := 0) hx hb dX10_drop_23 (by decide) ?_
    exact gz_iret (p := p) (l := l) (e := e) (s := s) (m := m) (below := below) (meth := meth) (c := c) (H := H) (cells := 0) (slots := 0) (mc := 0) (ms := 0) (cf := (fun (u : Unit) => [])) (post := (fun (r : Int32) (u : Unit) => r = 0)) hx hb hr hlocks hK hP hD hS () [] (by decide) rfl (by decide) rfl (by exact Nat.le_of_ble_eq_true rfl) (by exact Nat.le_of_ble_eq_true rfl) dX10_drop_24
  · have ic_1 := gz_nlt (rfl : x.toInt = x.toInt) (by decide : (0 : Int32).toInt = 0) c_1
    refine lv_iload_n hx hb dX10_drop_9 rfl (lv_at hl 1 rfl) ?_
    refine lv_iconst (v := 4) hx hb dX10_drop_10 (by decide) ?_
    refine lv_icmp_ge (tgt := 23) hx hb dX10_drop_11 (by decide) (fun c_2 => ?_) (fun c_2 => ?_)
    · have ic_2 := gz_le (by decide : (4 : Int32).toInt = 4) (rfl : x.toInt = x.toInt) c_2
      refine lv_iconst (v := 0) hx hb dX10_drop_23 (by decide) ?_
      exact gz_iret (p := p) (l := l) (e := e) (s := s) (m := m) (below := below) (meth := meth) (c := c) (H := H) (cells := 0) (slots := 0) (mc := 0) (ms := 0) (cf := (fun (u : Unit) => [])) (post := (fun (r : Int32) (u : Unit) => r = 0)) hx hb hr hlocks hK hP hD hS () [] (by decide) rfl (by decide) rfl (by exact Nat.le_of_ble_eq_true rfl) (by exact Nat.le_of_ble_eq_true rfl) dX10_drop_24
    · have ic_2 := gz_nle (by decide : (4 : Int32).toInt = 4) (rfl : x.toInt = x.toInt) c_2
      refine lv_aload_n hx hb dX10_drop_14 rfl (lv_at hl 0 rfl) ?_
      refine va_get (ci := 10) (v := .ref w21) (C := RX10) (T := TX10) (N := 59) hx hb hts inX10 hown hK hP 0 rfl rfl 38 (by decide) (hts _ gm_939) (fun _ h9 => h9) rfl dX10_drop_15 ?_
      refine lv_iload_n hx hb dX10_drop_18 rfl (lv_at hl 1 rfl) ?_
      refine va_zald hx hb hK hP 1 2 rfl rfl (vp_in_iff.mpr ⟨by omega, by omega⟩) dX10_drop_19 ?_
      refine lv_topi (fun x_3 ex_3 => ?_)
      obtain rfl : x_3 = (0 : Int32) := ex_3
      refine lv_if_ne (tgt := 25) hx hb dX10_drop_20 (by decide) (fun h9 => absurd (by decide) h9) (fun _ => ?_)
      refine lv_iconst (v := 0) hx hb dX10_drop_23 (by decide) ?_
      exact gz_iret (p := p) (l := l) (e := e) (s := s) (m := m) (below := below) (meth := meth) (c := c) (H := H) (cells := 0) (slots := 0) (mc := 0) (ms := 0) (cf := (fun (u : Unit) => [])) (post := (fun (r : Int32) (u : Unit) => r = 0)) hx hb hr hlocks hK hP hD hS () [] (by decide) rfl (by decide) rfl (by exact Nat.le_of_ble_eq_true rfl) (by exact Nat.le_of_ble_eq_true rfl) dX10_drop_24

set_option maxHeartbeats 4000000 in
set_option maxRecDepth 100000 in
/-- WellCourtModel.way -/
theorem m_way (l : Launch) (G : va_G) (cy : Nat → ClassId) (sz : Nat) (h0 : Nat) (w0 : Nat) (w1 : Nat) (w2 : Nat) (w3 : Nat) (w4 : Nat) (w5 : Nat) (w6 : Nat) (w7 : Nat) (w8 : Nat) (w9 : Nat) (w10 : Nat) (w11 : Nat) (w12 : Nat) (w13 : Nat) (w14 : Nat) (w15 : Nat) (w16 : Nat) (w17 : Nat) (w18 : Nat) (w19 : Nat) (w20 : Nat) (w21 : Nat) (w22 : Nat) (w23 : Nat) (w24 : Nat) (w25 : Nat) (w26 : Nat) (w27 : Nat) (w28 : Nat) (w29 : Nat) (w30 : Nat) (w31 : Nat) (w32 : Nat) (w33 : Nat) (w34 : Nat) (w35 : Nat) (w36 : Nat) (w37 : Nat) (x : Int32) (y : Int32) (z : Int32) (Xx : Int) (Xy : Int) (Xz : Int) (kx : x.toInt = Xx) (ky : y.toInt = Xy) (kz : z.toInt = Xz)  : gMi l yX10_way cX10_way 4 (some .boolean) ({ frames := 0, cells := 0, slots := 0, locals := 0 }) G cy sz [.ref h0, .int x, .int y, .int z] [(h0, .inr (10, [.int 0, .ref w0, .ref w1, .ref w2, .ref w3, .ref w4, .ref w5, .int 0, .ref w6, .int 0, .int 0, .int 0, .int 0, .int 0, .int 0, .int 0, .int 0, .long 0, .int 0, .int 0, .ref w7, .ref w8, .ref w9, .ref w10, .ref w11, .ref w12, .ref w13, .ref w14, .int 0, .int 0, .int 0, .ref w15, .ref w16, .ref w17, .ref w18, .ref w19, .ref w20, .int 0, .ref w21, .ref w22, .ref w23, .ref w24, .ref w25, .ref w26, .ref w27, .ref w28, .ref w29, .ref w30, .ref w31, .ref w32, .ref w33, .ref w34, .ref w35, .ref w36, .ref w37, .int (-1), .int 0, .int 0, .int 0])), (w27, .inl (cy 0, 36, .inl (fun _ => 0)))] (fun (r : Int32) (u : Unit) => (r = 1 ∧ (0 ≤ Xx ∧ Xx < 6 ∧ 0 ≤ Xy ∧ Xy < 6 ∧ ¬ Xx = Xy ∧ 0 ≤ Xz ∧ Xz ≤ 9)) ∨ (r = 0 ∧ (¬ (0 ≤ Xx ∧ Xx < 6 ∧ 0 ≤ Xy ∧ Xy < 6 ∧ ¬ Xx = Xy ∧ 0 ≤ Xz ∧ Xz ≤ 9)))) (fun (u : Unit) => []) := by
  refine gz_start (fun A => gQi G cy _ _ A) (by decide) (Nat.le_of_ble_eq_true rfl) ?_
  intro p e s m below meth c A ls H hx hb hr hml hlocks hin hown hts hK hov hsz hP hD hS hA hl
  have hl : lv_has ls 4 [(0, .ref h0), (1, .int x), (2, .int y), (3, .int z)] := hl
  refine lv_aload_n hx hb dX10_way_0 rfl (lv_at hl 0 rfl) ?_
  refine lv_iconst (v := 0) hx hb dX10_way_1 (by decide) ?_
  refine va_put (ci := 10) (v := .int 0) (ty := .int) (C := RX10) (T := TX10) (N := 59) hx hb hts inX10 tyX10 tyX10_ok nmX10 hown hK hP hD hS 0 rfl rfl 0 (by decide) (hts _ gm_901) (fun _ h9 => h9) rfl (by decide +kernel) rfl rfl (Nat.le_of_ble_eq_true rfl) dX10_way_2 (fun H locs hP hD hS => ?_)
  have hP : va_P G vwCl [(h0, .inr (10, [.int 0, .ref w0, .ref w1, .ref w2, .ref w3, .ref w4, .ref w5, .int 0, .ref w6, .int 0, .int 0, .int 0, .int 0, .int 0, .int 0, .int 0, .int 0, .long 0, .int 0, .int 0, .ref w7, .ref w8, .ref w9, .ref w10, .ref w11, .ref w12, .ref w13, .ref w14, .int 0, .int 0, .int 0, .ref w15, .ref w16, .ref w17, .ref w18, .ref w19, .ref w20, .int 0, .ref w21, .ref w22, .ref w23, .ref w24, .ref w25, .ref w26, .ref w27, .ref w28, .ref w29, .ref w30, .ref w31, .ref w32, .ref w33, .ref w34, .ref w35, .ref w36, .ref w37, .int (-1), .int 0, .int 0, .int 0])), (w27, .inl (cy 0, 36, .inl (fun _ => 0)))] H := hP
  have hD : va_D A [(h0, .inr (10, [.int 0, .ref w0, .ref w1, .ref w2, .ref w3, .ref w4, .ref w5, .int 0, .ref w6, .int 0, .int 0, .int 0, .int 0, .int 0, .int 0, .int 0, .int 0, .long 0, .int 0, .int 0, .ref w7, .ref w8, .ref w9, .ref w10, .ref w11, .ref w12, .ref w13, .ref w14, .int 0, .int 0, .int 0, .ref w15, .ref w16, .ref w17, .ref w18, .ref w19, .ref w20, .int 0, .ref w21, .ref w22, .ref w23, .ref w24, .ref w25, .ref w26, .ref w27, .ref w28, .ref w29, .ref w30, .ref w31, .ref w32, .ref w33, .ref w34, .ref w35, .ref w36, .ref w37, .int (-1), .int 0, .int 0, .int 0])), (w27, .inl (cy 0, 36, .inl (fun _ => 0)))] := hD
  refine lv_iload_n hx hb dX10_way_5 rfl (lv_at hl 1 rfl) ?_
  refine lv_if_lt (tgt := 40) hx hb dX10_way_6 (by decide) (fun c_1 => ?_) (fun c_1 => ?_)
  · have ic_1 := gz_lt (rfl : x.toInt = x.toInt) (by decide : (0 : Int32).toInt = 0) c_1
    refine lv_iconst (v := 0) hx hb dX10_way_40 (by decide) ?_
    exact gz_iret (p := p) (l := l) (e := e) (s := s) (m := m) (below := below) (meth := meth) (c := c) (H := H) (cells := 0) (slots := 0) (mc := 0) (ms := 0) (cf := (fun (u : Unit) => [])) (post := (fun (r : Int32) (u : Unit) => (r = 1 ∧ (0 ≤ Xx ∧ Xx < 6 ∧ 0 ≤ Xy ∧ Xy < 6 ∧ ¬ Xx = Xy ∧ 0 ≤ Xz ∧ Xz ≤ 9)) ∨ (r = 0 ∧ (¬ (0 ≤ Xx ∧ Xx < 6 ∧ 0 ≤ Xy ∧ Xy < 6 ∧ ¬ Xx = Xy ∧ 0 ≤ Xz ∧ Xz ≤ 9))))) hx hb hr hlocks hK hP hD hS () [] (by decide) (Or.inr (⟨rfl, by omega⟩)) (by decide) rfl (by exact Nat.le_of_ble_eq_true rfl) (by exact Nat.le_of_ble_eq_true rfl) dX10_way_41
  · have ic_1 := gz_nlt (rfl : x.toInt = x.toInt) (by decide : (0 : Int32).toInt = 0) c_1
    refine lv_iload_n hx hb dX10_way_9 rfl (lv_at hl 1 rfl) ?_
    refine lv_bipush (v := 6) hx hb dX10_way_10 (by decide) ?_
    refine lv_icmp_ge (tgt := 40) hx hb dX10_way_12 (by decide) (fun c_2 => ?_) (fun c_2 => ?_)
    · have ic_2 := gz_le (by decide : (6 : Int32).toInt = 6) (rfl : x.toInt = x.toInt) c_2
      refine lv_iconst (v := 0) hx hb dX10_way_40 (by decide) ?_
      exact gz_iret (p := p) (l := l) (e := e) (s := s) (m := m) (below := below) (meth := meth) (c := c) (H := H) (cells := 0) (slots := 0) (mc := 0) (ms := 0) (cf := (fun (u : Unit) => [])) (post := (fun (r : Int32) (u : Unit) => (r = 1 ∧ (0 ≤ Xx ∧ Xx < 6 ∧ 0 ≤ Xy ∧ Xy < 6 ∧ ¬ Xx = Xy ∧ 0 ≤ Xz ∧ Xz ≤ 9)) ∨ (r = 0 ∧ (¬ (0 ≤ Xx ∧ Xx < 6 ∧ 0 ≤ Xy ∧ Xy < 6 ∧ ¬ Xx = Xy ∧ 0 ≤ Xz ∧ Xz ≤ 9))))) hx hb hr hlocks hK hP hD hS () [] (by decide) (Or.inr (⟨rfl, by omega⟩)) (by decide) rfl (by exact Nat.le_of_ble_eq_true rfl) (by exact Nat.le_of_ble_eq_true rfl) dX10_way_41
    · have ic_2 := gz_nle (by decide : (6 : Int32).toInt = 6) (rfl : x.toInt = x.toInt) c_2
      refine lv_iload_n hx hb dX10_way_15 rfl (lv_at hl 2 rfl) ?_
      refine lv_if_lt (tgt := 40) hx hb dX10_way_16 (by decide) (fun c_3 => ?_) (fun c_3 => ?_)
      · have ic_3 := gz_lt (rfl : y.toInt = y.toInt) (by decide : (0 : Int32).toInt = 0) c_3
        refine lv_iconst (v := 0) hx hb dX10_way_40 (by decide) ?_
        exact gz_iret (p := p) (l := l) (e := e) (s := s) (m := m) (below := below) (meth := meth) (c := c) (H := H) (cells := 0) (slots := 0) (mc := 0) (ms := 0) (cf := (fun (u : Unit) => [])) (post := (fun (r : Int32) (u : Unit) => (r = 1 ∧ (0 ≤ Xx ∧ Xx < 6 ∧ 0 ≤ Xy ∧ Xy < 6 ∧ ¬ Xx = Xy ∧ 0 ≤ Xz ∧ Xz ≤ 9)) ∨ (r = 0 ∧ (¬ (0 ≤ Xx ∧ Xx < 6 ∧ 0 ≤ Xy ∧ Xy < 6 ∧ ¬ Xx = Xy ∧ 0 ≤ Xz ∧ Xz ≤ 9))))) hx hb hr hlocks hK hP hD hS () [] (by decide) (Or.inr (⟨rfl, by omega⟩)) (by decide) rfl (by exact Nat.le_of_ble_eq_true rfl) (by exact Nat.le_of_ble_eq_true rfl) dX10_way_41
      · have ic_3 := gz_nlt (rfl : y.toInt = y.toInt) (by decide : (0 : Int32).toInt = 0) c_3
        refine lv_iload_n hx hb dX10_way_19 rfl (lv_at hl 2 rfl) ?_
        refine lv_bipush (v := 6) hx hb dX10_way_20 (by decide) ?_
        refine lv_icmp_ge (tgt := 40) hx hb dX10_way_22 (by decide) (fun c_4 => ?_) (fun c_4 => ?_)
        · have ic_4 := gz_le (by decide : (6 : Int32).toInt = 6) (rfl : y.toInt = y.toInt) c_4
          refine lv_iconst (v := 0) hx hb dX10_way_40 (by decide) ?_
          exact gz_iret (p := p) (l := l) (e := e) (s := s) (m := m) (below := below) (meth := meth) (c := c) (H := H) (cells := 0) (slots := 0) (mc := 0) (ms := 0) (cf := (fun (u : Unit) => [])) (post := (fun (r : Int32) (u : Unit) => (r = 1 ∧ (0 ≤ Xx ∧ Xx < 6 ∧ 0 ≤ Xy ∧ Xy < 6 ∧ ¬ Xx = Xy ∧ 0 ≤ Xz ∧ Xz ≤ 9)) ∨ (r = 0 ∧ (¬ (0 ≤ Xx ∧ Xx < 6 ∧ 0 ≤ Xy ∧ Xy < 6 ∧ ¬ Xx = Xy ∧ 0 ≤ Xz ∧ Xz ≤ 9))))) hx hb hr hlocks hK hP hD hS () [] (by decide) (Or.inr (⟨rfl, by omega⟩)) (by decide) rfl (by exact Nat.le_of_ble_eq_true rfl) (by exact Nat.le_of_ble_eq_true rfl) dX10_way_41
        · have ic_4 := gz_nle (by decide : (6 : Int32).toInt = 6) (rfl : y.toInt = y.toInt) c_4
          refine lv_iload_n hx hb dX10_way_25 rfl (lv_at hl 1 rfl) ?_
          refine lv_iload_n hx hb dX10_way_26 rfl (lv_at hl 2 rfl) ?_
          refine lv_icmp_eq (tgt := 40) hx hb dX10_way_27 (by decide) (fun c_5 => ?_) (fun c_5 => ?_)
          · have ic_5 := gz_eq (rfl : x.toInt = x.toInt) (rfl : y.toInt = y.toInt) c_5
            refine lv_iconst (v := 0) hx hb dX10_way_40 (by decide) ?_
            exact gz_iret (p := p) (l := l) (e := e) (s := s) (m := m) (below := below) (meth := meth) (c := c) (H := H) (cells := 0) (slots := 0) (mc := 0) (ms := 0) (cf := (fun (u : Unit) => [])) (post := (fun (r : Int32) (u : Unit) => (r = 1 ∧ (0 ≤ Xx ∧ Xx < 6 ∧ 0 ≤ Xy ∧ Xy < 6 ∧ ¬ Xx = Xy ∧ 0 ≤ Xz ∧ Xz ≤ 9)) ∨ (r = 0 ∧ (¬ (0 ≤ Xx ∧ Xx < 6 ∧ 0 ≤ Xy ∧ Xy < 6 ∧ ¬ Xx = Xy ∧ 0 ≤ Xz ∧ Xz ≤ 9))))) hx hb hr hlocks hK hP hD hS () [] (by decide) (Or.inr (⟨rfl, by omega⟩)) (by decide) rfl (by exact Nat.le_of_ble_eq_true rfl) (by exact Nat.le_of_ble_eq_true rfl) dX10_way_41
          · have ic_5 := gz_ne (rfl : x.toInt = x.toInt) (rfl : y.toInt = y.toInt) c_5
            refine lv_iload_n hx hb dX10_way_30 rfl (lv_at hl 3 rfl) ?_
            refine lv_if_lt (tgt := 40) hx hb dX10_way_31 (by decide) (fun c_6 => ?_) (fun c_6 => ?_)
            · have ic_6 := gz_lt (rfl : z.toInt = z.toInt) (by decide : (0 : Int32).toInt = 0) c_6
              refine lv_iconst (v := 0) hx hb dX10_way_40 (by decide) ?_
              exact gz_iret (p := p) (l := l) (e := e) (s := s) (m := m) (below := below) (meth := meth) (c := c) (H := H) (cells := 0) (slots := 0) (mc := 0) (ms := 0) (cf := (fun (u : Unit) => [])) (post := (fun (r : Int32) (u : Unit) => (r = 1 ∧ (0 ≤ Xx ∧ Xx < 6 ∧ 0 ≤ Xy ∧ Xy < 6 ∧ ¬ Xx = Xy ∧ 0 ≤ Xz ∧ Xz ≤ 9)) ∨ (r = 0 ∧ (¬ (0 ≤ Xx ∧ Xx < 6 ∧ 0 ≤ Xy ∧ Xy < 6 ∧ ¬ Xx = Xy ∧ 0 ≤ Xz ∧ Xz ≤ 9))))) hx hb hr hlocks hK hP hD hS () [] (by decide) (Or.inr (⟨rfl, by omega⟩)) (by decide) rfl (by exact Nat.le_of_ble_eq_true rfl) (by exact Nat.le_of_ble_eq_true rfl) dX10_way_41
            · have ic_6 := gz_nlt (rfl : z.toInt = z.toInt) (by decide : (0 : Int32).toInt = 0) c_6
              refine lv_iload_n hx hb dX10_way_34 rfl (lv_at hl 3 rfl) ?_
              refine lv_bipush (v := 9) hx hb dX10_way_35 (by decide) ?_
              refine lv_icmp_le (tgt := 42) hx hb dX10_way_37 (by decide) (fun c_7 => ?_) (fun c_7 => ?_)
              · have ic_7 := gz_le (rfl : z.toInt = z.toInt) (by decide : (9 : Int32).toInt = 9) c_7
                refine lv_aload_n hx hb dX10_way_42 rfl (lv_at hl 0 rfl) ?_
                refine va_get (ci := 10) (v := .ref w27) (C := RX10) (T := TX10) (N := 59) hx hb hts inX10 hown hK hP 0 rfl rfl 44 (by decide) (hts _ gm_945) (fun _ h9 => h9) rfl dX10_way_43 ?_
                refine lv_bipush (v := 6) hx hb dX10_way_46 (by decide) ?_
                refine lv_iload_n hx hb dX10_way_48 rfl (lv_at hl 1 rfl) ?_
                rcases gz_six (w := x) (by omega) (by omega) with rfl | rfl | rfl | rfl | rfl | rfl
                · skip
                  refine lv_imul hx hb dX10_way_49 ?_
                  refine lv_topi (fun x_8 ex_8 => ?_)
                  obtain rfl : x_8 = (0 : Int32) := ex_8.trans (by decide)
                  refine lv_iload_n hx hb dX10_way_50 rfl (lv_at hl 2 rfl) ?_
                  rcases gz_six (w := y) (by omega) (by omega) with rfl | rfl | rfl | rfl | rfl | rfl
                  · skip
                    refine lv_iadd hx hb dX10_way_51 ?_
                    refine lv_topi (fun x_9 ex_9 => ?_)
                    obtain rfl : x_9 = (0 : Int32) := ex_9.trans (by decide)
                    refine lv_iload_n hx hb dX10_way_52 rfl (lv_at hl 3 rfl) ?_
                    refine va_iast hx hb hK hP hD hS 1 0 rfl rfl (vp_in_iff.mpr (by decide)) dX10_way_53 (fun H locs hP hD hS => ?_)
                    obtain ⟨f_10, ef_10⟩ : ∃ g : Nat → Int32, g = upd (fun _ => 0) (0 : Int32).toNatClampNeg z := ⟨_, rfl⟩
                    have hP : va_P G vwCl [(h0, .inr (10, [.int 0, .ref w0, .ref w1, .ref w2, .ref w3, .ref w4, .ref w5, .int 0, .ref w6, .int 0, .int 0, .int 0, .int 0, .int 0, .int 0, .int 0, .int 0, .long 0, .int 0, .int 0, .ref w7, .ref w8, .ref w9, .ref w10, .ref w11, .ref w12, .ref w13, .ref w14, .int 0, .int 0, .int 0, .ref w15, .ref w16, .ref w17, .ref w18, .ref w19, .ref w20, .int 0, .ref w21, .ref w22, .ref w23, .ref w24, .ref w25, .ref w26, .ref w27, .ref w28, .ref w29, .ref w30, .ref w31, .ref w32, .ref w33, .ref w34, .ref w35, .ref w36, .ref w37, .int (-1), .int 0, .int 0, .int 0])), (w27, .inl (cy 0, 36, .inl f_10))] H := ef_10 ▸ hP
                    have hD : va_D A [(h0, .inr (10, [.int 0, .ref w0, .ref w1, .ref w2, .ref w3, .ref w4, .ref w5, .int 0, .ref w6, .int 0, .int 0, .int 0, .int 0, .int 0, .int 0, .int 0, .int 0, .long 0, .int 0, .int 0, .ref w7, .ref w8, .ref w9, .ref w10, .ref w11, .ref w12, .ref w13, .ref w14, .int 0, .int 0, .int 0, .ref w15, .ref w16, .ref w17, .ref w18, .ref w19, .ref w20, .int 0, .ref w21, .ref w22, .ref w23, .ref w24, .ref w25, .ref w26, .ref w27, .ref w28, .ref w29, .ref w30, .ref w31, .ref w32, .ref w33, .ref w34, .ref w35, .ref w36, .ref w37, .int (-1), .int 0, .int 0, .int 0])), (w27, .inl (cy 0, 36, .inl f_10))] := ef_10 ▸ hD
                    refine lv_iconst (v := 1) hx hb dX10_way_54 (by decide) ?_
                    exact gz_iret (p := p) (l := l) (e := e) (s := s) (m := m) (below := below) (meth := meth) (c := c) (H := H) (cells := 0) (slots := 0) (mc := 0) (ms := 0) (cf := (fun (u : Unit) => [])) (post := (fun (r : Int32) (u : Unit) => (r = 1 ∧ (0 ≤ Xx ∧ Xx < 6 ∧ 0 ≤ Xy ∧ Xy < 6 ∧ ¬ Xx = Xy ∧ 0 ≤ Xz ∧ Xz ≤ 9)) ∨ (r = 0 ∧ (¬ (0 ≤ Xx ∧ Xx < 6 ∧ 0 ≤ Xy ∧ Xy < 6 ∧ ¬ Xx = Xy ∧ 0 ≤ Xz ∧ Xz ≤ 9))))) hx hb hr hlocks hK hP hD hS () [] (by decide) (Or.inl (⟨rfl, by omega⟩)) (by decide) rfl (by exact Nat.le_of_ble_eq_true rfl) (by exact Nat.le_of_ble_eq_true rfl) dX10_way_55
                  · skip
                    refine lv_iadd hx hb dX10_way_51 ?_
                    refine lv_topi (fun x_11 ex_11 => ?_)
                    obtain rfl : x_11 = (1 : Int32) := ex_11.trans (by decide)
                    refine lv_iload_n hx hb dX10_way_52 rfl (lv_at hl 3 rfl) ?_
                    refine va_iast hx hb hK hP hD hS 1 0 rfl rfl (vp_in_iff.mpr (by decide)) dX10_way_53 (fun H locs hP hD hS => ?_)
                    obtain ⟨f_12, ef_12⟩ : ∃ g : Nat → Int32, g = upd (fun _ => 0) (1 : Int32).toNatClampNeg z := ⟨_, rfl⟩
                    have hP : va_P G vwCl [(h0, .inr (10, [.int 0, .ref w0, .ref w1, .ref w2, .ref w3, .ref w4, .ref w5, .int 0, .ref w6, .int 0, .int 0, .int 0, .int 0, .int 0, .int 0, .int 0, .int 0, .long 0, .int 0, .int 0, .ref w7, .ref w8, .ref w9, .ref w10, .ref w11, .ref w12, .ref w13, .ref w14, .int 0, .int 0, .int 0, .ref w15, .ref w16, .ref w17, .ref w18, .ref w19, .ref w20, .int 0, .ref w21, .ref w22, .ref w23, .ref w24, .ref w25, .ref w26, .ref w27, .ref w28, .ref w29, .ref w30, .ref w31, .ref w32, .ref w33, .ref w34, .ref w35, .ref w36, .ref w37, .int (-1), .int 0, .int 0, .int 0])), (w27, .inl (cy 0, 36, .inl f_12))] H := ef_12 ▸ hP
                    have hD : va_D A [(h0, .inr (10, [.int 0, .ref w0, .ref w1, .ref w2, .ref w3, .ref w4, .ref w5, .int 0, .ref w6, .int 0, .int 0, .int 0, .int 0, .int 0, .int 0, .int 0, .int 0, .long 0, .int 0, .int 0, .ref w7, .ref w8, .ref w9, .ref w10, .ref w11, .ref w12, .ref w13, .ref w14, .int 0, .int 0, .int 0, .ref w15, .ref w16, .ref w17, .ref w18, .ref w19, .ref w20, .int 0, .ref w21, .ref w22, .ref w23, .ref w24, .ref w25, .ref w26, .ref w27, .ref w28, .ref w29, .ref w30, .ref w31, .ref w32, .ref w33, .ref w34, .ref w35, .ref w36, .ref w37, .int (-1), .int 0, .int 0, .int 0])), (w27, .inl (cy 0, 36, .inl f_12))] := ef_12 ▸ hD
                    refine lv_iconst (v := 1) hx hb dX10_way_54 (by decide) ?_
                    exact gz_iret (p := p) (l := l) (e := e) (s := s) (m := m) (below := below) (meth := meth) (c := c) (H := H) (cells := 0) (slots := 0) (mc := 0) (ms := 0) (cf := (fun (u : Unit) => [])) (post := (fun (r : Int32) (u : Unit) => (r = 1 ∧ (0 ≤ Xx ∧ Xx < 6 ∧ 0 ≤ Xy ∧ Xy < 6 ∧ ¬ Xx = Xy ∧ 0 ≤ Xz ∧ Xz ≤ 9)) ∨ (r = 0 ∧ (¬ (0 ≤ Xx ∧ Xx < 6 ∧ 0 ≤ Xy ∧ Xy < 6 ∧ ¬ Xx = Xy ∧ 0 ≤ Xz ∧ Xz ≤ 9))))) hx hb hr hlocks hK hP hD hS () [] (by decide) (Or.inl (⟨rfl, by omega⟩)) (by decide) rfl (by exact Nat.le_of_ble_eq_true rfl) (by exact Nat.le_of_ble_eq_true rfl) dX10_way_55
                  · skip
                    refine lv_iadd hx hb dX10_way_51 ?_
                    refine lv_topi (fun x_13 ex_13 => ?_)
                    obtain rfl : x_13 = (2 : Int32) := ex_13.trans (by decide)
                    refine lv_iload_n hx hb dX10_way_52 rfl (lv_at hl 3 rfl) ?_
                    refine va_iast hx hb hK hP hD hS 1 0 rfl rfl (vp_in_iff.mpr (by decide)) dX10_way_53 (fun H locs hP hD hS => ?_)
                    obtain ⟨f_14, ef_14⟩ : ∃ g : Nat → Int32, g = upd (fun _ => 0) (2 : Int32).toNatClampNeg z := ⟨_, rfl⟩
                    have hP : va_P G vwCl [(h0, .inr (10, [.int 0, .ref w0, .ref w1, .ref w2, .ref w3, .ref w4, .ref w5, .int 0, .ref w6, .int 0, .int 0, .int 0, .int 0, .int 0, .int 0, .int 0, .int 0, .long 0, .int 0, .int 0, .ref w7, .ref w8, .ref w9, .ref w10, .ref w11, .ref w12, .ref w13, .ref w14, .int 0, .int 0, .int 0, .ref w15, .ref w16, .ref w17, .ref w18, .ref w19, .ref w20, .int 0, .ref w21, .ref w22, .ref w23, .ref w24, .ref w25, .ref w26, .ref w27, .ref w28, .ref w29, .ref w30, .ref w31, .ref w32, .ref w33, .ref w34, .ref w35, .ref w36, .ref w37, .int (-1), .int 0, .int 0, .int 0])), (w27, .inl (cy 0, 36, .inl f_14))] H := ef_14 ▸ hP
                    have hD : va_D A [(h0, .inr (10, [.int 0, .ref w0, .ref w1, .ref w2, .ref w3, .ref w4, .ref w5, .int 0, .ref w6, .int 0, .int 0, .int 0, .int 0, .int 0, .int 0, .int 0, .int 0, .long 0, .int 0, .int 0, .ref w7, .ref w8, .ref w9, .ref w10, .ref w11, .ref w12, .ref w13, .ref w14, .int 0, .int 0, .int 0, .ref w15, .ref w16, .ref w17, .ref w18, .ref w19, .ref w20, .int 0, .ref w21, .ref w22, .ref w23, .ref w24, .ref w25, .ref w26, .ref w27, .ref w28, .ref w29, .ref w30, .ref w31, .ref w32, .ref w33, .ref w34, .ref w35, .ref w36, .ref w37, .int (-1), .int 0, .int 0, .int 0])), (w27, .inl (cy 0, 36, .inl f_14))] := ef_14 ▸ hD
                    refine lv_iconst (v := 1) hx hb dX10_way_54 (by decide) ?_
                    exact gz_iret (p := p) (l := l) (e := e) (s := s) (m := m) (below := below) (meth := meth) (c := c) (H := H) (cells := 0) (slots := 0) (mc := 0) (ms := 0) (cf := (fun (u : Unit) => [])) (post := (fun (r : Int32) (u : Unit) => (r = 1 ∧ (0 ≤ Xx ∧ Xx < 6 ∧ 0 ≤ Xy ∧ Xy < 6 ∧ ¬ Xx = Xy ∧ 0 ≤ Xz ∧ Xz ≤ 9)) ∨ (r = 0 ∧ (¬ (0 ≤ Xx ∧ Xx < 6 ∧ 0 ≤ Xy ∧ Xy < 6 ∧ ¬ Xx = Xy ∧ 0 ≤ Xz ∧ Xz ≤ 9))))) hx hb hr hlocks hK hP hD hS () [] (by decide) (Or.inl (⟨rfl, by omega⟩)) (by decide) rfl (by exact Nat.le_of_ble_eq_true rfl) (by exact Nat.le_of_ble_eq_true rfl) dX10_way_55
                  · skip
                    refine lv_iadd hx hb dX10_way_51 ?_
                    refine lv_topi (fun x_15 ex_15 => ?_)
                    obtain rfl : x_15 = (3 : Int32) := ex_15.trans (by decide)
                    refine lv_iload_n hx hb dX10_way_52 rfl (lv_at hl 3 rfl) ?_
                    refine va_iast hx hb hK hP hD hS 1 0 rfl rfl (vp_in_iff.mpr (by decide)) dX10_way_53 (fun H locs hP hD hS => ?_)
                    obtain ⟨f_16, ef_16⟩ : ∃ g : Nat → Int32, g = upd (fun _ => 0) (3 : Int32).toNatClampNeg z := ⟨_, rfl⟩
                    have hP : va_P G vwCl [(h0, .inr (10, [.int 0, .ref w0, .ref w1, .ref w2, .ref w3, .ref w4, .ref w5, .int 0, .ref w6, .int 0, .int 0, .int 0, .int 0, .int 0, .int 0, .int 0, .int 0, .long 0, .int 0, .int 0, .ref w7, .ref w8, .ref w9, .ref w10, .ref w11, .ref w12, .ref w13, .ref w14, .int 0, .int 0, .int 0, .ref w15, .ref w16, .ref w17, .ref w18, .ref w19, .ref w20, .int 0, .ref w21, .ref w22, .ref w23, .ref w24, .ref w25, .ref w26, .ref w27, .ref w28, .ref w29, .ref w30, .ref w31, .ref w32, .ref w33, .ref w34, .ref w35, .ref w36, .ref w37, .int (-1), .int 0, .int 0, .int 0])), (w27, .inl (cy 0, 36, .inl f_16))] H := ef_16 ▸ hP
                    have hD : va_D A [(h0, .inr (10, [.int 0, .ref w0, .ref w1, .ref w2, .ref w3, .ref w4, .ref w5, .int 0, .ref w6, .int 0, .int 0, .int 0, .int 0, .int 0, .int 0, .int 0, .int 0, .long 0, .int 0, .int 0, .ref w7, .ref w8, .ref w9, .ref w10, .ref w11, .ref w12, .ref w13, .ref w14, .int 0, .int 0, .int 0, .ref w15, .ref w16, .ref w17, .ref w18, .ref w19, .ref w20, .int 0, .ref w21, .ref w22, .ref w23, .ref w24, .ref w25, .ref w26, .ref w27, .ref w28, .ref w29, .ref w30, .ref w31, .ref w32, .ref w33, .ref w34, .ref w35, .ref w36, .ref w37, .int (-1), .int 0, .int 0, .int 0])), (w27, .inl (cy 0, 36, .inl f_16))] := ef_16 ▸ hD
                    refine lv_iconst (v := 1) hx hb dX10_way_54 (by decide) ?_
                    exact gz_iret (p := p) (l := l) (e := e) (s := s) (m := m) (below := below) (meth := meth) (c := c) (H := H) (cells := 0) (slots := 0) (mc := 0) (ms := 0) (cf := (fun (u : Unit) => [])) (post := (fun (r : Int32) (u : Unit) => (r = 1 ∧ (0 ≤ Xx ∧ Xx < 6 ∧ 0 ≤ Xy ∧ Xy < 6 ∧ ¬ Xx = Xy ∧ 0 ≤ Xz ∧ Xz ≤ 9)) ∨ (r = 0 ∧ (¬ (0 ≤ Xx ∧ Xx < 6 ∧ 0 ≤ Xy ∧ Xy < 6 ∧ ¬ Xx = Xy ∧ 0 ≤ Xz ∧ Xz ≤ 9))))) hx hb hr hlocks hK hP hD hS () [] (by decide) (Or.inl (⟨rfl, by omega⟩)) (by decide) rfl (by exact Nat.le_of_ble_eq_true rfl) (by exact Nat.le_of_ble_eq_true rfl) dX10_way_55
                  · skip
                    refine lv_iadd hx hb dX10_way_51 ?_
                    refine lv_topi (fun x_17 ex_17 => ?_)
                    obtain rfl : x_17 = (4 : Int32) := ex_17.trans (by decide)
                    refine lv_iload_n hx hb dX10_way_52 rfl (lv_at hl 3 rfl) ?_
                    refine va_iast hx hb hK hP hD hS 1 0 rfl rfl (vp_in_iff.mpr (by decide)) dX10_way_53 (fun H locs hP hD hS => ?_)
                    obtain ⟨f_18, ef_18⟩ : ∃ g : Nat → Int32, g = upd (fun _ => 0) (4 : Int32).toNatClampNeg z := ⟨_, rfl⟩
                    have hP : va_P G vwCl [(h0, .inr (10, [.int 0, .ref w0, .ref w1, .ref w2, .ref w3, .ref w4, .ref w5, .int 0, .ref w6, .int 0, .int 0, .int 0, .int 0, .int 0, .int 0, .int 0, .int 0, .long 0, .int 0, .int 0, .ref w7, .ref w8, .ref w9, .ref w10, .ref w11, .ref w12, .ref w13, .ref w14, .int 0, .int 0, .int 0, .ref w15, .ref w16, .ref w17, .ref w18, .ref w19, .ref w20, .int 0, .ref w21, .ref w22, .ref w23, .ref w24, .ref w25, .ref w26, .ref w27, .ref w28, .ref w29, .ref w30, .ref w31, .ref w32, .ref w33, .ref w34, .ref w35, .ref w36, .ref w37, .int (-1), .int 0, .int 0, .int 0])), (w27, .inl (cy 0, 36, .inl f_18))] H := ef_18 ▸ hP
                    have hD : va_D A [(h0, .inr (10, [.int 0, .ref w0, .ref w1, .ref w2, .ref w3, .ref w4, .ref w5, .int 0, .ref w6, .int 0, .int 0, .int 0, .int 0, .int 0, .int 0, .int 0, .int 0, .long 0, .int 0, .int 0, .ref w7, .ref w8, .ref w9, .ref w10, .ref w11, .ref w12, .ref w13, .ref w14, .int 0, .int 0, .int 0, .ref w15, .ref w16, .ref w17, .ref w18, .ref w19, .ref w20, .int 0, .ref w21, .ref w22, .ref w23, .ref w24, .ref w25, .ref w26, .ref w27, .ref w28, .ref w29, .ref w30, .ref w31, .ref w32, .ref w33, .ref w34, .ref w35, .ref w36, .ref w37, .int (-1), .int 0, .int 0, .int 0])), (w27, .inl (cy 0, 36, .inl f_18))] := ef_18 ▸ hD
                    refine lv_iconst (v := 1) hx hb dX10_way_54 (by decide) ?_
                    exact gz_iret (p := p) (l := l) (e := e) (s := s) (m := m) (below := below) (meth := meth) (c := c) (H := H) (cells := 0) (slots := 0) (mc := 0) (ms := 0) (cf := (fun (u : Unit) => [])) (post := (fun (r : Int32) (u : Unit) => (r = 1 ∧ (0 ≤ Xx ∧ Xx < 6 ∧ 0 ≤ Xy ∧ Xy < 6 ∧ ¬ Xx = Xy ∧ 0 ≤ Xz ∧ Xz ≤ 9)) ∨ (r = 0 ∧ (¬ (0 ≤ Xx ∧ Xx < 6 ∧ 0 ≤ Xy ∧ Xy < 6 ∧ ¬ Xx = Xy ∧ 0 ≤ Xz ∧ Xz ≤ 9))))) hx hb hr hlocks hK hP hD hS () [] (by decide) (Or.inl (⟨rfl, by omega⟩)) (by decide) rfl (by exact Nat.le_of_ble_eq_true rfl) (by exact Nat.le_of_ble_eq_true rfl) dX10_way_55
                  · skip
                    refine lv_iadd hx hb dX10_way_51 ?_
                    refine lv_topi (fun x_19 ex_19 => ?_)
                    obtain rfl : x_19 = (5 : Int32) := ex_19.trans (by decide)
                    refine lv_iload_n hx hb dX10_way_52 rfl (lv_at hl 3 rfl) ?_
                    refine va_iast hx hb hK hP hD hS 1 0 rfl rfl (vp_in_iff.mpr (by decide)) dX10_way_53 (fun H locs hP hD hS => ?_)
                    obtain ⟨f_20, ef_20⟩ : ∃ g : Nat → Int32, g = upd (fun _ => 0) (5 : Int32).toNatClampNeg z := ⟨_, rfl⟩
                    have hP : va_P G vwCl [(h0, .inr (10, [.int 0, .ref w0, .ref w1, .ref w2, .ref w3, .ref w4, .ref w5, .int 0, .ref w6, .int 0, .int 0, .int 0, .int 0, .int 0, .int 0, .int 0, .int 0, .long 0, .int 0, .int 0, .ref w7, .ref w8, .ref w9, .ref w10, .ref w11, .ref w12, .ref w13, .ref w14, .int 0, .int 0, .int 0, .ref w15, .ref w16, .ref w17, .ref w18, .ref w19, .ref w20, .int 0, .ref w21, .ref w22, .ref w23, .ref w24, .ref w25, .ref w26, .ref w27, .ref w28, .ref w29, .ref w30, .ref w31, .ref w32, .ref w33, .ref w34, .ref w35, .ref w36, .ref w37, .int (-1), .int 0, .int 0, .int 0])), (w27, .inl (cy 0, 36, .inl f_20))] H := ef_20 ▸ hP
                    have hD : va_D A [(h0, .inr (10, [.int 0, .ref w0, .ref w1, .ref w2, .ref w3, .ref w4, .ref w5, .int 0, .ref w6, .int 0, .int 0, .int 0, .int 0, .int 0, .int 0, .int 0, .int 0, .long 0, .int 0, .int 0, .ref w7, .ref w8, .ref w9, .ref w10, .ref w11, .ref w12, .ref w13, .ref w14, .int 0, .int 0, .int 0, .ref w15, .ref w16, .ref w17, .ref w18, .ref w19, .ref w20, .int 0, .ref w21, .ref w22, .ref w23, .ref w24, .ref w25, .ref w26, .ref w27, .ref w28, .ref w29, .ref w30, .ref w31, .ref w32, .ref w33, .ref w34, .ref w35, .ref w36, .ref w37, .int (-1), .int 0, .int 0, .int 0])), (w27, .inl (cy 0, 36, .inl f_20))] := ef_20 ▸ hD
                    refine lv_iconst (v := 1) hx hb dX10_way_54 (by decide) ?_
                    exact gz_iret (p := p) (l := l) (e := e) (s := s) (m := m) (below := below) (meth := meth) (c := c) (H := H) (cells := 0) (slots := 0) (mc := 0) (ms := 0) (cf := (fun (u : Unit) => [])) (post := (fun (r : Int32) (u : Unit) => (r = 1 ∧ (0 ≤ Xx ∧ Xx < 6 ∧ 0 ≤ Xy ∧ Xy < 6 ∧ ¬ Xx = Xy ∧ 0 ≤ Xz ∧ Xz ≤ 9)) ∨ (r = 0 ∧ (¬ (0 ≤ Xx ∧ Xx < 6 ∧ 0 ≤ Xy ∧ Xy < 6 ∧ ¬ Xx = Xy ∧ 0 ≤ Xz ∧ Xz ≤ 9))))) hx hb hr hlocks hK hP hD hS () [] (by decide) (Or.inl (⟨rfl, by omega⟩)) (by decide) rfl (by exact Nat.le_of_ble_eq_true rfl) (by exact Nat.le_of_ble_eq_true rfl) dX10_way_55
                · skip
                  refine lv_imul hx hb dX10_way_49 ?_
                  refine lv_topi (fun x_21 ex_21 => ?_)
                  obtain rfl : x_21 = (6 : Int32) := ex_21.trans (by decide)
                  refine lv_iload_n hx hb dX10_way_50 rfl (lv_at hl 2 rfl) ?_
                  rcases gz_six (w := y) (by omega) (by omega) with rfl | rfl | rfl | rfl | rfl | rfl
                  · skip
                    refine lv_iadd hx hb dX10_way_51 ?_
                    refine lv_topi (fun x_22 ex_22 => ?_)
                    obtain rfl : x_22 = (6 : Int32) := ex_22.trans (by decide)
                    refine lv_iload_n hx hb dX10_way_52 rfl (lv_at hl 3 rfl) ?_
                    refine va_iast hx hb hK hP hD hS 1 0 rfl rfl (vp_in_iff.mpr (by decide)) dX10_way_53 (fun H locs hP hD hS => ?_)
                    obtain ⟨f_23, ef_23⟩ : ∃ g : Nat → Int32, g = upd (fun _ => 0) (6 : Int32).toNatClampNeg z := ⟨_, rfl⟩
                    have hP : va_P G vwCl [(h0, .inr (10, [.int 0, .ref w0, .ref w1, .ref w2, .ref w3, .ref w4, .ref w5, .int 0, .ref w6, .int 0, .int 0, .int 0, .int 0, .int 0, .int 0, .int 0, .int 0, .long 0, .int 0, .int 0, .ref w7, .ref w8, .ref w9, .ref w10, .ref w11, .ref w12, .ref w13, .ref w14, .int 0, .int 0, .int 0, .ref w15, .ref w16, .ref w17, .ref w18, .ref w19, .ref w20, .int 0, .ref w21, .ref w22, .ref w23, .ref w24, .ref w25, .ref w26, .ref w27, .ref w28, .ref w29, .ref w30, .ref w31, .ref w32, .ref w33, .ref w34, .ref w35, .ref w36, .ref w37, .int (-1), .int 0, .int 0, .int 0])), (w27, .inl (cy 0, 36, .inl f_23))] H := ef_23 ▸ hP
                    have hD : va_D A [(h0, .inr (10, [.int 0, .ref w0, .ref w1, .ref w2, .ref w3, .ref w4, .ref w5, .int 0, .ref w6, .int 0, .int 0, .int 0, .int 0, .int 0, .int 0, .int 0, .int 0, .long 0, .int 0, .int 0, .ref w7, .ref w8, .ref w9, .ref w10, .ref w11, .ref w12, .ref w13, .ref w14, .int 0, .int 0, .int 0, .ref w15, .ref w16, .ref w17, .ref w18, .ref w19, .ref w20, .int 0, .ref w21, .ref w22, .ref w23, .ref w24, .ref w25, .ref w26, .ref w27, .ref w28, .ref w29, .ref w30, .ref w31, .ref w32, .ref w33, .ref w34, .ref w35, .ref w36, .ref w37, .int (-1), .int 0, .int 0, .int 0])), (w27, .inl (cy 0, 36, .inl f_23))] := ef_23 ▸ hD
                    refine lv_iconst (v := 1) hx hb dX10_way_54 (by decide) ?_
                    exact gz_iret (p := p) (l := l) (e := e) (s := s) (m := m) (below := below) (meth := meth) (c := c) (H := H) (cells := 0) (slots := 0) (mc := 0) (ms := 0) (cf := (fun (u : Unit) => [])) (post := (fun (r : Int32) (u : Unit) => (r = 1 ∧ (0 ≤ Xx ∧ Xx < 6 ∧ 0 ≤ Xy ∧ Xy < 6 ∧ ¬ Xx = Xy ∧ 0 ≤ Xz ∧ Xz ≤ 9)) ∨ (r = 0 ∧ (¬ (0 ≤ Xx ∧ Xx < 6 ∧ 0 ≤ Xy ∧ Xy < 6 ∧ ¬ Xx = Xy ∧ 0 ≤ Xz ∧ Xz ≤ 9))))) hx hb hr hlocks hK hP hD hS () [] (by decide) (Or.inl (⟨rfl, by omega⟩)) (by decide) rfl (by exact Nat.le_of_ble_eq_true rfl) (by exact Nat.le_of_ble_eq_true rfl) dX10_way_55
                  · skip
                    refine lv_iadd hx hb dX10_way_51 ?_
                    refine lv_topi (fun x_24 ex_24 => ?_)
                    obtain rfl : x_24 = (7 : Int32) := ex_24.trans (by decide)
                    refine lv_iload_n hx hb dX10_way_52 rfl (lv_at hl 3 rfl) ?_
                    refine va_iast hx hb hK hP hD hS 1 0 rfl rfl (vp_in_iff.mpr (by decide)) dX10_way_53 (fun H locs hP hD hS => ?_)
                    obtain ⟨f_25, ef_25⟩ : ∃ g : Nat → Int32, g = upd (fun _ => 0) (7 : Int32).toNatClampNeg z := ⟨_, rfl⟩
                    have hP : va_P G vwCl [(h0, .inr (10, [.int 0, .ref w0, .ref w1, .ref w2, .ref w3, .ref w4, .ref w5, .int 0, .ref w6, .int 0, .int 0, .int 0, .int 0, .int 0, .int 0, .int 0, .int 0, .long 0, .int 0, .int 0, .ref w7, .ref w8, .ref w9, .ref w10, .ref w11, .ref w12, .ref w13, .ref w14, .int 0, .int 0, .int 0, .ref w15, .ref w16, .ref w17, .ref w18, .ref w19, .ref w20, .int 0, .ref w21, .ref w22, .ref w23, .ref w24, .ref w25, .ref w26, .ref w27, .ref w28, .ref w29, .ref w30, .ref w31, .ref w32, .ref w33, .ref w34, .ref w35, .ref w36, .ref w37, .int (-1), .int 0, .int 0, .int 0])), (w27, .inl (cy 0, 36, .inl f_25))] H := ef_25 ▸ hP
                    have hD : va_D A [(h0, .inr (10, [.int 0, .ref w0, .ref w1, .ref w2, .ref w3, .ref w4, .ref w5, .int 0, .ref w6, .int 0, .int 0, .int 0, .int 0, .int 0, .int 0, .int 0, .int 0, .long 0, .int 0, .int 0, .ref w7, .ref w8, .ref w9, .ref w10, .ref w11, .ref w12, .ref w13, .ref w14, .int 0, .int 0, .int 0, .ref w15, .ref w16, .ref w17, .ref w18, .ref w19, .ref w20, .int 0, .ref w21, .ref w22, .ref w23, .ref w24, .ref w25, .ref w26, .ref w27, .ref w28, .ref w29, .ref w30, .ref w31, .ref w32, .ref w33, .ref w34, .ref w35, .ref w36, .ref w37, .int (-1), .int 0, .int 0, .int 0])), (w27, .inl (cy 0, 36, .inl f_25))] := ef_25 ▸ hD
                    refine lv_iconst (v := 1) hx hb dX10_way_54 (by decide) ?_
                    exact gz_iret (p := p) (l := l) (e := e) (s := s) (m := m) (below := below) (meth := meth) (c := c) (H := H) (cells := 0) (slots := 0) (mc := 0) (ms := 0) (cf := (fun (u : Unit) => [])) (post := (fun (r : Int32) (u : Unit) => (r = 1 ∧ (0 ≤ Xx ∧ Xx < 6 ∧ 0 ≤ Xy ∧ Xy < 6 ∧ ¬ Xx = Xy ∧ 0 ≤ Xz ∧ Xz ≤ 9)) ∨ (r = 0 ∧ (¬ (0 ≤ Xx ∧ Xx < 6 ∧ 0 ≤ Xy ∧ Xy < 6 ∧ ¬ Xx = Xy ∧ 0 ≤ Xz ∧ Xz ≤ 9))))) hx hb hr hlocks hK hP hD hS () [] (by decide) (Or.inl (⟨rfl, by omega⟩)) (by decide) rfl (by exact Nat.le_of_ble_eq_true rfl) (by exact Nat.le_of_ble_eq_true rfl) dX10_way_55
                  · skip
                    refine lv_iadd hx hb dX10_way_51 ?_
                    refine lv_topi (fun x_26 ex_26 => ?_)
                    obtain rfl : x_26 = (8 : Int32) := ex_26.trans (by decide)
                    refine lv_iload_n hx hb dX10_way_52 rfl (lv_at hl 3 rfl) ?_
                    refine va_iast hx hb hK hP hD hS 1 0 rfl rfl (vp_in_iff.mpr (by decide)) dX10_way_53 (fun H locs hP hD hS => ?_)
                    obtain ⟨f_27, ef_27⟩ : ∃ g : Nat → Int32, g = upd (fun _ => 0) (8 : Int32).toNatClampNeg z := ⟨_, rfl⟩
                    have hP : va_P G vwCl [(h0, .inr (10, [.int 0, .ref w0, .ref w1, .ref w2, .ref w3, .ref w4, .ref w5, .int 0, .ref w6, .int 0, .int 0, .int 0, .int 0, .int 0, .int 0, .int 0, .int 0, .long 0, .int 0, .int 0, .ref w7, .ref w8, .ref w9, .ref w10, .ref w11, .ref w12, .ref w13, .ref w14, .int 0, .int 0, .int 0, .ref w15, .ref w16, .ref w17, .ref w18, .ref w19, .ref w20, .int 0, .ref w21, .ref w22, .ref w23, .ref w24, .ref w25, .ref w26, .ref w27, .ref w28, .ref w29, .ref w30, .ref w31, .ref w32, .ref w33, .ref w34, .ref w35, .ref w36, .ref w37, .int (-1), .int 0, .int 0, .int 0])), (w27, .inl (cy 0, 36, .inl f_27))] H := ef_27 ▸ hP
                    have hD : va_D A [(h0, .inr (10, [.int 0, .ref w0, .ref w1, .ref w2, .ref w3, .ref w4, .ref w5, .int 0, .ref w6, .int 0, .int 0, .int 0, .int 0, .int 0, .int 0, .int 0, .int 0, .long 0, .int 0, .int 0, .ref w7, .ref w8, .ref w9, .ref w10, .ref w11, .ref w12, .ref w13, .ref w14, .int 0, .int 0, .int 0, .ref w15, .ref w16, .ref w17, .ref w18, .ref w19, .ref w20, .int 0, .ref w21, .ref w22, .ref w23, .ref w24, .ref w25, .ref w26, .ref w27, .ref w28, .ref w29, .ref w30, .ref w31, .ref w32, .ref w33, .ref w34, .ref w35, .ref w36, .ref w37, .int (-1), .int 0, .int 0, .int 0])), (w27, .inl (cy 0, 36, .inl f_27))] := ef_27 ▸ hD
                    refine lv_iconst (v := 1) hx hb dX10_way_54 (by decide) ?_
                    exact gz_iret (p := p) (l := l) (e := e) (s := s) (m := m) (below := below) (meth := meth) (c := c) (H := H) (cells := 0) (slots := 0) (mc := 0) (ms := 0) (cf := (fun (u : Unit) => [])) (post := (fun (r : Int32) (u : Unit) => (r = 1 ∧ (0 ≤ Xx ∧ Xx < 6 ∧ 0 ≤ Xy ∧ Xy < 6 ∧ ¬ Xx = Xy ∧ 0 ≤ Xz ∧ Xz ≤ 9)) ∨ (r = 0 ∧ (¬ (0 ≤ Xx ∧ Xx < 6 ∧ 0 ≤ Xy ∧ Xy < 6 ∧ ¬ Xx = Xy ∧ 0 ≤ Xz ∧ Xz ≤ 9))))) hx hb hr hlocks hK hP hD hS () [] (by decide) (Or.inl (⟨rfl, by omega⟩)) (by decide) rfl (by exact Nat.le_of_ble_eq_true rfl) (by exact Nat.le_of_ble_eq_true rfl) dX10_way_55
                  · skip
                    refine lv_iadd hx hb dX10_way_51 ?_
                    refine lv_topi (fun x_28 ex_28 => ?_)
                    obtain rfl : x_28 = (9 : Int32) := ex_28.trans (by decide)
                    refine lv_iload_n hx hb dX10_way_52 rfl (lv_at hl 3 rfl) ?_
                    refine va_iast hx hb hK hP hD hS 1 0 rfl rfl (vp_in_iff.mpr (by decide)) dX10_way_53 (fun H locs hP hD hS => ?_)
                    obtain ⟨f_29, ef_29⟩ : ∃ g : Nat → Int32, g = upd (fun _ => 0) (9 : Int32).toNatClampNeg z := ⟨_, rfl⟩
                    have hP : va_P G vwCl [(h0, .inr (10, [.int 0, .ref w0, .ref w1, .ref w2, .ref w3, .ref w4, .ref w5, .int 0, .ref w6, .int 0, .int 0, .int 0, .int 0, .int 0, .int 0, .int 0, .int 0, .long 0, .int 0, .int 0, .ref w7, .ref w8, .ref w9, .ref w10, .ref w11, .ref w12, .ref w13, .ref w14, .int 0, .int 0, .int 0, .ref w15, .ref w16, .ref w17, .ref w18, .ref w19, .ref w20, .int 0, .ref w21, .ref w22, .ref w23, .ref w24, .ref w25, .ref w26, .ref w27, .ref w28, .ref w29, .ref w30, .ref w31, .ref w32, .ref w33, .ref w34, .ref w35, .ref w36, .ref w37, .int (-1), .int 0, .int 0, .int 0])), (w27, .inl (cy 0, 36, .inl f_29))] H := ef_29 ▸ hP
                    have hD : va_D A [(h0, .inr (10, [.int 0, .ref w0, .ref w1, .ref w2, .ref w3, .ref w4, .ref w5, .int 0, .ref w6, .int 0, .int 0, .int 0, .int 0, .int 0, .int 0, .int 0, .int 0, .long 0, .int 0, .int 0, .ref w7, .ref w8, .ref w9, .ref w10, .ref w11, .ref w12, .ref w13, .ref w14, .int 0, .int 0, .int 0, .ref w15, .ref w16, .ref w17, .ref w18, .ref w19, .ref w20, .int 0, .ref w21, .ref w22, .ref w23, .ref w24, .ref w25, .ref w26, .ref w27, .ref w28, .ref w29, .ref w30, .ref w31, .ref w32, .ref w33, .ref w34, .ref w35, .ref w36, .ref w37, .int (-1), .int 0, .int 0, .int 0])), (w27, .inl (cy 0, 36, .inl f_29))] := ef_29 ▸ hD
                    refine lv_iconst (v := 1) hx hb dX10_way_54 (by decide) ?_
                    exact gz_iret (p := p) (l := l) (e := e) (s := s) (m := m) (below := below) (meth := meth) (c := c) (H := H) (cells := 0) (slots := 0) (mc := 0) (ms := 0) (cf := (fun (u : Unit) => [])) (post := (fun (r : Int32) (u : Unit) => (r = 1 ∧ (0 ≤ Xx ∧ Xx < 6 ∧ 0 ≤ Xy ∧ Xy < 6 ∧ ¬ Xx = Xy ∧ 0 ≤ Xz ∧ Xz ≤ 9)) ∨ (r = 0 ∧ (¬ (0 ≤ Xx ∧ Xx < 6 ∧ 0 ≤ Xy ∧ Xy < 6 ∧ ¬ Xx = Xy ∧ 0 ≤ Xz ∧ Xz ≤ 9))))) hx hb hr hlocks hK hP hD hS () [] (by decide) (Or.inl (⟨rfl, by omega⟩)) (by decide) rfl (by exact Nat.le_of_ble_eq_true rfl) (by exact Nat.le_of_ble_eq_true rfl) dX10_way_55
                  · skip
                    refine lv_iadd hx hb dX10_way_51 ?_
                    refine lv_topi (fun x_30 ex_30 => ?_)
                    obtain rfl : x_30 = (10 : Int32) := ex_30.trans (by decide)
                    refine lv_iload_n hx hb dX10_way_52 rfl (lv_at hl 3 rfl) ?_
                    refine va_iast hx hb hK hP hD hS 1 0 rfl rfl (vp_in_iff.mpr (by decide)) dX10_way_53 (fun H locs hP hD hS => ?_)
                    obtain ⟨f_31, ef_31⟩ : ∃ g : Nat → Int32, g = upd (fun _ => 0) (10 : Int32).toNatClampNeg z := ⟨_, rfl⟩
                    have hP : va_P G vwCl [(h0, .inr (10, [.int 0, .ref w0, .ref w1, .ref w2, .ref w3, .ref w4, .ref w5, .int 0, .ref w6, .int 0, .int 0, .int 0, .int 0, .int 0, .int 0, .int 0, .int 0, .long 0, .int 0, .int 0, .ref w7, .ref w8, .ref w9, .ref w10, .ref w11, .ref w12, .ref w13, .ref w14, .int 0, .int 0, .int 0, .ref w15, .ref w16, .ref w17, .ref w18, .ref w19, .ref w20, .int 0, .ref w21, .ref w22, .ref w23, .ref w24, .ref w25, .ref w26, .ref w27, .ref w28, .ref w29, .ref w30, .ref w31, .ref w32, .ref w33, .ref w34, .ref w35, .ref w36, .ref w37, .int (-1), .int 0, .int 0, .int 0])), (w27, .inl (cy 0, 36, .inl f_31))] H := ef_31 ▸ hP
                    have hD : va_D A [(h0, .inr (10, [.int 0, .ref w0, .ref w1, .ref w2, .ref w3, .ref w4, .ref w5, .int 0, .ref w6, .int 0, .int 0, .int 0, .int 0, .int 0, .int 0, .int 0, .int 0, .long 0, .int 0, .int 0, .ref w7, .ref w8, .ref w9, .ref w10, .ref w11, .ref w12, .ref w13, .ref w14, .int 0, .int 0, .int 0, .ref w15, .ref w16, .ref w17, .ref w18, .ref w19, .ref w20, .int 0, .ref w21, .ref w22, .ref w23, .ref w24, .ref w25, .ref w26, .ref w27, .ref w28, .ref w29, .ref w30, .ref w31, .ref w32, .ref w33, .ref w34, .ref w35, .ref w36, .ref w37, .int (-1), .int 0, .int 0, .int 0])), (w27, .inl (cy 0, 36, .inl f_31))] := ef_31 ▸ hD
                    refine lv_iconst (v := 1) hx hb dX10_way_54 (by decide) ?_
                    exact gz_iret (p := p) (l := l) (e := e) (s := s) (m := m) (below := below) (meth := meth) (c := c) (H := H) (cells := 0) (slots := 0) (mc := 0) (ms := 0) (cf := (fun (u : Unit) => [])) (post := (fun (r : Int32) (u : Unit) => (r = 1 ∧ (0 ≤ Xx ∧ Xx < 6 ∧ 0 ≤ Xy ∧ Xy < 6 ∧ ¬ Xx = Xy ∧ 0 ≤ Xz ∧ Xz ≤ 9)) ∨ (r = 0 ∧ (¬ (0 ≤ Xx ∧ Xx < 6 ∧ 0 ≤ Xy ∧ Xy < 6 ∧ ¬ Xx = Xy ∧ 0 ≤ Xz ∧ Xz ≤ 9))))) hx hb hr hlocks hK hP hD hS () [] (by decide) (Or.inl (⟨rfl, by omega⟩)) (by decide) rfl (by exact Nat.le_of_ble_eq_true rfl) (by exact Nat.le_of_ble_eq_true rfl) dX10_way_55
                  · skip
                    refine lv_iadd hx hb dX10_way_51 ?_
                    refine lv_topi (fun x_32 ex_32 => ?_)
                    obtain rfl : x_32 = (11 : Int32) := ex_32.trans (by decide)
                    refine lv_iload_n hx hb dX10_way_52 rfl (lv_at hl 3 rfl) ?_
                    refine va_iast hx hb hK hP hD hS 1 0 rfl rfl (vp_in_iff.mpr (by decide)) dX10_way_53 (fun H locs hP hD hS => ?_)
                    obtain ⟨f_33, ef_33⟩ : ∃ g : Nat → Int32, g = upd (fun _ => 0) (11 : Int32).toNatClampNeg z := ⟨_, rfl⟩
                    have hP : va_P G vwCl [(h0, .inr (10, [.int 0, .ref w0, .ref w1, .ref w2, .ref w3, .ref w4, .ref w5, .int 0, .ref w6, .int 0, .int 0, .int 0, .int 0, .int 0, .int 0, .int 0, .int 0, .long 0, .int 0, .int 0, .ref w7, .ref w8, .ref w9, .ref w10, .ref w11, .ref w12, .ref w13, .ref w14, .int 0, .int 0, .int 0, .ref w15, .ref w16, .ref w17, .ref w18, .ref w19, .ref w20, .int 0, .ref w21, .ref w22, .ref w23, .ref w24, .ref w25, .ref w26, .ref w27, .ref w28, .ref w29, .ref w30, .ref w31, .ref w32, .ref w33, .ref w34, .ref w35, .ref w36, .ref w37, .int (-1), .int 0, .int 0, .int 0])), (w27, .inl (cy 0, 36, .inl f_33))] H := ef_33 ▸ hP
                    have hD : va_D A [(h0, .inr (10, [.int 0, .ref w0, .ref w1, .ref w2, .ref w3, .ref w4, .ref w5, .int 0, .ref w6, .int 0, .int 0, .int 0, .int 0, .int 0, .int 0, .int 0, .int 0, .long 0, .int 0, .int 0, .ref w7, .ref w8, .ref w9, .ref w10, .ref w11, .ref w12, .ref w13, .ref w14, .int 0, .int 0, .int 0, .ref w15, .ref w16, .ref w17, .ref w18, .ref w19, .ref w20, .int 0, .ref w21, .ref w22, .ref w23, .ref w24, .ref w25, .ref w26, .ref w27, .ref w28, .ref w29, .ref w30, .ref w31, .ref w32, .ref w33, .ref w34, .ref w35, .ref w36, .ref w37, .int (-1), .int 0, .int 0, .int 0])), (w27, .inl (cy 0, 36, .inl f_33))] := ef_33 ▸ hD
                    refine lv_iconst (v := 1) hx hb dX10_way_54 (by decide) ?_
                    exact gz_iret (p := p) (l := l) (e := e) (s := s) (m := m) (below := below) (meth := meth) (c := c) (H := H) (cells := 0) (slots := 0) (mc := 0) (ms := 0) (cf := (fun (u : Unit) => [])) (post := (fun (r : Int32) (u : Unit) => (r = 1 ∧ (0 ≤ Xx ∧ Xx < 6 ∧ 0 ≤ Xy ∧ Xy < 6 ∧ ¬ Xx = Xy ∧ 0 ≤ Xz ∧ Xz ≤ 9)) ∨ (r = 0 ∧ (¬ (0 ≤ Xx ∧ Xx < 6 ∧ 0 ≤ Xy ∧ Xy < 6 ∧ ¬ Xx = Xy ∧ 0 ≤ Xz ∧ Xz ≤ 9))))) hx hb hr hlocks hK hP hD hS () [] (by decide) (Or.inl (⟨rfl, by omega⟩)) (by decide) rfl (by exact Nat.le_of_ble_eq_true rfl) (by exact Nat.le_of_ble_eq_true rfl) dX10_way_55
                · skip
                  refine lv_imul hx hb dX10_way_49 ?_
                  refine lv_topi (fun x_34 ex_34 => ?_)
                  obtain rfl : x_34 = (12 : Int32) := ex_34.trans (by decide)
                  refine lv_iload_n hx hb dX10_way_50 rfl (lv_at hl 2 rfl) ?_
                  rcases gz_six (w := y) (by omega) (by omega) with rfl | rfl | rfl | rfl | rfl | rfl
                  · skip
                    refine lv_iadd hx hb dX10_way_51 ?_
                    refine lv_topi (fun x_35 ex_35 => ?_)
                    obtain rfl : x_35 = (12 : Int32) := ex_35.trans (by decide)
                    refine lv_iload_n hx hb dX10_way_52 rfl (lv_at hl 3 rfl) ?_
                    refine va_iast hx hb hK hP hD hS 1 0 rfl rfl (vp_in_iff.mpr (by decide)) dX10_way_53 (fun H locs hP hD hS => ?_)
                    obtain ⟨f_36, ef_36⟩ : ∃ g : Nat → Int32, g = upd (fun _ => 0) (12 : Int32).toNatClampNeg z := ⟨_, rfl⟩
                    have hP : va_P G vwCl [(h0, .inr (10, [.int 0, .ref w0, .ref w1, .ref w2, .ref w3, .ref w4, .ref w5, .int 0, .ref w6, .int 0, .int 0, .int 0, .int 0, .int 0, .int 0, .int 0, .int 0, .long 0, .int 0, .int 0, .ref w7, .ref w8, .ref w9, .ref w10, .ref w11, .ref w12, .ref w13, .ref w14, .int 0, .int 0, .int 0, .ref w15, .ref w16, .ref w17, .ref w18, .ref w19, .ref w20, .int 0, .ref w21, .ref w22, .ref w23, .ref w24, .ref w25, .ref w26, .ref w27, .ref w28, .ref w29, .ref w30, .ref w31, .ref w32, .ref w33, .ref w34, .ref w35, .ref w36, .ref w37, .int (-1), .int 0, .int 0, .int 0])), (w27, .inl (cy 0, 36, .inl f_36))] H := ef_36 ▸ hP
                    have hD : va_D A [(h0, .inr (10, [.int 0, .ref w0, .ref w1, .ref w2, .ref w3, .ref w4, .ref w5, .int 0, .ref w6, .int 0, .int 0, .int 0, .int 0, .int 0, .int 0, .int 0, .int 0, .long 0, .int 0, .int 0, .ref w7, .ref w8, .ref w9, .ref w10, .ref w11, .ref w12, .ref w13, .ref w14, .int 0, .int 0, .int 0, .ref w15, .ref w16, .ref w17, .ref w18, .ref w19, .ref w20, .int 0, .ref w21, .ref w22, .ref w23, .ref w24, .ref w25, .ref w26, .ref w27, .ref w28, .ref w29, .ref w30, .ref w31, .ref w32, .ref w33, .ref w34, .ref w35, .ref w36, .ref w37, .int (-1), .int 0, .int 0, .int 0])), (w27, .inl (cy 0, 36, .inl f_36))] := ef_36 ▸ hD
                    refine lv_iconst (v := 1) hx hb dX10_way_54 (by decide) ?_
                    exact gz_iret (p := p) (l := l) (e := e) (s := s) (m := m) (below := below) (meth := meth) (c := c) (H := H) (cells := 0) (slots := 0) (mc := 0) (ms := 0) (cf := (fun (u : Unit) => [])) (post := (fun (r : Int32) (u : Unit) => (r = 1 ∧ (0 ≤ Xx ∧ Xx < 6 ∧ 0 ≤ Xy ∧ Xy < 6 ∧ ¬ Xx = Xy ∧ 0 ≤ Xz ∧ Xz ≤ 9)) ∨ (r = 0 ∧ (¬ (0 ≤ Xx ∧ Xx < 6 ∧ 0 ≤ Xy ∧ Xy < 6 ∧ ¬ Xx = Xy ∧ 0 ≤ Xz ∧ Xz ≤ 9))))) hx hb hr hlocks hK hP hD hS () [] (by decide) (Or.inl (⟨rfl, by omega⟩)) (by decide) rfl (by exact Nat.le_of_ble_eq_true rfl) (by exact Nat.le_of_ble_eq_true rfl) dX10_way_55
                  · skip
                    refine lv_iadd hx hb dX10_way_51 ?_
                    refine lv_topi (fun x_37 ex_37 => ?_)
                    obtain rfl : x_37 = (13 : Int32) := ex_37.trans (by decide)
                    refine lv_iload_n hx hb dX10_way_52 rfl (lv_at hl 3 rfl) ?_
                    refine va_iast hx hb hK hP hD hS 1 0 rfl rfl (vp_in_iff.mpr (by decide)) dX10_way_53 (fun H locs hP hD hS => ?_)
                    obtain ⟨f_38, ef_38⟩ : ∃ g : Nat → Int32, g = upd (fun _ => 0) (13 : Int32).toNatClampNeg z := ⟨_, rfl⟩
                    have hP : va_P G vwCl [(h0, .inr (10, [.int 0, .ref w0, .ref w1, .ref w2, .ref w3, .ref w4, .ref w5, .int 0, .ref w6, .int 0, .int 0, .int 0, .int 0, .int 0, .int 0, .int 0, .int 0, .long 0, .int 0, .int 0, .ref w7, .ref w8, .ref w9, .ref w10, .ref w11, .ref w12, .ref w13, .ref w14, .int 0, .int 0, .int 0, .ref w15, .ref w16, .ref w17, .ref w18, .ref w19, .ref w20, .int 0, .ref w21, .ref w22, .ref w23, .ref w24, .ref w25, .ref w26, .ref w27, .ref w28, .ref w29, .ref w30, .ref w31, .ref w32, .ref w33, .ref w34, .ref w35, .ref w36, .ref w37, .int (-1), .int 0, .int 0, .int 0])), (w27, .inl (cy 0, 36, .inl f_38))] H := ef_38 ▸ hP
                    have hD : va_D A [(h0, .inr (10, [.int 0, .ref w0, .ref w1, .ref w2, .ref w3, .ref w4, .ref w5, .int 0, .ref w6, .int 0, .int 0, .int 0, .int 0, .int 0, .int 0, .int 0, .int 0, .long 0, .int 0, .int 0, .ref w7, .ref w8, .ref w9, .ref w10, .ref w11, .ref w12, .ref w13, .ref w14, .int 0, .int 0, .int 0, .ref w15, .ref w16, .ref w17, .ref w18, .ref w19, .ref w20, .int 0, .ref w21, .ref w22, .ref w23, .ref w24, .ref w25, .ref w26, .ref w27, .ref w28, .ref w29, .ref w30, .ref w31, .ref w32, .ref w33, .ref w34, .ref w35, .ref w36, .ref w37, .int (-1), .int 0, .int 0, .int 0])), (w27, .inl (cy 0, 36, .inl f_38))] := ef_38 ▸ hD
                    refine lv_iconst (v := 1) hx hb dX10_way_54 (by decide) ?_
                    exact gz_iret (p := p) (l := l) (e := e) (s := s) (m := m) (below := below) (meth := meth) (c := c) (H := H) (cells := 0) (slots := 0) (mc := 0) (ms := 0) (cf := (fun (u : Unit) => [])) (post := (fun (r : Int32) (u : Unit) => (r = 1 ∧ (0 ≤ Xx ∧ Xx < 6 ∧ 0 ≤ Xy ∧ Xy < 6 ∧ ¬ Xx = Xy ∧ 0 ≤ Xz ∧ Xz ≤ 9)) ∨ (r = 0 ∧ (¬ (0 ≤ Xx ∧ Xx < 6 ∧ 0 ≤ Xy ∧ Xy < 6 ∧ ¬ Xx = Xy ∧ 0 ≤ Xz ∧ Xz ≤ 9))))) hx hb hr hlocks hK hP hD hS () [] (by decide) (Or.inl (⟨rfl, by omega⟩)) (by decide) rfl (by exact Nat.le_of_ble_eq_true rfl) (by exact Nat.le_of_ble_eq_true rfl) dX10_way_55
                  · skip
                    refine lv_iadd hx hb dX10_way_51 ?_
                    refine lv_topi (fun x_39 ex_39 => ?_)
                    obtain rfl : x_39 = (14 : Int32) := ex_39.trans (by decide)
                    refine lv_iload_n hx hb dX10_way_52 rfl (lv_at hl 3 rfl) ?_
                    refine va_iast hx hb hK hP hD hS 1 0 rfl rfl (vp_in_iff.mpr (by decide)) dX10_way_53 (fun H locs hP hD hS => ?_)
                    obtain ⟨f_40, ef_40⟩ : ∃ g : Nat → Int32, g = upd (fun _ => 0) (14 : Int32).toNatClampNeg z := ⟨_, rfl⟩
                    have hP : va_P G vwCl [(h0, .inr (10, [.int 0, .ref w0, .ref w1, .ref w2, .ref w3, .ref w4, .ref w5, .int 0, .ref w6, .int 0, .int 0, .int 0, .int 0, .int 0, .int 0, .int 0, .int 0, .long 0, .int 0, .int 0, .ref w7, .ref w8, .ref w9, .ref w10, .ref w11, .ref w12, .ref w13, .ref w14, .int 0, .int 0, .int 0, .ref w15, .ref w16, .ref w17, .ref w18, .ref w19, .ref w20, .int 0, .ref w21, .ref w22, .ref w23, .ref w24, .ref w25, .ref w26, .ref w27, .ref w28, .ref w29, .ref w30, .ref w31, .ref w32, .ref w33, .ref w34, .ref w35, .ref w36, .ref w37, .int (-1), .int 0, .int 0, .int 0])), (w27, .inl (cy 0, 36, .inl f_40))] H := ef_40 ▸ hP
                    have hD : va_D A [(h0, .inr (10, [.int 0, .ref w0, .ref w1, .ref w2, .ref w3, .ref w4, .ref w5, .int 0, .ref w6, .int 0, .int 0, .int 0, .int 0, .int 0, .int 0, .int 0, .int 0, .long 0, .int 0, .int 0, .ref w7, .ref w8, .ref w9, .ref w10, .ref w11, .ref w12, .ref w13, .ref w14, .int 0, .int 0, .int 0, .ref w15, .ref w16, .ref w17, .ref w18, .ref w19, .ref w20, .int 0, .ref w21, .ref w22, .ref w23, .ref w24, .ref w25, .ref w26, .ref w27, .ref w28, .ref w29, .ref w30, .ref w31, .ref w32, .ref w33, .ref w34, .ref w35, .ref w36, .ref w37, .int (-1), .int 0, .int 0, .int 0])), (w27, .inl (cy 0, 36, .inl f_40))] := ef_40 ▸ hD
                    refine lv_iconst (v := 1) hx hb dX10_way_54 (by decide) ?_
                    exact gz_iret (p := p) (l := l) (e := e) (s := s) (m := m) (below := below) (meth := meth) (c := c) (H := H) (cells := 0) (slots := 0) (mc := 0) (ms := 0) (cf := (fun (u : Unit) => [])) (post := (fun (r : Int32) (u : Unit) => (r = 1 ∧ (0 ≤ Xx ∧ Xx < 6 ∧ 0 ≤ Xy ∧ Xy < 6 ∧ ¬ Xx = Xy ∧ 0 ≤ Xz ∧ Xz ≤ 9)) ∨ (r = 0 ∧ (¬ (0 ≤ Xx ∧ Xx < 6 ∧ 0 ≤ Xy ∧ Xy < 6 ∧ ¬ Xx = Xy ∧ 0 ≤ Xz ∧ Xz ≤ 9))))) hx hb hr hlocks hK hP hD hS () [] (by decide) (Or.inl (⟨rfl, by omega⟩)) (by decide) rfl (by exact Nat.le_of_ble_eq_true rfl) (by exact Nat.le_of_ble_eq_true rfl) dX10_way_55
                  · skip
                    refine lv_iadd hx hb dX10_way_51 ?_
                    refine lv_topi (fun x_41 ex_41 => ?_)
                    obtain rfl : x_41 = (15 : Int32) := ex_41.trans (by decide)
                    refine lv_iload_n hx hb dX10_way_52 rfl (lv_at hl 3 rfl) ?_
                    refine va_iast hx hb hK hP hD hS 1 0 rfl rfl (vp_in_iff.mpr (by decide)) dX10_way_53 (fun H locs hP hD hS => ?_)
                    obtain ⟨f_42, ef_42⟩ : ∃ g : Nat → Int32, g = upd (fun _ => 0) (15 : Int32).toNatClampNeg z := ⟨_, rfl⟩
                    have hP : va_P G vwCl [(h0, .inr (10, [.int 0, .ref w0, .ref w1, .ref w2, .ref w3, .ref w4, .ref w5, .int 0, .ref w6, .int 0, .int 0, .int 0, .int 0, .int 0, .int 0, .int 0, .int 0, .long 0, .int 0, .int 0, .ref w7, .ref w8, .ref w9, .ref w10, .ref w11, .ref w12, .ref w13, .ref w14, .int 0, .int 0, .int 0, .ref w15, .ref w16, .ref w17, .ref w18, .ref w19, .ref w20, .int 0, .ref w21, .ref w22, .ref w23, .ref w24, .ref w25, .ref w26, .ref w27, .ref w28, .ref w29, .ref w30, .ref w31, .ref w32, .ref w33, .ref w34, .ref w35, .ref w36, .ref w37, .int (-1), .int 0, .int 0, .int 0])), (w27, .inl (cy 0, 36, .inl f_42))] H := ef_42 ▸ hP
                    have hD : va_D A [(h0, .inr (10, [.int 0, .ref w0, .ref w1, .ref w2, .ref w3, .ref w4, .ref w5, .int 0, .ref w6, .int 0, .int 0, .int 0, .int 0, .int 0, .int 0, .int 0, .int 0, .long 0, .int 0, .int 0, .ref w7, .ref w8, .ref w9, .ref w10, .ref w11, .ref w12, .ref w13, .ref w14, .int 0, .int 0, .int 0, .ref w15, .ref w16, .ref w17, .ref w18, .ref w19, .ref w20, .int 0, .ref w21, .ref w22, .ref w23, .ref w24, .ref w25, .ref w26, .ref w27, .ref w28, .ref w29, .ref w30, .ref w31, .ref w32, .ref w33, .ref w34, .ref w35, .ref w36, .ref w37, .int (-1), .int 0, .int 0, .int 0])), (w27, .inl (cy 0, 36, .inl f_42))] := ef_42 ▸ hD
                    refine lv_iconst (v := 1) hx hb dX10_way_54 (by decide) ?_
                    exact gz_iret (p := p) (l := l) (e := e) (s := s) (m := m) (below := below) (meth := meth) (c := c) (H := H) (cells := 0) (slots := 0) (mc := 0) (ms := 0) (cf := (fun (u : Unit) => [])) (post := (fun (r : Int32) (u : Unit) => (r = 1 ∧ (0 ≤ Xx ∧ Xx < 6 ∧ 0 ≤ Xy ∧ Xy < 6 ∧ ¬ Xx = Xy ∧ 0 ≤ Xz ∧ Xz ≤ 9)) ∨ (r = 0 ∧ (¬ (0 ≤ Xx ∧ Xx < 6 ∧ 0 ≤ Xy ∧ Xy < 6 ∧ ¬ Xx = Xy ∧ 0 ≤ Xz ∧ Xz ≤ 9))))) hx hb hr hlocks hK hP hD hS () [] (by decide) (Or.inl (⟨rfl, by omega⟩)) (by decide) rfl (by exact Nat.le_of_ble_eq_true rfl) (by exact Nat.le_of_ble_eq_true rfl) dX10_way_55
                  · skip
                    refine lv_iadd hx hb dX10_way_51 ?_
                    refine lv_topi (fun x_43 ex_43 => ?_)
                    obtain rfl : x_43 = (16 : Int32) := ex_43.trans (by decide)
                    refine lv_iload_n hx hb dX10_way_52 rfl (lv_at hl 3 rfl) ?_
                    refine va_iast hx hb hK hP hD hS 1 0 rfl rfl (vp_in_iff.mpr (by decide)) dX10_way_53 (fun H locs hP hD hS => ?_)
                    obtain ⟨f_44, ef_44⟩ : ∃ g : Nat → Int32, g = upd (fun _ => 0) (16 : Int32).toNatClampNeg z := ⟨_, rfl⟩
                    have hP : va_P G vwCl [(h0, .inr (10, [.int 0, .ref w0, .ref w1, .ref w2, .ref w3, .ref w4, .ref w5, .int 0, .ref w6, .int 0, .int 0, .int 0, .int 0, .int 0, .int 0, .int 0, .int 0, .long 0, .int 0, .int 0, .ref w7, .ref w8, .ref w9, .ref w10, .ref w11, .ref w12, .ref w13, .ref w14, .int 0, .int 0, .int 0, .ref w15, .ref w16, .ref w17, .ref w18, .ref w19, .ref w20, .int 0, .ref w21, .ref w22, .ref w23, .ref w24, .ref w25, .ref w26, .ref w27, .ref w28, .ref w29, .ref w30, .ref w31, .ref w32, .ref w33, .ref w34, .ref w35, .ref w36, .ref w37, .int (-1), .int 0, .int 0, .int 0])), (w27, .inl (cy 0, 36, .inl f_44))] H := ef_44 ▸ hP
                    have hD : va_D A [(h0, .inr (10, [.int 0, .ref w0, .ref w1, .ref w2, .ref w3, .ref w4, .ref w5, .int 0, .ref w6, .int 0, .int 0, .int 0, .int 0, .int 0, .int 0, .int 0, .int 0, .long 0, .int 0, .int 0, .ref w7, .ref w8, .ref w9, .ref w10, .ref w11, .ref w12, .ref w13, .ref w14, .int 0, .int 0, .int 0, .ref w15, .ref w16, .ref w17, .ref w18, .ref w19, .ref w20, .int 0, .ref w21, .ref w22, .ref w23, .ref w24, .ref w25, .ref w26, .ref w27, .ref w28, .ref w29, .ref w30, .ref w31, .ref w32, .ref w33, .ref w34, .ref w35, .ref w36, .ref w37, .int (-1), .int 0, .int 0, .int 0])), (w27, .inl (cy 0, 36, .inl f_44))] := ef_44 ▸ hD
                    refine lv_iconst (v := 1) hx hb dX10_way_54 (by decide) ?_
                    exact gz_iret (p := p) (l := l) (e := e) (s := s) (m := m) (below := below) (meth := meth) (c := c) (H := H) (cells := 0) (slots := 0) (mc := 0) (ms := 0) (cf := (fun (u : Unit) => [])) (post := (fun (r : Int32) (u : Unit) => (r = 1 ∧ (0 ≤ Xx ∧ Xx < 6 ∧ 0 ≤ Xy ∧ Xy < 6 ∧ ¬ Xx = Xy ∧ 0 ≤ Xz ∧ Xz ≤ 9)) ∨ (r = 0 ∧ (¬ (0 ≤ Xx ∧ Xx < 6 ∧ 0 ≤ Xy ∧ Xy < 6 ∧ ¬ Xx = Xy ∧ 0 ≤ Xz ∧ Xz ≤ 9))))) hx hb hr hlocks hK hP hD hS () [] (by decide) (Or.inl (⟨rfl, by omega⟩)) (by decide) rfl (by exact Nat.le_of_ble_eq_true rfl) (by exact Nat.le_of_ble_eq_true rfl) dX10_way_55
                  · skip
                    refine lv_iadd hx hb dX10_way_51 ?_
                    refine lv_topi (fun x_45 ex_45 => ?_)
                    obtain rfl : x_45 = (17 : Int32) := ex_45.trans (by decide)
                    refine lv_iload_n hx hb dX10_way_52 rfl (lv_at hl 3 rfl) ?_
                    refine va_iast hx hb hK hP hD hS 1 0 rfl rfl (vp_in_iff.mpr (by decide)) dX10_way_53 (fun H locs hP hD hS => ?_)
                    obtain ⟨f_46, ef_46⟩ : ∃ g : Nat → Int32, g = upd (fun _ => 0) (17 : Int32).toNatClampNeg z := ⟨_, rfl⟩
                    have hP : va_P G vwCl [(h0, .inr (10, [.int 0, .ref w0, .ref w1, .ref w2, .ref w3, .ref w4, .ref w5, .int 0, .ref w6, .int 0, .int 0, .int 0, .int 0, .int 0, .int 0, .int 0, .int 0, .long 0, .int 0, .int 0, .ref w7, .ref w8, .ref w9, .ref w10, .ref w11, .ref w12, .ref w13, .ref w14, .int 0, .int 0, .int 0, .ref w15, .ref w16, .ref w17, .ref w18, .ref w19, .ref w20, .int 0, .ref w21, .ref w22, .ref w23, .ref w24, .ref w25, .ref w26, .ref w27, .ref w28, .ref w29, .ref w30, .ref w31, .ref w32, .ref w33, .ref w34, .ref w35, .ref w36, .ref w37, .int (-1), .int 0, .int 0, .int 0])), (w27, .inl (cy 0, 36, .inl f_46))] H := ef_46 ▸ hP
                    have hD : va_D A [(h0, .inr (10, [.int 0, .ref w0, .ref w1, .ref w2, .ref w3, .ref w4, .ref w5, .int 0, .ref w6, .int 0, .int 0, .int 0, .int 0, .int 0, .int 0, .int 0, .int 0, .long 0, .int 0, .int 0, .ref w7, .ref w8, .ref w9, .ref w10, .ref w11, .ref w12, .ref w13, .ref w14, .int 0, .int 0, .int 0, .ref w15, .ref w16, .ref w17, .ref w18, .ref w19, .ref w20, .int 0, .ref w21, .ref w22, .ref w23, .ref w24, .ref w25, .ref w26, .ref w27, .ref w28, .ref w29, .ref w30, .ref w31, .ref w32, .ref w33, .ref w34, .ref w35, .ref w36, .ref w37, .int (-1), .int 0, .int 0, .int 0])), (w27, .inl (cy 0, 36, .inl f_46))] := ef_46 ▸ hD
                    refine lv_iconst (v := 1) hx hb dX10_way_54 (by decide) ?_
                    exact gz_iret (p := p) (l := l) (e := e) (s := s) (m := m) (below := below) (meth := meth) (c := c) (H := H) (cells := 0) (slots := 0) (mc := 0) (ms := 0) (cf := (fun (u : Unit) => [])) (post := (fun (r : Int32) (u : Unit) => (r = 1 ∧ (0 ≤ Xx ∧ Xx < 6 ∧ 0 ≤ Xy ∧ Xy < 6 ∧ ¬ Xx = Xy ∧ 0 ≤ Xz ∧ Xz ≤ 9)) ∨ (r = 0 ∧ (¬ (0 ≤ Xx ∧ Xx < 6 ∧ 0 ≤ Xy ∧ Xy < 6 ∧ ¬ Xx = Xy ∧ 0 ≤ Xz ∧ Xz ≤ 9))))) hx hb hr hlocks hK hP hD hS () [] (by decide) (Or.inl (⟨rfl, by omega⟩)) (by decide) rfl (by exact Nat.le_of_ble_eq_true rfl) (by exact Nat.le_of_ble_eq_true rfl) dX10_way_55
                · skip
                  refine lv_imul hx hb dX10_way_49 ?_
                  refine lv_topi (fun x_47 ex_47 => ?_)
                  obtain rfl : x_47 = (18 : Int32) := ex_47.trans (by decide)
                  refine lv_iload_n hx hb dX10_way_50 rfl (lv_at hl 2 rfl) ?_
                  rcases gz_six (w := y) (by omega) (by omega) with rfl | rfl | rfl | rfl | rfl | rfl
                  · skip
                    refine lv_iadd hx hb dX10_way_51 ?_
                    refine lv_topi (fun x_48 ex_48 => ?_)
                    obtain rfl : x_48 = (18 : Int32) := ex_48.trans (by decide)
                    refine lv_iload_n hx hb dX10_way_52 rfl (lv_at hl 3 rfl) ?_
                    refine va_iast hx hb hK hP hD hS 1 0 rfl rfl (vp_in_iff.mpr (by decide)) dX10_way_53 (fun H locs hP hD hS => ?_)
                    obtain ⟨f_49, ef_49⟩ : ∃ g : Nat → Int32, g = upd (fun _ => 0) (18 : Int32).toNatClampNeg z := ⟨_, rfl⟩
                    have hP : va_P G vwCl [(h0, .inr (10, [.int 0, .ref w0, .ref w1, .ref w2, .ref w3, .ref w4, .ref w5, .int 0, .ref w6, .int 0, .int 0, .int 0, .int 0, .int 0, .int 0, .int 0, .int 0, .long 0, .int 0, .int 0, .ref w7, .ref w8, .ref w9, .ref w10, .ref w11, .ref w12, .ref w13, .ref w14, .int 0, .int 0, .int 0, .ref w15, .ref w16, .ref w17, .ref w18, .ref w19, .ref w20, .int 0, .ref w21, .ref w22, .ref w23, .ref w24, .ref w25, .ref w26, .ref w27, .ref w28, .ref w29, .ref w30, .ref w31, .ref w32, .ref w33, .ref w34, .ref w35, .ref w36, .ref w37, .int (-1), .int 0, .int 0, .int 0])), (w27, .inl (cy 0, 36, .inl f_49))] H := ef_49 ▸ hP
                    have hD : va_D A [(h0, .inr (10, [.int 0, .ref w0, .ref w1, .ref w2, .ref w3, .ref w4, .ref w5, .int 0, .ref w6, .int 0, .int 0, .int 0, .int 0, .int 0, .int 0, .int 0, .int 0, .long 0, .int 0, .int 0, .ref w7, .ref w8, .ref w9, .ref w10, .ref w11, .ref w12, .ref w13, .ref w14, .int 0, .int 0, .int 0, .ref w15, .ref w16, .ref w17, .ref w18, .ref w19, .ref w20, .int 0, .ref w21, .ref w22, .ref w23, .ref w24, .ref w25, .ref w26, .ref w27, .ref w28, .ref w29, .ref w30, .ref w31, .ref w32, .ref w33, .ref w34, .ref w35, .ref w36, .ref w37, .int (-1), .int 0, .int 0, .int 0])), (w27, .inl (cy 0, 36, .inl f_49))] := ef_49 ▸ hD
                    refine lv_iconst (v := 1) hx hb dX10_way_54 (by decide) ?_
                    exact gz_iret (p := p) (l := l) (e := e) (s := s) (m := m) (below := below) (meth := meth) (c := c) (H := H) (cells := 0) (slots := 0) (mc := 0) (ms := 0) (cf := (fun (u : Unit) => [])) (post := (fun (r : Int32) (u : Unit) => (r = 1 ∧ (0 ≤ Xx ∧ Xx < 6 ∧ 0 ≤ Xy ∧ Xy < 6 ∧ ¬ Xx = Xy ∧ 0 ≤ Xz ∧ Xz ≤ 9)) ∨ (r = 0 ∧ (¬ (0 ≤ Xx ∧ Xx < 6 ∧ 0 ≤ Xy ∧ Xy < 6 ∧ ¬ Xx = Xy ∧ 0 ≤ Xz ∧ Xz ≤ 9))))) hx hb hr hlocks hK hP hD hS () [] (by decide) (Or.inl (⟨rfl, by omega⟩)) (by decide) rfl (by exact Nat.le_of_ble_eq_true rfl) (by exact Nat.le_of_ble_eq_true rfl) dX10_way_55
                  · skip
                    refine lv_iadd hx hb dX10_way_51 ?_
                    refine lv_topi (fun x_50 ex_50 => ?_)
                    obtain rfl : x_50 = (19 : Int32) := ex_50.trans (by decide)
                    refine lv_iload_n hx hb dX10_way_52 rfl (lv_at hl 3 rfl) ?_
                    refine va_iast hx hb hK hP hD hS 1 0 rfl rfl (vp_in_iff.mpr (by decide)) dX10_way_53 (fun H locs hP hD hS => ?_)
                    obtain ⟨f_51, ef_51⟩ : ∃ g : Nat → Int32, g = upd (fun _ => 0) (19 : Int32).toNatClampNeg z := ⟨_, rfl⟩
                    have hP : va_P G vwCl [(h0, .inr (10, [.int 0, .ref w0, .ref w1, .ref w2, .ref w3, .ref w4, .ref w5, .int 0, .ref w6, .int 0, .int 0, .int 0, .int 0, .int 0, .int 0, .int 0, .int 0, .long 0, .int 0, .int 0, .ref w7, .ref w8, .ref w9, .ref w10, .ref w11, .ref w12, .ref w13, .ref w14, .int 0, .int 0, .int 0, .ref w15, .ref w16, .ref w17, .ref w18, .ref w19, .ref w20, .int 0, .ref w21, .ref w22, .ref w23, .ref w24, .ref w25, .ref w26, .ref w27, .ref w28, .ref w29, .ref w30, .ref w31, .ref w32, .ref w33, .ref w34, .ref w35, .ref w36, .ref w37, .int (-1), .int 0, .int 0, .int 0])), (w27, .inl (cy 0, 36, .inl f_51))] H := ef_51 ▸ hP
                    have hD : va_D A [(h0, .inr (10, [.int 0, .ref w0, .ref w1, .ref w2, .ref w3, .ref w4, .ref w5, .int 0, .ref w6, .int 0, .int 0, .int 0, .int 0, .int 0, .int 0, .int 0, .int 0, .long 0, .int 0, .int 0, .ref w7, .ref w8, .ref w9, .ref w10, .ref w11, .ref w12, .ref w13, .ref w14, .int 0, .int 0, .int 0, .ref w15, .ref w16, .ref w17, .ref w18, .ref w19, .ref w20, .int 0, .ref w21, .ref w22, .ref w23, .ref w24, .ref w25, .ref w26, .ref w27, .ref w28, .ref w29, .ref w30, .ref w31, .ref w32, .ref w33, .ref w34, .ref w35, .ref w36, .ref w37, .int (-1), .int 0, .int 0, .int 0])), (w27, .inl (cy 0, 36, .inl f_51))] := ef_51 ▸ hD
                    refine lv_iconst (v := 1) hx hb dX10_way_54 (by decide) ?_
                    exact gz_iret (p := p) (l := l) (e := e) (s := s) (m := m) (below := below) (meth := meth) (c := c) (H := H) (cells := 0) (slots := 0) (mc := 0) (ms := 0) (cf := (fun (u : Unit) => [])) (post := (fun (r : Int32) (u : Unit) => (r = 1 ∧ (0 ≤ Xx ∧ Xx < 6 ∧ 0 ≤ Xy ∧ Xy < 6 ∧ ¬ Xx = Xy ∧ 0 ≤ Xz ∧ Xz ≤ 9)) ∨ (r = 0 ∧ (¬ (0 ≤ Xx ∧ Xx < 6 ∧ 0 ≤ Xy ∧ Xy < 6 ∧ ¬ Xx = Xy ∧ 0 ≤ Xz ∧ Xz ≤ 9))))) hx hb hr hlocks hK hP hD hS () [] (by decide) (Or.inl (⟨rfl, by omega⟩)) (by decide) rfl (by exact Nat.le_of_ble_eq_true rfl) (by exact Nat.le_of_ble_eq_true rfl) dX10_way_55
                  · skip
                    refine lv_iadd hx hb dX10_way_51 ?_
                    refine lv_topi (fun x_52 ex_52 => ?_)
                    obtain rfl : x_52 = (20 : Int32) := ex_52.trans (by decide)
                    refine lv_iload_n hx hb dX10_way_52 rfl (lv_at hl 3 rfl) ?_
                    refine va_iast hx hb hK hP hD hS 1 0 rfl rfl (vp_in_iff.mpr (by decide)) dX10_way_53 (fun H locs hP hD hS => ?_)
                    obtain ⟨f_53, ef_53⟩ : ∃ g : Nat → Int32, g = upd (fun _ => 0) (20 : Int32).toNatClampNeg z := ⟨_, rfl⟩
                    have hP : va_P G vwCl [(h0, .inr (10, [.int 0, .ref w0, .ref w1, .ref w2, .ref w3, .ref w4, .ref w5, .int 0, .ref w6, .int 0, .int 0, .int 0, .int 0, .int 0, .int 0, .int 0, .int 0, .long 0, .int 0, .int 0, .ref w7, .ref w8, .ref w9, .ref w10, .ref w11, .ref w12, .ref w13, .ref w14, .int 0, .int 0, .int 0, .ref w15, .ref w16, .ref w17, .ref w18, .ref w19, .ref w20, .int 0, .ref w21, .ref w22, .ref w23, .ref w24, .ref w25, .ref w26, .ref w27, .ref w28, .ref w29, .ref w30, .ref w31, .ref w32, .ref w33, .ref w34, .ref w35, .ref w36, .ref w37, .int (-1), .int 0, .int 0, .int 0])), (w27, .inl (cy 0, 36, .inl f_53))] H := ef_53 ▸ hP
                    have hD : va_D A [(h0, .inr (10, [.int 0, .ref w0, .ref w1, .ref w2, .ref w3, .ref w4, .ref w5, .int 0, .ref w6, .int 0, .int 0, .int 0, .int 0, .int 0, .int 0, .int 0, .int 0, .long 0, .int 0, .int 0, .ref w7, .ref w8, .ref w9, .ref w10, .ref w11, .ref w12, .ref w13, .ref w14, .int 0, .int 0, .int 0, .ref w15, .ref w16, .ref w17, .ref w18, .ref w19, .ref w20, .int 0, .ref w21, .ref w22, .ref w23, .ref w24, .ref w25, .ref w26, .ref w27, .ref w28, .ref w29, .ref w30, .ref w31, .ref w32, .ref w33, .ref w34, .ref w35, .ref w36, .ref w37, .int (-1), .int 0, .int 0, .int 0])), (w27, .inl (cy 0, 36, .inl f_53))] := ef_53 ▸ hD
                    refine lv_iconst (v := 1) hx hb dX10_way_54 (by decide) ?_
                    exact gz_iret (p := p) (l := l) (e := e) (s := s) (m := m) (below := below) (meth := meth) (c := c) (H := H) (cells := 0) (slots := 0) (mc := 0) (ms := 0) (cf := (fun (u : Unit) => [])) (post := (fun (r : Int32) (u : Unit) => (r = 1 ∧ (0 ≤ Xx ∧ Xx < 6 ∧ 0 ≤ Xy ∧ Xy < 6 ∧ ¬ Xx = Xy ∧ 0 ≤ Xz ∧ Xz ≤ 9)) ∨ (r = 0 ∧ (¬ (0 ≤ Xx ∧ Xx < 6 ∧ 0 ≤ Xy ∧ Xy < 6 ∧ ¬ Xx = Xy ∧ 0 ≤ Xz ∧ Xz ≤ 9))))) hx hb hr hlocks hK hP hD hS () [] (by decide) (Or.inl (⟨rfl, by omega⟩)) (by decide) rfl (by exact Nat.le_of_ble_eq_true rfl) (by exact Nat.le_of_ble_eq_true rfl) dX10_way_55
                  · skip
                    refine lv_iadd hx hb dX10_way_51 ?_
                    refine lv_topi (fun x_54 ex_54 => ?_)
                    obtain rfl : x_54 = (21 : Int32) := ex_54.trans (by decide)
                    refine lv_iload_n hx hb dX10_way_52 rfl (lv_at hl 3 rfl) ?_
                    refine va_iast hx hb hK hP hD hS 1 0 rfl rfl (vp_in_iff.mpr (by decide)) dX10_way_53 (fun H locs hP hD hS => ?_)
                    obtain ⟨f_55, ef_55⟩ : ∃ g : Nat → Int32, g = upd (fun _ => 0) (21 : Int32).toNatClampNeg z := ⟨_, rfl⟩
                    have hP : va_P G vwCl [(h0, .inr (10, [.int 0, .ref w0, .ref w1, .ref w2, .ref w3, .ref w4, .ref w5, .int 0, .ref w6, .int 0, .int 0, .int 0, .int 0, .int 0, .int 0, .int 0, .int 0, .long 0, .int 0, .int 0, .ref w7, .ref w8, .ref w9, .ref w10, .ref w11, .ref w12, .ref w13, .ref w14, .int 0, .int 0, .int 0, .ref w15, .ref w16, .ref w17, .ref w18, .ref w19, .ref w20, .int 0, .ref w21, .ref w22, .ref w23, .ref w24, .ref w25, .ref w26, .ref w27, .ref w28, .ref w29, .ref w30, .ref w31, .ref w32, .ref w33, .ref w34, .ref w35, .ref w36, .ref w37, .int (-1), .int 0, .int 0, .int 0])), (w27, .inl (cy 0, 36, .inl f_55))] H := ef_55 ▸ hP
                    have hD : va_D A [(h0, .inr (10, [.int 0, .ref w0, .ref w1, .ref w2, .ref w3, .ref w4, .ref w5, .int 0, .ref w6, .int 0, .int 0, .int 0, .int 0, .int 0, .int 0, .int 0, .int 0, .long 0, .int 0, .int 0, .ref w7, .ref w8, .ref w9, .ref w10, .ref w11, .ref w12, .ref w13, .ref w14, .int 0, .int 0, .int 0, .ref w15, .ref w16, .ref w17, .ref w18, .ref w19, .ref w20, .int 0, .ref w21, .ref w22, .ref w23, .ref w24, .ref w25, .ref w26, .ref w27, .ref w28, .ref w29, .ref w30, .ref w31, .ref w32, .ref w33, .ref w34, .ref w35, .ref w36, .ref w37, .int (-1), .int 0, .int 0, .int 0])), (w27, .inl (cy 0, 36, .inl f_55))] := ef_55 ▸ hD
                    refine lv_iconst (v := 1) hx hb dX10_way_54 (by decide) ?_
                    exact gz_iret (p := p) (l := l) (e := e) (s := s) (m := m) (below := below) (meth := meth) (c := c) (H := H) (cells := 0) (slots := 0) (mc := 0) (ms := 0) (cf := (fun (u : Unit) => [])) (post := (fun (r : Int32) (u : Unit) => (r = 1 ∧ (0 ≤ Xx ∧ Xx < 6 ∧ 0 ≤ Xy ∧ Xy < 6 ∧ ¬ Xx = Xy ∧ 0 ≤ Xz ∧ Xz ≤ 9)) ∨ (r = 0 ∧ (¬ (0 ≤ Xx ∧ Xx < 6 ∧ 0 ≤ Xy ∧ Xy < 6 ∧ ¬ Xx = Xy ∧ 0 ≤ Xz ∧ Xz ≤ 9))))) hx hb hr hlocks hK hP hD hS () [] (by decide) (Or.inl (⟨rfl, by omega⟩)) (by decide) rfl (by exact Nat.le_of_ble_eq_true rfl) (by exact Nat.le_of_ble_eq_true rfl) dX10_way_55
                  · skip
                    refine lv_iadd hx hb dX10_way_51 ?_
                    refine lv_topi (fun x_56 ex_56 => ?_)
                    obtain rfl : x_56 = (22 : Int32) := ex_56.trans (by decide)
                    refine lv_iload_n hx hb dX10_way_52 rfl (lv_at hl 3 rfl) ?_
                    refine va_iast hx hb hK hP hD hS 1 0 rfl rfl (vp_in_iff.mpr (by decide)) dX10_way_53 (fun H locs hP hD hS => ?_)
                    obtain ⟨f_57, ef_57⟩ : ∃ g : Nat → Int32, g = upd (fun _ => 0) (22 : Int32).toNatClampNeg z := ⟨_, rfl⟩
                    have hP : va_P G vwCl [(h0, .inr (10, [.int 0, .ref w0, .ref w1, .ref w2, .ref w3, .ref w4, .ref w5, .int 0, .ref w6, .int 0, .int 0, .int 0, .int 0, .int 0, .int 0, .int 0, .int 0, .long 0, .int 0, .int 0, .ref w7, .ref w8, .ref w9, .ref w10, .ref w11, .ref w12, .ref w13, .ref w14, .int 0, .int 0, .int 0, .ref w15, .ref w16, .ref w17, .ref w18, .ref w19, .ref w20, .int 0, .ref w21, .ref w22, .ref w23, .ref w24, .ref w25, .ref w26, .ref w27, .ref w28, .ref w29, .ref w30, .ref w31, .ref w32, .ref w33, .ref w34, .ref w35, .ref w36, .ref w37, .int (-1), .int 0, .int 0, .int 0])), (w27, .inl (cy 0, 36, .inl f_57))] H := ef_57 ▸ hP
                    have hD : va_D A [(h0, .inr (10, [.int 0, .ref w0, .ref w1, .ref w2, .ref w3, .ref w4, .ref w5, .int 0, .ref w6, .int 0, .int 0, .int 0, .int 0, .int 0, .int 0, .int 0, .int 0, .long 0, .int 0, .int 0, .ref w7, .ref w8, .ref w9, .ref w10, .ref w11, .ref w12, .ref w13, .ref w14, .int 0, .int 0, .int 0, .ref w15, .ref w16, .ref w17, .ref w18, .ref w19, .ref w20, .int 0, .ref w21, .ref w22, .ref w23, .ref w24, .ref w25, .ref w26, .ref w27, .ref w28, .ref w29, .ref w30, .ref w31, .ref w32, .ref w33, .ref w34, .ref w35, .ref w36, .ref w37, .int (-1), .int 0, .int 0, .int 0])), (w27, .inl (cy 0, 36, .inl f_57))] := ef_57 ▸ hD
                    refine lv_iconst (v := 1) hx hb dX10_way_54 (by decide) ?_
                    exact gz_iret (p := p) (l := l) (e := e) (s := s) (m := m) (below := below) (meth := meth) (c := c) (H := H) (cells := 0) (slots := 0) (mc := 0) (ms := 0) (cf := (fun (u : Unit) => [])) (post := (fun (r : Int32) (u : Unit) => (r = 1 ∧ (0 ≤ Xx ∧ Xx < 6 ∧ 0 ≤ Xy ∧ Xy < 6 ∧ ¬ Xx = Xy ∧ 0 ≤ Xz ∧ Xz ≤ 9)) ∨ (r = 0 ∧ (¬ (0 ≤ Xx ∧ Xx < 6 ∧ 0 ≤ Xy ∧ Xy < 6 ∧ ¬ Xx = Xy ∧ 0 ≤ Xz ∧ Xz ≤ 9))))) hx hb hr hlocks hK hP hD hS () [] (by decide) (Or.inl (⟨rfl, by omega⟩)) (by decide) rfl (by exact Nat.le_of_ble_eq_true rfl) (by exact Nat.le_of_ble_eq_true rfl) dX10_way_55
                  · skip
                    refine lv_iadd hx hb dX10_way_51 ?_
                    refine lv_topi (fun x_58 ex_58 => ?_)
                    obtain rfl : x_58 = (23 : Int32) := ex_58.trans (by decide)
                    refine lv_iload_n hx hb dX10_way_52 rfl (lv_at hl 3 rfl) ?_
                    refine va_iast hx hb hK hP hD hS 1 0 rfl rfl (vp_in_iff.mpr (by decide)) dX10_way_53 (fun H locs hP hD hS => ?_)
                    obtain ⟨f_59, ef_59⟩ : ∃ g : Nat → Int32, g = upd (fun _ => 0) (23 : Int32).toNatClampNeg z := ⟨_, rfl⟩
                    have hP : va_P G vwCl [(h0, .inr (10, [.int 0, .ref w0, .ref w1, .ref w2, .ref w3, .ref w4, .ref w5, .int 0, .ref w6, .int 0, .int 0, .int 0, .int 0, .int 0, .int 0, .int 0, .int 0, .long 0, .int 0, .int 0, .ref w7, .ref w8, .ref w9, .ref w10, .ref w11, .ref w12, .ref w13, .ref w14, .int 0, .int 0, .int 0, .ref w15, .ref w16, .ref w17, .ref w18, .ref w19, .ref w20, .int 0, .ref w21, .ref w22, .ref w23, .ref w24, .ref w25, .ref w26, .ref w27, .ref w28, .ref w29, .ref w30, .ref w31, .ref w32, .ref w33, .ref w34, .ref w35, .ref w36, .ref w37, .int (-1), .int 0, .int 0, .int 0])), (w27, .inl (cy 0, 36, .inl f_59))] H := ef_59 ▸ hP
                    have hD : va_D A [(h0, .inr (10, [.int 0, .ref w0, .ref w1, .ref w2, .ref w3, .ref w4, .ref w5, .int 0, .ref w6, .int 0, .int 0, .int 0, .int 0, .int 0, .int 0, .int 0, .int 0, .long 0, .int 0, .int 0, .ref w7, .ref w8, .ref w9, .ref w10, .ref w11, .ref w12, .ref w13, .ref w14, .int 0, .int 0, .int 0, .ref w15, .ref w16, .ref w17, .ref w18, .ref w19, .ref w20, .int 0, .ref w21, .ref w22, .ref w23, .ref w24, .ref w25, .ref w26, .ref w27, .ref w28, .ref w29, .ref w30, .ref w31, .ref w32, .ref w33, .ref w34, .ref w35, .ref w36, .ref w37, .int (-1), .int 0, .int 0, .int 0])), (w27, .inl (cy 0, 36, .inl f_59))] := ef_59 ▸ hD
                    refine lv_iconst (v := 1) hx hb dX10_way_54 (by decide) ?_
                    exact gz_iret (p := p) (l := l) (e := e) (s := s) (m := m) (below := below) (meth := meth) (c := c) (H := H) (cells := 0) (slots := 0) (mc := 0) (ms := 0) (cf := (fun (u : Unit) => [])) (post := (fun (r : Int32) (u : Unit) => (r = 1 ∧ (0 ≤ Xx ∧ Xx < 6 ∧ 0 ≤ Xy ∧ Xy < 6 ∧ ¬ Xx = Xy ∧ 0 ≤ Xz ∧ Xz ≤ 9)) ∨ (r = 0 ∧ (¬ (0 ≤ Xx ∧ Xx < 6 ∧ 0 ≤ Xy ∧ Xy < 6 ∧ ¬ Xx = Xy ∧ 0 ≤ Xz ∧ Xz ≤ 9))))) hx hb hr hlocks hK hP hD hS () [] (by decide) (Or.inl (⟨rfl, by omega⟩)) (by decide) rfl (by exact Nat.le_of_ble_eq_true rfl) (by exact Nat.le_of_ble_eq_true rfl) dX10_way_55
                · skip
                  refine lv_imul hx hb dX10_way_49 ?_
                  refine lv_topi (fun x_60 ex_60 => ?_)
                  obtain rfl : x_60 = (24 : Int32) := ex_60.trans (by decide)
                  refine lv_iload_n hx hb dX10_way_50 rfl (lv_at hl 2 rfl) ?_
                  rcases gz_six (w := y) (by omega) (by omega) with rfl | rfl | rfl | rfl | rfl | rfl
                  · skip
                    refine lv_iadd hx hb dX10_way_51 ?_
                    refine lv_topi (fun x_61 ex_61 => ?_)
                    obtain rfl : x_61 = (24 : Int32) := ex_61.trans (by decide)
                    refine lv_iload_n hx hb dX10_way_52 rfl (lv_at hl 3 rfl) ?_
                    refine va_iast hx hb hK hP hD hS 1 0 rfl rfl (vp_in_iff.mpr (by decide)) dX10_way_53 (fun H locs hP hD hS => ?_)
                    obtain ⟨f_62, ef_62⟩ : ∃ g : Nat → Int32, g = upd (fun _ => 0) (24 : Int32).toNatClampNeg z := ⟨_, rfl⟩
                    have hP : va_P G vwCl [(h0, .inr (10, [.int 0, .ref w0, .ref w1, .ref w2, .ref w3, .ref w4, .ref w5, .int 0, .ref w6, .int 0, .int 0, .int 0, .int 0, .int 0, .int 0, .int 0, .int 0, .long 0, .int 0, .int 0, .ref w7, .ref w8, .ref w9, .ref w10, .ref w11, .ref w12, .ref w13, .ref w14, .int 0, .int 0, .int 0, .ref w15, .ref w16, .ref w17, .ref w18, .ref w19, .ref w20, .int 0, .ref w21, .ref w22, .ref w23, .ref w24, .ref w25, .ref w26, .ref w27, .ref w28, .ref w29, .ref w30, .ref w31, .ref w32, .ref w33, .ref w34, .ref w35, .ref w36, .ref w37, .int (-1), .int 0, .int 0, .int 0])), (w27, .inl (cy 0, 36, .inl f_62))] H := ef_62 ▸ hP
                    have hD : va_D A [(h0, .inr (10, [.int 0, .ref w0, .ref w1, .ref w2, .ref w3, .ref w4, .ref w5, .int 0, .ref w6, .int 0, .int 0, .int 0, .int 0, .int 0, .int 0, .int 0, .int 0, .long 0, .int 0, .int 0, .ref w7, .ref w8, .ref w9, .ref w10, .ref w11, .ref w12, .ref w13, .ref w14, .int 0, .int 0, .int 0, .ref w15, .ref w16, .ref w17, .ref w18, .ref w19, .ref w20, .int 0, .ref w21, .ref w22, .ref w23, .ref w24, .ref w25, .ref w26, .ref w27, .ref w28, .ref w29, .ref w30, .ref w31, .ref w32, .ref w33, .ref w34, .ref w35, .ref w36, .ref w37, .int (-1), .int 0, .int 0, .int 0])), (w27, .inl (cy 0, 36, .inl f_62))] := ef_62 ▸ hD
                    refine lv_iconst (v := 1) hx hb dX10_way_54 (by decide) ?_
                    exact gz_iret (p := p) (l := l) (e := e) (s := s) (m := m) (below := below) (meth := meth) (c := c) (H := H) (cells := 0) (slots := 0) (mc := 0) (ms := 0) (cf := (fun (u : Unit) => [])) (post := (fun (r : Int32) (u : Unit) => (r = 1 ∧ (0 ≤ Xx ∧ Xx < 6 ∧ 0 ≤ Xy ∧ Xy < 6 ∧ ¬ Xx = Xy ∧ 0 ≤ Xz ∧ Xz ≤ 9)) ∨ (r = 0 ∧ (¬ (0 ≤ Xx ∧ Xx < 6 ∧ 0 ≤ Xy ∧ Xy < 6 ∧ ¬ Xx = Xy ∧ 0 ≤ Xz ∧ Xz ≤ 9))))) hx hb hr hlocks hK hP hD hS () [] (by decide) (Or.inl (⟨rfl, by omega⟩)) (by decide) rfl (by exact Nat.le_of_ble_eq_true rfl) (by exact Nat.le_of_ble_eq_true rfl) dX10_way_55
                  · skip
                    refine lv_iadd hx hb dX10_way_51 ?_
                    refine lv_topi (fun x_63 ex_63 => ?_)
                    obtain rfl : x_63 = (25 : Int32) := ex_63.trans (by decide)
                    refine lv_iload_n hx hb dX10_way_52 rfl (lv_at hl 3 rfl) ?_
                    refine va_iast hx hb hK hP hD hS 1 0 rfl rfl (vp_in_iff.mpr (by decide)) dX10_way_53 (fun H locs hP hD hS => ?_)
                    obtain ⟨f_64, ef_64⟩ : ∃ g : Nat → Int32, g = upd (fun _ => 0) (25 : Int32).toNatClampNeg z := ⟨_, rfl⟩
                    have hP : va_P G vwCl [(h0, .inr (10, [.int 0, .ref w0, .ref w1, .ref w2, .ref w3, .ref w4, .ref w5, .int 0, .ref w6, .int 0, .int 0, .int 0, .int 0, .int 0, .int 0, .int 0, .int 0, .long 0, .int 0, .int 0, .ref w7, .ref w8, .ref w9, .ref w10, .ref w11, .ref w12, .ref w13, .ref w14, .int 0, .int 0, .int 0, .ref w15, .ref w16, .ref w17, .ref w18, .ref w19, .ref w20, .int 0, .ref w21, .ref w22, .ref w23, .ref w24, .ref w25, .ref w26, .ref w27, .ref w28, .ref w29, .ref w30, .ref w31, .ref w32, .ref w33, .ref w34, .ref w35, .ref w36, .ref w37, .int (-1), .int 0, .int 0, .int 0])), (w27, .inl (cy 0, 36, .inl f_64))] H := ef_64 ▸ hP
                    have hD : va_D A [(h0, .inr (10, [.int 0, .ref w0, .ref w1, .ref w2, .ref w3, .ref w4, .ref w5, .int 0, .ref w6, .int 0, .int 0, .int 0, .int 0, .int 0, .int 0, .int 0, .int 0, .long 0, .int 0, .int 0, .ref w7, .ref w8, .ref w9, .ref w10, .ref w11, .ref w12, .ref w13, .ref w14, .int 0, .int 0, .int 0, .ref w15, .ref w16, .ref w17, .ref w18, .ref w19, .ref w20, .int 0, .ref w21, .ref w22, .ref w23, .ref w24, .ref w25, .ref w26, .ref w27, .ref w28, .ref w29, .ref w30, .ref w31, .ref w32, .ref w33, .ref w34, .ref w35, .ref w36, .ref w37, .int (-1), .int 0, .int 0, .int 0])), (w27, .inl (cy 0, 36, .inl f_64))] := ef_64 ▸ hD
                    refine lv_iconst (v := 1) hx hb dX10_way_54 (by decide) ?_
                    exact gz_iret (p := p) (l := l) (e := e) (s := s) (m := m) (below := below) (meth := meth) (c := c) (H := H) (cells := 0) (slots := 0) (mc := 0) (ms := 0) (cf := (fun (u : Unit) => [])) (post := (fun (r : Int32) (u : Unit) => (r = 1 ∧ (0 ≤ Xx ∧ Xx < 6 ∧ 0 ≤ Xy ∧ Xy < 6 ∧ ¬ Xx = Xy ∧ 0 ≤ Xz ∧ Xz ≤ 9)) ∨ (r = 0 ∧ (¬ (0 ≤ Xx ∧ Xx < 6 ∧ 0 ≤ Xy ∧ Xy < 6 ∧ ¬ Xx = Xy ∧ 0 ≤ Xz ∧ Xz ≤ 9))))) hx hb hr hlocks hK hP hD hS () [] (by decide) (Or.inl (⟨rfl, by omega⟩)) (by decide) rfl (by exact Nat.le_of_ble_eq_true rfl) (by exact Nat.le_of_ble_eq_true rfl) dX10_way_55
                  · skip
                    refine lv_iadd hx hb dX10_way_51 ?_
                    refine lv_topi (fun x_65 ex_65 => ?_)
                    obtain rfl : x_65 = (26 : Int32) := ex_65.trans (by decide)
                    refine lv_iload_n hx hb dX10_way_52 rfl (lv_at hl 3 rfl) ?_
                    refine va_iast hx hb hK hP hD hS 1 0 rfl rfl (vp_in_iff.mpr (by decide)) dX10_way_53 (fun H locs hP hD hS => ?_)
                    obtain ⟨f_66, ef_66⟩ : ∃ g : Nat → Int32, g = upd (fun _ => 0) (26 : Int32).toNatClampNeg z := ⟨_, rfl⟩
                    have hP : va_P G vwCl [(h0, .inr (10, [.int 0, .ref w0, .ref w1, .ref w2, .ref w3, .ref w4, .ref w5, .int 0, .ref w6, .int 0, .int 0, .int 0, .int 0, .int 0, .int 0, .int 0, .int 0, .long 0, .int 0, .int 0, .ref w7, .ref w8, .ref w9, .ref w10, .ref w11, .ref w12, .ref w13, .ref w14, .int 0, .int 0, .int 0, .ref w15, .ref w16, .ref w17, .ref w18, .ref w19, .ref w20, .int 0, .ref w21, .ref w22, .ref w23, .ref w24, .ref w25, .ref w26, .ref w27, .ref w28, .ref w29, .ref w30, .ref w31, .ref w32, .ref w33, .ref w34, .ref w35, .ref w36, .ref w37, .int (-1), .int 0, .int 0, .int 0])), (w27, .inl (cy 0, 36, .inl f_66))] H := ef_66 ▸ hP
                    have hD : va_D A [(h0, .inr (10, [.int 0, .ref w0, .ref w1, .ref w2, .ref w3, .ref w4, .ref w5, .int 0, .ref w6, .int 0, .int 0, .int 0, .int 0, .int 0, .int 0, .int 0, .int 0, .long 0, .int 0, .int 0, .ref w7, .ref w8, .ref w9, .ref w10, .ref w11, .ref w12, .ref w13, .ref w14, .int 0, .int 0, .int 0, .ref w15, .ref w16, .ref w17, .ref w18, .ref w19, .ref w20, .int 0, .ref w21, .ref w22, .ref w23, .ref w24, .ref w25, .ref w26, .ref w27, .ref w28, .ref w29, .ref w30, .ref w31, .ref w32, .ref w33, .ref w34, .ref w35, .ref w36, .ref w37, .int (-1), .int 0, .int 0, .int 0])), (w27, .inl (cy 0, 36, .inl f_66))] := ef_66 ▸ hD
                    refine lv_iconst (v := 1) hx hb dX10_way_54 (by decide) ?_
                    exact gz_iret (p := p) (l := l) (e := e) (s := s) (m := m) (below := below) (meth := meth) (c := c) (H := H) (cells := 0) (slots := 0) (mc := 0) (ms := 0) (cf := (fun (u : Unit) => [])) (post := (fun (r : Int32) (u : Unit) => (r = 1 ∧ (0 ≤ Xx ∧ Xx < 6 ∧ 0 ≤ Xy ∧ Xy < 6 ∧ ¬ Xx = Xy ∧ 0 ≤ Xz ∧ Xz ≤ 9)) ∨ (r = 0 ∧ (¬ (0 ≤ Xx ∧ Xx < 6 ∧ 0 ≤ Xy ∧ Xy < 6 ∧ ¬ Xx = Xy ∧ 0 ≤ Xz ∧ Xz ≤ 9))))) hx hb hr hlocks hK hP hD hS () [] (by decide) (Or.inl (⟨rfl, by omega⟩)) (by decide) rfl (by exact Nat.le_of_ble_eq_true rfl) (by exact Nat.le_of_ble_eq_true rfl) dX10_way_55
                  · skip
                    refine lv_iadd hx hb dX10_way_51 ?_
                    refine lv_topi (fun x_67 ex_67 => ?_)
                    obtain rfl : x_67 = (27 : Int32) := ex_67.trans (by decide)
                    refine lv_iload_n hx hb dX10_way_52 rfl (lv_at hl 3 rfl) ?_
                    refine va_iast hx hb hK hP hD hS 1 0 rfl rfl (vp_in_iff.mpr (by decide)) dX10_way_53 (fun H locs hP hD hS => ?_)
                    obtain ⟨f_68, ef_68⟩ : ∃ g : Nat → Int32, g = upd (fun _ => 0) (27 : Int32).toNatClampNeg z := ⟨_, rfl⟩
                    have hP : va_P G vwCl [(h0, .inr (10, [.int 0, .ref w0, .ref w1, .ref w2, .ref w3, .ref w4, .ref w5, .int 0, .ref w6, .int 0, .int 0, .int 0, .int 0, .int 0, .int 0, .int 0, .int 0, .long 0, .int 0, .int 0, .ref w7, .ref w8, .ref w9, .ref w10, .ref w11, .ref w12, .ref w13, .ref w14, .int 0, .int 0, .int 0, .ref w15, .ref w16, .ref w17, .ref w18, .ref w19, .ref w20, .int 0, .ref w21, .ref w22, .ref w23, .ref w24, .ref w25, .ref w26, .ref w27, .ref w28, .ref w29, .ref w30, .ref w31, .ref w32, .ref w33, .ref w34, .ref w35, .ref w36, .ref w37, .int (-1), .int 0, .int 0, .int 0])), (w27, .inl (cy 0, 36, .inl f_68))] H := ef_68 ▸ hP
                    have hD : va_D A [(h0, .inr (10, [.int 0, .ref w0, .ref w1, .ref w2, .ref w3, .ref w4, .ref w5, .int 0, .ref w6, .int 0, .int 0, .int 0, .int 0, .int 0, .int 0, .int 0, .int 0, .long 0, .int 0, .int 0, .ref w7, .ref w8, .ref w9, .ref w10, .ref w11, .ref w12, .ref w13, .ref w14, .int 0, .int 0, .int 0, .ref w15, .ref w16, .ref w17, .ref w18, .ref w19, .ref w20, .int 0, .ref w21, .ref w22, .ref w23, .ref w24, .ref w25, .ref w26, .ref w27, .ref w28, .ref w29, .ref w30, .ref w31, .ref w32, .ref w33, .ref w34, .ref w35, .ref w36, .ref w37, .int (-1), .int 0, .int 0, .int 0])), (w27, .inl (cy 0, 36, .inl f_68))] := ef_68 ▸ hD
                    refine lv_iconst (v := 1) hx hb dX10_way_54 (by decide) ?_
                    exact gz_iret (p := p) (l := l) (e := e) (s := s) (m := m) (below := below) (meth := meth) (c := c) (H := H) (cells := 0) (slots := 0) (mc := 0) (ms := 0) (cf := (fun (u : Unit) => [])) (post := (fun (r : Int32) (u : Unit) => (r = 1 ∧ (0 ≤ Xx ∧ Xx < 6 ∧ 0 ≤ Xy ∧ Xy < 6 ∧ ¬ Xx = Xy ∧ 0 ≤ Xz ∧ Xz ≤ 9)) ∨ (r = 0 ∧ (¬ (0 ≤ Xx ∧ Xx < 6 ∧ 0 ≤ Xy ∧ Xy < 6 ∧ ¬ Xx = Xy ∧ 0 ≤ Xz ∧ Xz ≤ 9))))) hx hb hr hlocks hK hP hD hS () [] (by decide) (Or.inl (⟨rfl, by omega⟩)) (by decide) rfl (by exact Nat.le_of_ble_eq_true rfl) (by exact Nat.le_of_ble_eq_true rfl) dX10_way_55
                  · skip
                    refine lv_iadd hx hb dX10_way_51 ?_
                    refine lv_topi (fun x_69 ex_69 => ?_)
                    obtain rfl : x_69 = (28 : Int32) := ex_69.trans (by decide)
                    refine lv_iload_n hx hb dX10_way_52 rfl (lv_at hl 3 rfl) ?_
                    refine va_iast hx hb hK hP hD hS 1 0 rfl rfl (vp_in_iff.mpr (by decide)) dX10_way_53 (fun H locs hP hD hS => ?_)
                    obtain ⟨f_70, ef_70⟩ : ∃ g : Nat → Int32, g = upd (fun _ => 0) (28 : Int32).toNatClampNeg z := ⟨_, rfl⟩
                    have hP : va_P G vwCl [(h0, .inr (10, [.int 0, .ref w0, .ref w1, .ref w2, .ref w3, .ref w4, .ref w5, .int 0, .ref w6, .int 0, .int 0, .int 0, .int 0, .int 0, .int 0, .int 0, .int 0, .long 0, .int 0, .int 0, .ref w7, .ref w8, .ref w9, .ref w10, .ref w11, .ref w12, .ref w13, .ref w14, .int 0, .int 0, .int 0, .ref w15, .ref w16, .ref w17, .ref w18, .ref w19, .ref w20, .int 0, .ref w21, .ref w22, .ref w23, .ref w24, .ref w25, .ref w26, .ref w27, .ref w28, .ref w29, .ref w30, .ref w31, .ref w32, .ref w33, .ref w34, .ref w35, .ref w36, .ref w37, .int (-1), .int 0, .int 0, .int 0])), (w27, .inl (cy 0, 36, .inl f_70))] H := ef_70 ▸ hP
                    have hD : va_D A [(h0, .inr (10, [.int 0, .ref w0, .ref w1, .ref w2, .ref w3, .ref w4, .ref w5, .int 0, .ref w6, .int 0, .int 0, .int 0, .int 0, .int 0, .int 0, .int 0, .int 0, .long 0, .int 0, .int 0, .ref w7, .ref w8, .ref w9, .ref w10, .ref w11, .ref w12, .ref w13, .ref w14, .int 0, .int 0, .int 0, .ref w15, .ref w16, .ref w17, .ref w18, .ref w19, .ref w20, .int 0, .ref w21, .ref w22, .ref w23, .ref w24, .ref w25, .ref w26, .ref w27, .ref w28, .ref w29, .ref w30, .ref w31, .ref w32, .ref w33, .ref w34, .ref w35, .ref w36, .ref w37, .int (-1), .int 0, .int 0, .int 0])), (w27, .inl (cy 0, 36, .inl f_70))] := ef_70 ▸ hD
                    refine lv_iconst (v := 1) hx hb dX10_way_54 (by decide) ?_
                    exact gz_iret (p := p) (l := l) (e := e) (s := s) (m := m) (below := below) (meth := meth) (c := c) (H := H) (cells := 0) (slots := 0) (mc := 0) (ms := 0) (cf := (fun (u : Unit) => [])) (post := (fun (r : Int32) (u : Unit) => (r = 1 ∧ (0 ≤ Xx ∧ Xx < 6 ∧ 0 ≤ Xy ∧ Xy < 6 ∧ ¬ Xx = Xy ∧ 0 ≤ Xz ∧ Xz ≤ 9)) ∨ (r = 0 ∧ (¬ (0 ≤ Xx ∧ Xx < 6 ∧ 0 ≤ Xy ∧ Xy < 6 ∧ ¬ Xx = Xy ∧ 0 ≤ Xz ∧ Xz ≤ 9))))) hx hb hr hlocks hK hP hD hS () [] (by decide) (Or.inl (⟨rfl, by omega⟩)) (by decide) rfl (by exact Nat.le_of_ble_eq_true rfl) (by exact Nat.le_of_ble_eq_true rfl) dX10_way_55
                  · skip
                    refine lv_iadd hx hb dX10_way_51 ?_
                    refine lv_topi (fun x_71 ex_71 => ?_)
                    obtain rfl : x_71 = (29 : Int32) := ex_71.trans (by decide)
                    refine lv_iload_n hx hb dX10_way_52 rfl (lv_at hl 3 rfl) ?_
                    refine va_iast hx hb hK hP hD hS 1 0 rfl rfl (vp_in_iff.mpr (by decide)) dX10_way_53 (fun H locs hP hD hS => ?_)
                    obtain ⟨f_72, ef_72⟩ : ∃ g : Nat → Int32, g = upd (fun _ => 0) (29 : Int32).toNatClampNeg z := ⟨_, rfl⟩
                    have hP : va_P G vwCl [(h0, .inr (10, [.int 0, .ref w0, .ref w1, .ref w2, .ref w3, .ref w4, .ref w5, .int 0, .ref w6, .int 0, .int 0, .int 0, .int 0, .int 0, .int 0, .int 0, .int 0, .long 0, .int 0, .int 0, .ref w7, .ref w8, .ref w9, .ref w10, .ref w11, .ref w12, .ref w13, .ref w14, .int 0, .int 0, .int 0, .ref w15, .ref w16, .ref w17, .ref w18, .ref w19, .ref w20, .int 0, .ref w21, .ref w22, .ref w23, .ref w24, .ref w25, .ref w26, .ref w27, .ref w28, .ref w29, .ref w30, .ref w31, .ref w32, .ref w33, .ref w34, .ref w35, .ref w36, .ref w37, .int (-1), .int 0, .int 0, .int 0])), (w27, .inl (cy 0, 36, .inl f_72))] H := ef_72 ▸ hP
                    have hD : va_D A [(h0, .inr (10, [.int 0, .ref w0, .ref w1, .ref w2, .ref w3, .ref w4, .ref w5, .int 0, .ref w6, .int 0, .int 0, .int 0, .int 0, .int 0, .int 0, .int 0, .int 0, .long 0, .int 0, .int 0, .ref w7, .ref w8, .ref w9, .ref w10, .ref w11, .ref w12, .ref w13, .ref w14, .int 0, .int 0, .int 0, .ref w15, .ref w16, .ref w17, .ref w18, .ref w19, .ref w20, .int 0, .ref w21, .ref w22, .ref w23, .ref w24, .ref w25, .ref w26, .ref w27, .ref w28, .ref w29, .ref w30, .ref w31, .ref w32, .ref w33, .ref w34, .ref w35, .ref w36, .ref w37, .int (-1), .int 0, .int 0, .int 0])), (w27, .inl (cy 0, 36, .inl f_72))] := ef_72 ▸ hD
                    refine lv_iconst (v := 1) hx hb dX10_way_54 (by decide) ?_
                    exact gz_iret (p := p) (l := l) (e := e) (s := s) (m := m) (below := below) (meth := meth) (c := c) (H := H) (cells := 0) (slots := 0) (mc := 0) (ms := 0) (cf := (fun (u : Unit) => [])) (post := (fun (r : Int32) (u : Unit) => (r = 1 ∧ (0 ≤ Xx ∧ Xx < 6 ∧ 0 ≤ Xy ∧ Xy < 6 ∧ ¬ Xx = Xy ∧ 0 ≤ Xz ∧ Xz ≤ 9)) ∨ (r = 0 ∧ (¬ (0 ≤ Xx ∧ Xx < 6 ∧ 0 ≤ Xy ∧ Xy < 6 ∧ ¬ Xx = Xy ∧ 0 ≤ Xz ∧ Xz ≤ 9))))) hx hb hr hlocks hK hP hD hS () [] (by decide) (Or.inl (⟨rfl, by omega⟩)) (by decide) rfl (by exact Nat.le_of_ble_eq_true rfl) (by exact Nat.le_of_ble_eq_true rfl) dX10_way_55
                · skip
                  refine lv_imul hx hb dX10_way_49 ?_
                  refine lv_topi (fun x_73 ex_73 => ?_)
                  obtain rfl : x_73 = (30 : Int32) := ex_73.trans (by decide)
                  refine lv_iload_n hx hb dX10_way_50 rfl (lv_at hl 2 rfl) ?_
                  rcases gz_six (w := y) (by omega) (by omega) with rfl | rfl | rfl | rfl | rfl | rfl
                  · skip
                    refine lv_iadd hx hb dX10_way_51 ?_
                    refine lv_topi (fun x_74 ex_74 => ?_)
                    obtain rfl : x_74 = (30 : Int32) := ex_74.trans (by decide)
                    refine lv_iload_n hx hb dX10_way_52 rfl (lv_at hl 3 rfl) ?_
                    refine va_iast hx hb hK hP hD hS 1 0 rfl rfl (vp_in_iff.mpr (by decide)) dX10_way_53 (fun H locs hP hD hS => ?_)
                    obtain ⟨f_75, ef_75⟩ : ∃ g : Nat → Int32, g = upd (fun _ => 0) (30 : Int32).toNatClampNeg z := ⟨_, rfl⟩
                    have hP : va_P G vwCl [(h0, .inr (10, [.int 0, .ref w0, .ref w1, .ref w2, .ref w3, .ref w4, .ref w5, .int 0, .ref w6, .int 0, .int 0, .int 0, .int 0, .int 0, .int 0, .int 0, .int 0, .long 0, .int 0, .int 0, .ref w7, .ref w8, .ref w9, .ref w10, .ref w11, .ref w12, .ref w13, .ref w14, .int 0, .int 0, .int 0, .ref w15, .ref w16, .ref w17, .ref w18, .ref w19, .ref w20, .int 0, .ref w21, .ref w22, .ref w23, .ref w24, .ref w25, .ref w26, .ref w27, .ref w28, .ref w29, .ref w30, .ref w31, .ref w32, .ref w33, .ref w34, .ref w35, .ref w36, .ref w37, .int (-1), .int 0, .int 0, .int 0])), (w27, .inl (cy 0, 36, .inl f_75))] H := ef_75 ▸ hP
                    have hD : va_D A [(h0, .inr (10, [.int 0, .ref w0, .ref w1, .ref w2, .ref w3, .ref w4, .ref w5, .int 0, .ref w6, .int 0, .int 0, .int 0, .int 0, .int 0, .int 0, .int 0, .int 0, .long 0, .int 0, .int 0, .ref w7, .ref w8, .ref w9, .ref w10, .ref w11, .ref w12, .ref w13, .ref w14, .int 0, .int 0, .int 0, .ref w15, .ref w16, .ref w17, .ref w18, .ref w19, .ref w20, .int 0, .ref w21, .ref w22, .ref w23, .ref w24, .ref w25, .ref w26, .ref w27, .ref w28, .ref w29, .ref w30, .ref w31, .ref w32, .ref w33, .ref w34, .ref w35, .ref w36, .ref w37, .int (-1), .int 0, .int 0, .int 0])), (w27, .inl (cy 0, 36, .inl f_75))] := ef_75 ▸ hD
                    refine lv_iconst (v := 1) hx hb dX10_way_54 (by decide) ?_
                    exact gz_iret (p := p) (l := l) (e := e) (s := s) (m := m) (below := below) (meth := meth) (c := c) (H := H) (cells := 0) (slots := 0) (mc := 0) (ms := 0) (cf := (fun (u : Unit) => [])) (post := (fun (r : Int32) (u : Unit) => (r = 1 ∧ (0 ≤ Xx ∧ Xx < 6 ∧ 0 ≤ Xy ∧ Xy < 6 ∧ ¬ Xx = Xy ∧ 0 ≤ Xz ∧ Xz ≤ 9)) ∨ (r = 0 ∧ (¬ (0 ≤ Xx ∧ Xx < 6 ∧ 0 ≤ Xy ∧ Xy < 6 ∧ ¬ Xx = Xy ∧ 0 ≤ Xz ∧ Xz ≤ 9))))) hx hb hr hlocks hK hP hD hS () [] (by decide) (Or.inl (⟨rfl, by omega⟩)) (by decide) rfl (by exact Nat.le_of_ble_eq_true rfl) (by exact Nat.le_of_ble_eq_true rfl) dX10_way_55
                  · skip
                    refine lv_iadd hx hb dX10_way_51 ?_
                    refine lv_topi (fun x_76 ex_76 => ?_)
                    obtain rfl : x_76 = (31 : Int32) := ex_76.trans (by decide)
                    refine lv_iload_n hx hb dX10_way_52 rfl (lv_at hl 3 rfl) ?_
                    refine va_iast hx hb hK hP hD hS 1 0 rfl rfl (vp_in_iff.mpr (by decide)) dX10_way_53 (fun H locs hP hD hS => ?_)
                    obtain ⟨f_77, ef_77⟩ : ∃ g : Nat → Int32, g = upd (fun _ => 0) (31 : Int32).toNatClampNeg z := ⟨_, rfl⟩
                    have hP : va_P G vwCl [(h0, .inr (10, [.int 0, .ref w0, .ref w1, .ref w2, .ref w3, .ref w4, .ref w5, .int 0, .ref w6, .int 0, .int 0, .int 0, .int 0, .int 0, .int 0, .int 0, .int 0, .long 0, .int 0, .int 0, .ref w7, .ref w8, .ref w9, .ref w10, .ref w11, .ref w12, .ref w13, .ref w14, .int 0, .int 0, .int 0, .ref w15, .ref w16, .ref w17, .ref w18, .ref w19, .ref w20, .int 0, .ref w21, .ref w22, .ref w23, .ref w24, .ref w25, .ref w26, .ref w27, .ref w28, .ref w29, .ref w30, .ref w31, .ref w32, .ref w33, .ref w34, .ref w35, .ref w36, .ref w37, .int (-1), .int 0, .int 0, .int 0])), (w27, .inl (cy 0, 36, .inl f_77))] H := ef_77 ▸ hP
                    have hD : va_D A [(h0, .inr (10, [.int 0, .ref w0, .ref w1, .ref w2, .ref w3, .ref w4, .ref w5, .int 0, .ref w6, .int 0, .int 0, .int 0, .int 0, .int 0, .int 0, .int 0, .int 0, .long 0, .int 0, .int 0, .ref w7, .ref w8, .ref w9, .ref w10, .ref w11, .ref w12, .ref w13, .ref w14, .int 0, .int 0, .int 0, .ref w15, .ref w16, .ref w17, .ref w18, .ref w19, .ref w20, .int 0, .ref w21, .ref w22, .ref w23, .ref w24, .ref w25, .ref w26, .ref w27, .ref w28, .ref w29, .ref w30, .ref w31, .ref w32, .ref w33, .ref w34, .ref w35, .ref w36, .ref w37, .int (-1), .int 0, .int 0, .int 0])), (w27, .inl (cy 0, 36, .inl f_77))] := ef_77 ▸ hD
                    refine lv_iconst (v := 1) hx hb dX10_way_54 (by decide) ?_
                    exact gz_iret (p := p) (l := l) (e := e) (s := s) (m := m) (below := below) (meth := meth) (c := c) (H := H) (cells := 0) (slots := 0) (mc := 0) (ms := 0) (cf := (fun (u : Unit) => [])) (post := (fun (r : Int32) (u : Unit) => (r = 1 ∧ (0 ≤ Xx ∧ Xx < 6 ∧ 0 ≤ Xy ∧ Xy < 6 ∧ ¬ Xx = Xy ∧ 0 ≤ Xz ∧ Xz ≤ 9)) ∨ (r = 0 ∧ (¬ (0 ≤ Xx ∧ Xx < 6 ∧ 0 ≤ Xy ∧ Xy < 6 ∧ ¬ Xx = Xy ∧ 0 ≤ Xz ∧ Xz ≤ 9))))) hx hb hr hlocks hK hP hD hS () [] (by decide) (Or.inl (⟨rfl, by omega⟩)) (by decide) rfl (by exact Nat.le_of_ble_eq_true rfl) (by exact Nat.le_of_ble_eq_true rfl) dX10_way_55
                  · skip
                    refine lv_iadd hx hb dX10_way_51 ?_
                    refine lv_topi (fun x_78 ex_78 => ?_)
                    obtain rfl : x_78 = (32 : Int32) := ex_78.trans (by decide)
                    refine lv_iload_n hx hb dX10_way_52 rfl (lv_at hl 3 rfl) ?_
                    refine va_iast hx hb hK hP hD hS 1 0 rfl rfl (vp_in_iff.mpr (by decide)) dX10_way_53 (fun H locs hP hD hS => ?_)
                    obtain ⟨f_79, ef_79⟩ : ∃ g : Nat → Int32, g = upd (fun _ => 0) (32 : Int32).toNatClampNeg z := ⟨_, rfl⟩
                    have hP : va_P G vwCl [(h0, .inr (10, [.int 0, .ref w0, .ref w1, .ref w2, .ref w3, .ref w4, .ref w5, .int 0, .ref w6, .int 0, .int 0, .int 0, .int 0, .int 0, .int 0, .int 0, .int 0, .long 0, .int 0, .int 0, .ref w7, .ref w8, .ref w9, .ref w10, .ref w11, .ref w12, .ref w13, .ref w14, .int 0, .int 0, .int 0, .ref w15, .ref w16, .ref w17, .ref w18, .ref w19, .ref w20, .int 0, .ref w21, .ref w22, .ref w23, .ref w24, .ref w25, .ref w26, .ref w27, .ref w28, .ref w29, .ref w30, .ref w31, .ref w32, .ref w33, .ref w34, .ref w35, .ref w36, .ref w37, .int (-1), .int 0, .int 0, .int 0])), (w27, .inl (cy 0, 36, .inl f_79))] H := ef_79 ▸ hP
                    have hD : va_D A [(h0, .inr (10, [.int 0, .ref w0, .ref w1, .ref w2, .ref w3, .ref w4, .ref w5, .int 0, .ref w6, .int 0, .int 0, .int 0, .int 0, .int 0, .int 0, .int 0, .int 0, .long 0, .int 0, .int 0, .ref w7, .ref w8, .ref w9, .ref w10, .ref w11, .ref w12, .ref w13, .ref w14, .int 0, .int 0, .int 0, .ref w15, .ref w16, .ref w17, .ref w18, .ref w19, .ref w20, .int 0, .ref w21, .ref w22, .ref w23, .ref w24, .ref w25, .ref w26, .ref w27, .ref w28, .ref w29, .ref w30, .ref w31, .ref w32, .ref w33, .ref w34, .ref w35, .ref w36, .ref w37, .int (-1), .int 0, .int 0, .int 0])), (w27, .inl (cy 0, 36, .inl f_79))] := ef_79 ▸ hD
                    refine lv_iconst (v := 1) hx hb dX10_way_54 (by decide) ?_
                    exact gz_iret (p := p) (l := l) (e := e) (s := s) (m := m) (below := below) (meth := meth) (c := c) (H := H) (cells := 0) (slots := 0) (mc := 0) (ms := 0) (cf := (fun (u : Unit) => [])) (post := (fun (r : Int32) (u : Unit) => (r = 1 ∧ (0 ≤ Xx ∧ Xx < 6 ∧ 0 ≤ Xy ∧ Xy < 6 ∧ ¬ Xx = Xy ∧ 0 ≤ Xz ∧ Xz ≤ 9)) ∨ (r = 0 ∧ (¬ (0 ≤ Xx ∧ Xx < 6 ∧ 0 ≤ Xy ∧ Xy < 6 ∧ ¬ Xx = Xy ∧ 0 ≤ Xz ∧ Xz ≤ 9))))) hx hb hr hlocks hK hP hD hS () [] (by decide) (Or.inl (⟨rfl, by omega⟩)) (by decide) rfl (by exact Nat.le_of_ble_eq_true rfl) (by exact Nat.le_of_ble_eq_true rfl) dX10_way_55
                  · skip
                    refine lv_iadd hx hb dX10_way_51 ?_
                    refine lv_topi (fun x_80 ex_80 => ?_)
                    obtain rfl : x_80 = (33 : Int32) := ex_80.trans (by decide)
                    refine lv_iload_n hx hb dX10_way_52 rfl (lv_at hl 3 rfl) ?_
                    refine va_iast hx hb hK hP hD hS 1 0 rfl rfl (vp_in_iff.mpr (by decide)) dX10_way_53 (fun H locs hP hD hS => ?_)
                    obtain ⟨f_81, ef_81⟩ : ∃ g : Nat → Int32, g = upd (fun _ => 0) (33 : Int32).toNatClampNeg z := ⟨_, rfl⟩
                    have hP : va_P G vwCl [(h0, .inr (10, [.int 0, .ref w0, .ref w1, .ref w2, .ref w3, .ref w4, .ref w5, .int 0, .ref w6, .int 0, .int 0, .int 0, .int 0, .int 0, .int 0, .int 0, .int 0, .long 0, .int 0, .int 0, .ref w7, .ref w8, .ref w9, .ref w10, .ref w11, .ref w12, .ref w13, .ref w14, .int 0, .int 0, .int 0, .ref w15, .ref w16, .ref w17, .ref w18, .ref w19, .ref w20, .int 0, .ref w21, .ref w22, .ref w23, .ref w24, .ref w25, .ref w26, .ref w27, .ref w28, .ref w29, .ref w30, .ref w31, .ref w32, .ref w33, .ref w34, .ref w35, .ref w36, .ref w37, .int (-1), .int 0, .int 0, .int 0])), (w27, .inl (cy 0, 36, .inl f_81))] H := ef_81 ▸ hP
                    have hD : va_D A [(h0, .inr (10, [.int 0, .ref w0, .ref w1, .ref w2, .ref w3, .ref w4, .ref w5, .int 0, .ref w6, .int 0, .int 0, .int 0, .int 0, .int 0, .int 0, .int 0, .int 0, .long 0, .int 0, .int 0, .ref w7, .ref w8, .ref w9, .ref w10, .ref w11, .ref w12, .ref w13, .ref w14, .int 0, .int 0, .int 0, .ref w15, .ref w16, .ref w17, .ref w18, .ref w19, .ref w20, .int 0, .ref w21, .ref w22, .ref w23, .ref w24, .ref w25, .ref w26, .ref w27, .ref w28, .ref w29, .ref w30, .ref w31, .ref w32, .ref w33, .ref w34, .ref w35, .ref w36, .ref w37, .int (-1), .int 0, .int 0, .int 0])), (w27, .inl (cy 0, 36, .inl f_81))] := ef_81 ▸ hD
                    refine lv_iconst (v := 1) hx hb dX10_way_54 (by decide) ?_
                    exact gz_iret (p := p) (l := l) (e := e) (s := s) (m := m) (below := below) (meth := meth) (c := c) (H := H) (cells := 0) (slots := 0) (mc := 0) (ms := 0) (cf := (fun (u : Unit) => [])) (post := (fun (r : Int32) (u : Unit) => (r = 1 ∧ (0 ≤ Xx ∧ Xx < 6 ∧ 0 ≤ Xy ∧ Xy < 6 ∧ ¬ Xx = Xy ∧ 0 ≤ Xz ∧ Xz ≤ 9)) ∨ (r = 0 ∧ (¬ (0 ≤ Xx ∧ Xx < 6 ∧ 0 ≤ Xy ∧ Xy < 6 ∧ ¬ Xx = Xy ∧ 0 ≤ Xz ∧ Xz ≤ 9))))) hx hb hr hlocks hK hP hD hS () [] (by decide) (Or.inl (⟨rfl, by omega⟩)) (by decide) rfl (by exact Nat.le_of_ble_eq_true rfl) (by exact Nat.le_of_ble_eq_true rfl) dX10_way_55
                  · skip
                    refine lv_iadd hx hb dX10_way_51 ?_
                    refine lv_topi (fun x_82 ex_82 => ?_)
                    obtain rfl : x_82 = (34 : Int32) := ex_82.trans (by decide)
                    refine lv_iload_n hx hb dX10_way_52 rfl (lv_at hl 3 rfl) ?_
                    refine va_iast hx hb hK hP hD hS 1 0 rfl rfl (vp_in_iff.mpr (by decide)) dX10_way_53 (fun H locs hP hD hS => ?_)
                    obtain ⟨f_83, ef_83⟩ : ∃ g : Nat → Int32, g = upd (fun _ => 0) (34 : Int32).toNatClampNeg z := ⟨_, rfl⟩
                    have hP : va_P G vwCl [(h0, .inr (10, [.int 0, .ref w0, .ref w1, .ref w2, .ref w3, .ref w4, .ref w5, .int 0, .ref w6, .int 0, .int 0, .int 0, .int 0, .int 0, .int 0, .int 0, .int 0, .long 0, .int 0, .int 0, .ref w7, .ref w8, .ref w9, .ref w10, .ref w11, .ref w12, .ref w13, .ref w14, .int 0, .int 0, .int 0, .ref w15, .ref w16, .ref w17, .ref w18, .ref w19, .ref w20, .int 0, .ref w21, .ref w22, .ref w23, .ref w24, .ref w25, .ref w26, .ref w27, .ref w28, .ref w29, .ref w30, .ref w31, .ref w32, .ref w33, .ref w34, .ref w35, .ref w36, .ref w37, .int (-1), .int 0, .int 0, .int 0])), (w27, .inl (cy 0, 36, .inl f_83))] H := ef_83 ▸ hP
                    have hD : va_D A [(h0, .inr (10, [.int 0, .ref w0, .ref w1, .ref w2, .ref w3, .ref w4, .ref w5, .int 0, .ref w6, .int 0, .int 0, .int 0, .int 0, .int 0, .int 0, .int 0, .int 0, .long 0, .int 0, .int 0, .ref w7, .ref w8, .ref w9, .ref w10, .ref w11, .ref w12, .ref w13, .ref w14, .int 0, .int 0, .int 0, .ref w15, .ref w16, .ref w17, .ref w18, .ref w19, .ref w20, .int 0, .ref w21, .ref w22, .ref w23, .ref w24, .ref w25, .ref w26, .ref w27, .ref w28, .ref w29, .ref w30, .ref w31, .ref w32, .ref w33, .ref w34, .ref w35, .ref w36, .ref w37, .int (-1), .int 0, .int 0, .int 0])), (w27, .inl (cy 0, 36, .inl f_83))] := ef_83 ▸ hD
                    refine lv_iconst (v := 1) hx hb dX10_way_54 (by decide) ?_
                    exact gz_iret (p := p) (l := l) (e := e) (s := s) (m := m) (below := below) (meth := meth) (c := c) (H := H) (cells := 0) (slots := 0) (mc := 0) (ms := 0) (cf := (fun (u : Unit) => [])) (post := (fun (r : Int32) (u : Unit) => (r = 1 ∧ (0 ≤ Xx ∧ Xx < 6 ∧ 0 ≤ Xy ∧ Xy < 6 ∧ ¬ Xx = Xy ∧ 0 ≤ Xz ∧ Xz ≤ 9)) ∨ (r = 0 ∧ (¬ (0 ≤ Xx ∧ Xx < 6 ∧ 0 ≤ Xy ∧ Xy < 6 ∧ ¬ Xx = Xy ∧ 0 ≤ Xz ∧ Xz ≤ 9))))) hx hb hr hlocks hK hP hD hS () [] (by decide) (Or.inl (⟨rfl, by omega⟩)) (by decide) rfl (by exact Nat.le_of_ble_eq_true rfl) (by exact Nat.le_of_ble_eq_true rfl) dX10_way_55
                  · skip
                    refine lv_iadd hx hb dX10_way_51 ?_
                    refine lv_topi (fun x_84 ex_84 => ?_)
                    obtain rfl : x_84 = (35 : Int32) := ex_84.trans (by decide)
                    refine lv_iload_n hx hb dX10_way_52 rfl (lv_at hl 3 rfl) ?_
                    refine va_iast hx hb hK hP hD hS 1 0 rfl rfl (vp_in_iff.mpr (by decide)) dX10_way_53 (fun H locs hP hD hS => ?_)
                    obtain ⟨f_85, ef_85⟩ : ∃ g : Nat → Int32, g = upd (fun _ => 0) (35 : Int32).toNatClampNeg z := ⟨_, rfl⟩
                    have hP : va_P G vwCl [(h0, .inr (10, [.int 0, .ref w0, .ref w1, .ref w2, .ref w3, .ref w4, .ref w5, .int 0, .ref w6, .int 0, .int 0, .int 0, .int 0, .int 0, .int 0, .int 0, .int 0, .long 0, .int 0, .int 0, .ref w7, .ref w8, .ref w9, .ref w10, .ref w11, .ref w12, .ref w13, .ref w14, .int 0, .int 0, .int 0, .ref w15, .ref w16, .ref w17, .ref w18, .ref w19, .ref w20, .int 0, .ref w21, .ref w22, .ref w23, .ref w24, .ref w25, .ref w26, .ref w27, .ref w28, .ref w29, .ref w30, .ref w31, .ref w32, .ref w33, .ref w34, .ref w35, .ref w36, .ref w37, .int (-1), .int 0, .int 0, .int 0])), (w27, .inl (cy 0, 36, .inl f_85))] H := ef_85 ▸ hP
                    have hD : va_D A [(h0, .inr (10, [.int 0, .ref w0, .ref w1, .ref w2, .ref w3, .ref w4, .ref w5, .int 0, .ref w6, .int 0, .int 0, .int 0, .int 0, .int 0, .int 0, .int 0, .int 0, .long 0, .int 0, .int 0, .ref w7, .ref w8, .ref w9, .ref w10, .ref w11, .ref w12, .ref w13, .ref w14, .int 0, .int 0, .int 0, .ref w15, .ref w16, .ref w17, .ref w18, .ref w19, .ref w20, .int 0, .ref w21, .ref w22, .ref w23, .ref w24, .ref w25, .ref w26, .ref w27, .ref w28, .ref w29, .ref w30, .ref w31, .ref w32, .ref w33, .ref w34, .ref w35, .ref w36, .ref w37, .int (-1), .int 0, .int 0, .int 0])), (w27, .inl (cy 0, 36, .inl f_85))] := ef_85 ▸ hD
                    refine lv_iconst (v := 1) hx hb dX10_way_54 (by decide) ?_
                    exact gz_iret (p := p) (l := l) (e := e) (s := s) (m := m) (below := below) (meth := meth) (c := c) (H := H) (cells := 0) (slots := 0) (mc := 0) (ms := 0) (cf := (fun (u : Unit) => [])) (post := (fun (r : Int32) (u : Unit) => (r = 1 ∧ (0 ≤ Xx ∧ Xx < 6 ∧ 0 ≤ Xy ∧ Xy < 6 ∧ ¬ Xx = Xy ∧ 0 ≤ Xz ∧ Xz ≤ 9)) ∨ (r = 0 ∧ (¬ (0 ≤ Xx ∧ Xx < 6 ∧ 0 ≤ Xy ∧ Xy < 6 ∧ ¬ Xx = Xy ∧ 0 ≤ Xz ∧ Xz ≤ 9))))) hx hb hr hlocks hK hP hD hS () [] (by decide) (Or.inl (⟨rfl, by omega⟩)) (by decide) rfl (by exact Nat.le_of_ble_eq_true rfl) (by exact Nat.le_of_ble_eq_true rfl) dX10_way_55
              · have ic_7 := gz_nle (rfl : z.toInt = z.toInt) (by decide : (9 : Int32).toInt = 9) c_7
                refine lv_iconst (v := 0) hx hb dX10_way_40 (by decide) ?_
                exact gz_iret (p := p) (l := l) (e := e) (s := s) (m := m) (below := below) (meth := meth) (c := c) (H := H) (cells := 0) (slots := 0) (mc := 0) (ms := 0) (cf := (fun (u : Unit) => [])) (post := (fun (r : Int32) (u : Unit) => (r = 1 ∧ (0 ≤ Xx ∧ Xx < 6 ∧ 0 ≤ Xy ∧ Xy < 6 ∧ ¬ Xx = Xy ∧ 0 ≤ Xz ∧ Xz ≤ 9)) ∨ (r = 0 ∧ (¬ (0 ≤ Xx ∧ Xx < 6 ∧ 0 ≤ Xy ∧ Xy < 6 ∧ ¬ Xx = Xy ∧ 0 ≤ Xz ∧ Xz ≤ 9))))) hx hb hr hlocks hK hP hD hS () [] (by decide) (Or.inr (⟨rfl, by omega⟩)) (by decide) rfl (by exact Nat.le_of_ble_eq_true rfl) (by exact Nat.le_of_ble_eq_true rfl) dX10_way_41

set_option maxHeartbeats 4000000 in
set_option maxRecDepth 100000 in
/-- WellCourtModel.plan -/
theorem m_plan (l : Launch) (G : va_G) (cy : Nat → ClassId) (sz : Nat) (h0 : Nat) (w0 : Nat) (w1 : Nat) (w2 : Nat) (w3 : Nat) (w4 : Nat) (w5 : Nat) (w6 : Nat) (w7 : Nat) (w8 : Nat) (w9 : Nat) (w10 : Nat) (w11 : Nat) (w12 : Nat) (w13 : Nat) (w14 : Nat) (w15 : Nat) (w16 : Nat) (w17 : Nat) (w18 : Nat) (w19 : Nat) (w20 : Nat) (w21 : Nat) (w22 : Nat) (w23 : Nat) (w24 : Nat) (w25 : Nat) (w26 : Nat) (w27 : Nat) (w28 : Nat) (w29 : Nat) (w30 : Nat) (w31 : Nat) (w32 : Nat) (w33 : Nat) (w34 : Nat) (w35 : Nat) (w36 : Nat) (w37 : Nat) (x : Int32) (y : Int32) (Xx : Int) (Xy : Int) (kx : x.toInt = Xx) (ky : y.toInt = Xy)  : gMi l yX10_plan cX10_plan 8 (some .int) ({ frames := 0, cells := 0, slots := 0, locals := 0 }) G cy sz [.ref h0, .int x, .int y] [(h0, .inr (10, [.int 0, .ref w0, .ref w1, .ref w2, .ref w3, .ref w4, .ref w5, .int 0, .ref w6, .int 0, .int 0, .int 0, .int 0, .int 0, .int 0, .int 0, .int 0, .long 0, .int 0, .int 0, .ref w7, .ref w8, .ref w9, .ref w10, .ref w11, .ref w12, .ref w13, .ref w14, .int 0, .int 0, .int 0, .ref w15, .ref w16, .ref w17, .ref w18, .ref w19, .ref w20, .int 0, .ref w21, .ref w22, .ref w23, .ref w24, .ref w25, .ref w26, .ref w27, .ref w28, .ref w29, .ref w30, .ref w31, .ref w32, .ref w33, .ref w34, .ref w35, .ref w36, .ref w37, .int (-1), .int 0, .int 0, .int 0])), (w21, .inl (cy 2, 4, .inl (fun _ => 0)))] (fun (r : Int32) (u : Int32) => (r = 0 ∧ (u.toInt = 1) ∧ (¬ (1 ≤ Xy ∧ Xy ≤ 50000))) ∨ (r = (-1) ∧ (u.toInt = 0) ∧ (1 ≤ Xy ∧ Xy ≤ 50000))) (fun (u : Int32) => [(h0, .inr (10, [.int u, .ref w0, .ref w1, .ref w2, .ref w3, .ref w4, .ref w5, .int 0, .ref w6, .int 0, .int 0, .int 0, .int 0, .int 0, .int 0, .int 0, .int 0, .long 0, .int 0, .int 0, .ref w7, .ref w8, .ref w9, .ref w10, .ref w11, .ref w12, .ref w13, .ref w14, .int 0, .int 0, .int 0, .ref w15, .ref w16, .ref w17, .ref w18, .ref w19, .ref w20, .int 0, .ref w21, .ref w22, .ref w23, .ref w24, .ref w25, .ref w26, .ref w27, .ref w28, .ref w29, .ref w30, .ref w31, .ref w32, .ref w33, .ref w34, .ref w35, .ref w36, .ref w37, .int (-1), .int 0, .int 0, .int 0]))]) := by
  refine gz_start (fun A => gQi G cy _ _ A) (by decide) (Nat.le_of_ble_eq_true rfl) ?_
  intro p e s m below meth c A ls H hx hb hr hml hlocks hin hown hts hK hov hsz hP hD hS hA hl
  have hl : lv_has ls 8 [(0, .ref h0), (1, .int x), (2, .int y)] := hl
  refine lv_aload_n hx hb dX10_plan_0 rfl (lv_at hl 0 rfl) ?_
  refine lv_iload_n hx hb dX10_plan_1 rfl (lv_at hl 2 rfl) ?_
  refine lv_iconst (v := 1) hx hb dX10_plan_2 (by decide) ?_
  refine lv_icmp_lt (tgt := 13) hx hb dX10_plan_3 (by decide) (fun c_1 => ?_) (fun c_1 => ?_)
  · have ic_1 := gz_lt (rfl : y.toInt = y.toInt) (by decide : (1 : Int32).toInt = 1) c_1
    refine lv_iconst (v := 1) hx hb dX10_plan_13 (by decide) ?_
    refine lv_goto (tgt := 18) hx hb dX10_plan_14 (by decide) ?_
    refine va_put (ci := 10) (v := .int 1) (ty := .int) (C := RX10) (T := TX10) (N := 59) hx hb hts inX10 tyX10 tyX10_ok nmX10 hown hK hP hD hS 0 rfl rfl 0 (by decide) (hts _ gm_901) (fun _ h9 => h9) rfl (by decide +kernel) rfl rfl (Nat.le_of_ble_eq_true rfl) dX10_plan_18 (fun H locs hP hD hS => ?_)
    have hP : va_P G vwCl [(h0, .inr (10, [.int 1, .ref w0, .ref w1, .ref w2, .ref w3, .ref w4, .ref w5, .int 0, .ref w6, .int 0, .int 0, .int 0, .int 0, .int 0, .int 0, .int 0, .int 0, .long 0, .int 0, .int 0, .ref w7, .ref w8, .ref w9, .ref w10, .ref w11, .ref w12, .ref w13, .ref w14, .int 0, .int 0, .int 0, .ref w15, .ref w16, .ref w17, .ref w18, .ref w19, .ref w20, .int 0, .ref w21, .ref w22, .ref w23, .ref w24, .ref w25, .ref w26, .ref w27, .ref w28, .ref w29, .ref w30, .ref w31, .ref w32, .ref w33, .ref w34, .ref w35, .ref w36, .ref w37, .int (-1), .int 0, .int 0, .int 0])), (w21, .inl (cy 2, 4, .inl (fun _ => 0)))] H := hP
    have hD : va_D A [(h0, .inr (10, [.int 1, .ref w0, .ref w1, .ref w2, .ref w3, .ref w4, .ref w5, .int 0, .ref w6, .int 0, .int 0, .int 0, .int 0, .int 0, .int 0, .int 0, .int 0, .long 0, .int 0, .int 0, .ref w7, .ref w8, .ref w9, .ref w10, .ref w11, .ref w12, .ref w13, .ref w14, .int 0, .int 0, .int 0, .ref w15, .ref w16, .ref w17, .ref w18, .ref w19, .ref w20, .int 0, .ref w21, .ref w22, .ref w23, .ref w24, .ref w25, .ref w26, .ref w27, .ref w28, .ref w29, .ref w30, .ref w31, .ref w32, .ref w33, .ref w34, .ref w35, .ref w36, .ref w37, .int (-1), .int 0, .int 0, .int 0])), (w21, .inl (cy 2, 4, .inl (fun _ => 0)))] := hD
    refine lv_aload_n hx hb dX10_plan_21 rfl (lv_at hl 0 rfl) ?_
    refine va_get (ci := 10) (v := .int 1) (C := RX10) (T := TX10) (N := 59) hx hb hts inX10 hown hK hP 0 rfl rfl 0 (by decide) (hts _ gm_901) (fun _ h9 => h9) rfl dX10_plan_22 ?_
    refine lv_iconst (v := 1) hx hb dX10_plan_25 (by decide) ?_
    refine lv_icmp_ne (tgt := 31) hx hb dX10_plan_26 (by decide) (fun h9 => absurd (by decide) h9) (fun _ => ?_)
    refine lv_iconst (v := 0) hx hb dX10_plan_29 (by decide) ?_
    exact gz_iret (p := p) (l := l) (e := e) (s := s) (m := m) (below := below) (meth := meth) (c := c) (H := H) (cells := 0) (slots := 0) (mc := 0) (ms := 0) (cf := (fun (u : Int32) => [(h0, .inr (10, [.int u, .ref w0, .ref w1, .ref w2, .ref w3, .ref w4, .ref w5, .int 0, .ref w6, .int 0, .int 0, .int 0, .int 0, .int 0, .int 0, .int 0, .int 0, .long 0, .int 0, .int 0, .ref w7, .ref w8, .ref w9, .ref w10, .ref w11, .ref w12, .ref w13, .ref w14, .int 0, .int 0, .int 0, .ref w15, .ref w16, .ref w17, .ref w18, .ref w19, .ref w20, .int 0, .ref w21, .ref w22, .ref w23, .ref w24, .ref w25, .ref w26, .ref w27, .ref w28, .ref w29, .ref w30, .ref w31, .ref w32, .ref w33, .ref w34, .ref w35, .ref w36, .ref w37, .int (-1), .int 0, .int 0, .int 0]))])) (post := (fun (r : Int32) (u : Int32) => (r = 0 ∧ (u.toInt = 1) ∧ (¬ (1 ≤ Xy ∧ Xy ≤ 50000))) ∨ (r = (-1) ∧ (u.toInt = 0) ∧ (1 ≤ Xy ∧ Xy ≤ 50000)))) hx hb hr hlocks hK hP hD hS 1 [0] rfl (Or.inl ⟨rfl, by decide, by omega⟩) (by decide) rfl (by exact Nat.le_of_ble_eq_true rfl) (by exact Nat.le_of_ble_eq_true rfl) dX10_plan_30
  · have ic_1 := gz_nlt (rfl : y.toInt = y.toInt) (by decide : (1 : Int32).toInt = 1) c_1
    refine lv_iload_n hx hb dX10_plan_6 rfl (lv_at hl 2 rfl) ?_
    refine lv_ldcw (v := 50000) hx hb hown (hts _ gm_1276) dX10_plan_7 ?_
    refine lv_icmp_le (tgt := 17) hx hb dX10_plan_10 (by decide) (fun c_2 => ?_) (fun c_2 => ?_)
    · have ic_2 := gz_le (rfl : y.toInt = y.toInt) (by decide : (50000 : Int32).toInt = 50000) c_2
      refine lv_iconst (v := 0) hx hb dX10_plan_17 (by decide) ?_
      refine va_put (ci := 10) (v := .int 0) (ty := .int) (C := RX10) (T := TX10) (N := 59) hx hb hts inX10 tyX10 tyX10_ok nmX10 hown hK hP hD hS 0 rfl rfl 0 (by decide) (hts _ gm_901) (fun _ h9 => h9) rfl (by decide +kernel) rfl rfl (Nat.le_of_ble_eq_true rfl) dX10_plan_18 (fun H locs hP hD hS => ?_)
      have hP : va_P G vwCl [(h0, .inr (10, [.int 0, .ref w0, .ref w1, .ref w2, .ref w3, .ref w4, .ref w5, .int 0, .ref w6, .int 0, .int 0, .int 0, .int 0, .int 0, .int 0, .int 0, .int 0, .long 0, .int 0, .int 0, .ref w7, .ref w8, .ref w9, .ref w10, .ref w11, .ref w12, .ref w13, .ref w14, .int 0, .int 0, .int 0, .ref w15, .ref w16, .ref w17, .ref w18, .ref w19, .ref w20, .int 0, .ref w21, .ref w22, .ref w23, .ref w24, .ref w25, .ref w26, .ref w27, .ref w28, .ref w29, .ref w30, .ref w31, .ref w32, .ref w33, .ref w34, .ref w35, .ref w36, .ref w37, .int (-1), .int 0, .int 0, .int 0])), (w21, .inl (cy 2, 4, .inl (fun _ => 0)))] H := hP
      have hD : va_D A [(h0, .inr (10, [.int 0, .ref w0, .ref w1, .ref w2, .ref w3, .ref w4, .ref w5, .int 0, .ref w6, .int 0, .int 0, .int 0, .int 0, .int 0, .int 0, .int 0, .int 0, .long 0, .int 0, .int 0, .ref w7, .ref w8, .ref w9, .ref w10, .ref w11, .ref w12, .ref w13, .ref w14, .int 0, .int 0, .int 0, .ref w15, .ref w16, .ref w17, .ref w18, .ref w19, .ref w20, .int 0, .ref w21, .ref w22, .ref w23, .ref w24, .ref w25, .ref w26, .ref w27, .ref w28, .ref w29, .ref w30, .ref w31, .ref w32, .ref w33, .ref w34, .ref w35, .ref w36, .ref w37, .int (-1), .int 0, .int 0, .int 0])), (w21, .inl (cy 2, 4, .inl (fun _ => 0)))] := hD
      refine lv_aload_n hx hb dX10_plan_21 rfl (lv_at hl 0 rfl) ?_
      refine va_get (ci := 10) (v := .int 0) (C := RX10) (T := TX10) (N := 59) hx hb hts inX10 hown hK hP 0 rfl rfl 0 (by decide) (hts _ gm_901) (fun _ h9 => h9) rfl dX10_plan_22 ?_
      refine lv_iconst (v := 1) hx hb dX10_plan_25 (by decide) ?_
      refine lv_icmp_ne (tgt := 31) hx hb dX10_plan_26 (by decide) (fun _ => ?_) (fun h9 => absurd h9 (by decide))
      refine lv_aload_n hx hb dX10_plan_31 rfl (lv_at hl 0 rfl) ?_
      refine va_get (ci := 10) (v := .ref w21) (C := RX10) (T := TX10) (N := 59) hx hb hts inX10 hown hK hP 0 rfl rfl 38 (by decide) (hts _ gm_939) (fun _ h9 => h9) rfl dX10_plan_32 ?_
      refine lv_iconst (v := 0) hx hb dX10_plan_35 (by decide) ?_
      refine va_zald hx hb hK hP 1 2 rfl rfl (vp_in_iff.mpr (by decide)) dX10_plan_36 ?_
      refine lv_topi (fun x_3 ex_3 => ?_)
      obtain rfl : x_3 = (0 : Int32) := ex_3
      refine lv_if_ne (tgt := 67) hx hb dX10_plan_37 (by decide) (fun h9 => absurd (by decide) h9) (fun _ => ?_)
      refine lv_aload_n hx hb dX10_plan_40 rfl (lv_at hl 0 rfl) ?_
      refine va_get (ci := 10) (v := .ref w21) (C := RX10) (T := TX10) (N := 59) hx hb hts inX10 hown hK hP 0 rfl rfl 38 (by decide) (hts _ gm_939) (fun _ h9 => h9) rfl dX10_plan_41 ?_
      refine lv_iconst (v := 1) hx hb dX10_plan_44 (by decide) ?_
      refine va_zald hx hb hK hP 1 2 rfl rfl (vp_in_iff.mpr (by decide)) dX10_plan_45 ?_
      refine lv_topi (fun x_4 ex_4 => ?_)
      obtain rfl : x_4 = (0 : Int32) := ex_4
      refine lv_if_ne (tgt := 67) hx hb dX10_plan_46 (by decide) (fun h9 => absurd (by decide) h9) (fun _ => ?_)
      refine lv_aload_n hx hb dX10_plan_49 rfl (lv_at hl 0 rfl) ?_
      refine va_get (ci := 10) (v := .ref w21) (C := RX10) (T := TX10) (N := 59) hx hb hts inX10 hown hK hP 0 rfl rfl 38 (by decide) (hts _ gm_939) (fun _ h9 => h9) rfl dX10_plan_50 ?_
      refine lv_iconst (v := 2) hx hb dX10_plan_53 (by decide) ?_
      refine va_zald hx hb hK hP 1 2 rfl rfl (vp_in_iff.mpr (by decide)) dX10_plan_54 ?_
      refine lv_topi (fun x_5 ex_5 => ?_)
      obtain rfl : x_5 = (0 : Int32) := ex_5
      refine lv_if_ne (tgt := 67) hx hb dX10_plan_55 (by decide) (fun h9 => absurd (by decide) h9) (fun _ => ?_)
      refine lv_aload_n hx hb dX10_plan_58 rfl (lv_at hl 0 rfl) ?_
      refine va_get (ci := 10) (v := .ref w21) (C := RX10) (T := TX10) (N := 59) hx hb hts inX10 hown hK hP 0 rfl rfl 38 (by decide) (hts _ gm_939) (fun _ h9 => h9) rfl dX10_plan_59 ?_
      refine lv_iconst (v := 3) hx hb dX10_plan_62 (by decide) ?_
      refine va_zald hx hb hK hP 1 2 rfl rfl (vp_in_iff.mpr (by decide)) dX10_plan_63 ?_
      refine lv_topi (fun x_6 ex_6 => ?_)
      obtain rfl : x_6 = (0 : Int32) := ex_6
      refine lv_if_eq (tgt := 90) hx hb dX10_plan_64 (by decide) (fun _ => ?_) (fun h9 => absurd (by decide) h9)
      refine lv_iconst (v := (-1)) hx hb dX10_plan_90 (by decide) ?_
      exact gz_iret (p := p) (l := l) (e := e) (s := s) (m := m) (below := below) (meth := meth) (c := c) (H := H) (cells := 0) (slots := 0) (mc := 0) (ms := 0) (cf := (fun (u : Int32) => [(h0, .inr (10, [.int u, .ref w0, .ref w1, .ref w2, .ref w3, .ref w4, .ref w5, .int 0, .ref w6, .int 0, .int 0, .int 0, .int 0, .int 0, .int 0, .int 0, .int 0, .long 0, .int 0, .int 0, .ref w7, .ref w8, .ref w9, .ref w10, .ref w11, .ref w12, .ref w13, .ref w14, .int 0, .int 0, .int 0, .ref w15, .ref w16, .ref w17, .ref w18, .ref w19, .ref w20, .int 0, .ref w21, .ref w22, .ref w23, .ref w24, .ref w25, .ref w26, .ref w27, .ref w28, .ref w29, .ref w30, .ref w31, .ref w32, .ref w33, .ref w34, .ref w35, .ref w36, .ref w37, .int (-1), .int 0, .int 0, .int 0]))])) (post := (fun (r : Int32) (u : Int32) => (r = 0 ∧ (u.toInt = 1) ∧ (¬ (1 ≤ Xy ∧ Xy ≤ 50000))) ∨ (r = (-1) ∧ (u.toInt = 0) ∧ (1 ≤ Xy ∧ Xy ≤ 50000)))) hx hb hr hlocks hK hP hD hS 0 [0] rfl (Or.inr ⟨rfl, by decide, by omega⟩) (by decide) rfl (by exact Nat.le_of_ble_eq_true rfl) (by exact Nat.le_of_ble_eq_true rfl) dX10_plan_91
    · have ic_2 := gz_nle (rfl : y.toInt = y.toInt) (by decide : (50000 : Int32).toInt = 50000) c_2
      refine lv_iconst (v := 1) hx hb dX10_plan_13 (by decide) ?_
      refine lv_goto (tgt := 18) hx hb dX10_plan_14 (by decide) ?_
      refine va_put (ci := 10) (v := .int 1) (ty := .int) (C := RX10) (T := TX10) (N := 59) hx hb hts inX10 tyX10 tyX10_ok nmX10 hown hK hP hD hS 0 rfl rfl 0 (by decide) (hts _ gm_901) (fun _ h9 => h9) rfl (by decide +kernel) rfl rfl (Nat.le_of_ble_eq_true rfl) dX10_plan_18 (fun H locs hP hD hS => ?_)
      have hP : va_P G vwCl [(h0, .inr (10, [.int 1, .ref w0, .ref w1, .ref w2, .ref w3, .ref w4, .ref w5, .int 0, .ref w6, .int 0, .int 0, .int 0, .int 0, .int 0, .int 0, .int 0, .int 0, .long 0, .int 0, .int 0, .ref w7, .ref w8, .ref w9, .ref w10, .ref w11, .ref w12, .ref w13, .ref w14, .int 0, .int 0, .int 0, .ref w15, .ref w16, .ref w17, .ref w18, .ref w19, .ref w20, .int 0, .ref w21, .ref w22, .ref w23, .ref w24, .ref w25, .ref w26, .ref w27, .ref w28, .ref w29, .ref w30, .ref w31, .ref w32, .ref w33, .ref w34, .ref w35, .ref w36, .ref w37, .int (-1), .int 0, .int 0, .int 0])), (w21, .inl (cy 2, 4, .inl (fun _ => 0)))] H := hP
      have hD : va_D A [(h0, .inr (10, [.int 1, .ref w0, .ref w1, .ref w2, .ref w3, .ref w4, .ref w5, .int 0, .ref w6, .int 0, .int 0, .int 0, .int 0, .int 0, .int 0, .int 0, .int 0, .long 0, .int 0, .int 0, .ref w7, .ref w8, .ref w9, .ref w10, .ref w11, .ref w12, .ref w13, .ref w14, .int 0, .int 0, .int 0, .ref w15, .ref w16, .ref w17, .ref w18, .ref w19, .ref w20, .int 0, .ref w21, .ref w22, .ref w23, .ref w24, .ref w25, .ref w26, .ref w27, .ref w28, .ref w29, .ref w30, .ref w31, .ref w32, .ref w33, .ref w34, .ref w35, .ref w36, .ref w37, .int (-1), .int 0, .int 0, .int 0])), (w21, .inl (cy 2, 4, .inl (fun _ => 0)))] := hD
      refine lv_aload_n hx hb dX10_plan_21 rfl (lv_at hl 0 rfl) ?_
      refine va_get (ci := 10) (v := .int 1) (C := RX10) (T := TX10) (N := 59) hx hb hts inX10 hown hK hP 0 rfl rfl 0 (by decide) (hts _ gm_901) (fun _ h9 => h9) rfl dX10_plan_22 ?_
      refine lv_iconst (v := 1) hx hb dX10_plan_25 (by decide) ?_
      refine lv_icmp_ne (tgt := 31) hx hb dX10_plan_26 (by decide) (fun h9 => absurd (by decide) h9) (fun _ => ?_)
      refine lv_iconst (v := 0) hx hb dX10_plan_29 (by decide) ?_
      exact gz_iret (p := p) (l := l) (e := e) (s := s) (m := m) (below := below) (meth := meth) (c := c) (H := H) (cells := 0) (slots := 0) (mc := 0) (ms := 0) (cf := (fun (u : Int32) => [(h0, .inr (10, [.int u, .ref w0, .ref w1, .ref w2, .ref w3, .ref w4, .ref w5, .int 0, .ref w6, .int 0, .int 0, .int 0, .int 0, .int 0, .int 0, .int 0, .int 0, .long 0, .int 0, .int 0, .ref w7, .ref w8, .ref w9, .ref w10, .ref w11, .ref w12, .ref w13, .ref w14, .int 0, .int 0, .int 0, .ref w15, .ref w16, .ref w17, .ref w18, .ref w19, .ref w20, .int 0, .ref w21, .ref w22, .ref w23, .ref w24, .ref w25, .ref w26, .ref w27, .ref w28, .ref w29, .ref w30, .ref w31, .ref w32, .ref w33, .ref w34, .ref w35, .ref w36, .ref w37, .int (-1), .int 0, .int 0, .int 0]))])) (post := (fun (r : Int32) (u : Int32) => (r = 0 ∧ (u.toInt = 1) ∧ (¬ (1 ≤ Xy ∧ Xy ≤ 50000))) ∨ (r = (-1) ∧ (u.toInt = 0) ∧ (1 ≤ Xy ∧ Xy ≤ 50000)))) hx hb hr hlocks hK hP hD hS 1 [0] rfl (Or.inl ⟨rfl, by decide, by omega⟩) (by decide) rfl (by exact Nat.le_of_ble_eq_true rfl) (by exact Nat.le_of_ble_eq_true rfl) dX10_plan_30

set_option maxHeartbeats 4000000 in
set_option maxRecDepth 100000 in
/-- WellCourtModel.step -/
theorem m_step (l : Launch) (G : va_G) (cy : Nat → ClassId) (sz : Nat) (h0 : Nat) (w0 : Nat) (w1 : Nat) (w2 : Nat) (w3 : Nat) (w4 : Nat) (w5 : Nat) (w6 : Nat) (w7 : Nat) (w8 : Nat) (w9 : Nat) (w10 : Nat) (w11 : Nat) (w12 : Nat) (w13 : Nat) (w14 : Nat) (w15 : Nat) (w16 : Nat) (w17 : Nat) (w18 : Nat) (w19 : Nat) (w20 : Nat) (w21 : Nat) (w22 : Nat) (w23 : Nat) (w24 : Nat) (w25 : Nat) (w26 : Nat) (w27 : Nat) (w28 : Nat) (w29 : Nat) (w30 : Nat) (w31 : Nat) (w32 : Nat) (w33 : Nat) (w34 : Nat) (w35 : Nat) (w36 : Nat) (w37 : Nat) (x : Int32) (y : Int32) (Xx : Int) (Xy : Int) (kx : x.toInt = Xx) (ky : y.toInt = Xy)  : gMi l yX10_step cX10_step 3 (some .int) ({ frames := 0, cells := 0, slots := 0, locals := 0 }) G cy sz [.ref h0, .int x, .int y] [(h0, .inr (10, [.int 0, .ref w0, .ref w1, .ref w2, .ref w3, .ref w4, .ref w5, .int 0, .ref w6, .int 0, .int 0, .int 0, .int 0, .int 0, .int 0, .int 0, .int 0, .long 0, .int 0, .int 0, .ref w7, .ref w8, .ref w9, .ref w10, .ref w11, .ref w12, .ref w13, .ref w14, .int 0, .int 0, .int 0, .ref w15, .ref w16, .ref w17, .ref w18, .ref w19, .ref w20, .int 0, .ref w21, .ref w22, .ref w23, .ref w24, .ref w25, .ref w26, .ref w27, .ref w28, .ref w29, .ref w30, .ref w31, .ref w32, .ref w33, .ref w34, .ref w35, .ref w36, .ref w37, .int (-1), .int 0, .int 0, .int 0]))] (fun (r : Int32) (u : Unit) => r = (-1)) (fun (u : Unit) => []) := by
  refine gz_start (fun A => gQi G cy _ _ A) (by decide) (Nat.le_of_ble_eq_true rfl) ?_
  intro p e s m below meth c A ls H hx hb hr hml hlocks hin hown hts hK hov hsz hP hD hS hA hl
  have hl : lv_has ls 3 [(0, .ref h0), (1, .int x), (2, .int y)] := hl
  refine lv_aload_n hx hb dX10_step_0 rfl (lv_at hl 0 rfl) ?_
  refine lv_iconst (v := 0) hx hb dX10_step_1 (by decide) ?_
  refine va_put (ci := 10) (v := .int 0) (ty := .int) (C := RX10) (T := TX10) (N := 59) hx hb hts inX10 tyX10 tyX10_ok nmX10 hown hK hP hD hS 0 rfl rfl 0 (by decide) (hts _ gm_901) (fun _ h9 => h9) rfl (by decide +kernel) rfl rfl (Nat.le_of_ble_eq_true rfl) dX10_step_2 (fun H locs hP hD hS => ?_)
  have hP : va_P G vwCl [(h0, .inr (10, [.int 0, .ref w0, .ref w1, .ref w2, .ref w3, .ref w4, .ref w5, .int 0, .ref w6, .int 0, .int 0, .int 0, .int 0, .int 0, .int 0, .int 0, .int 0, .long 0, .int 0, .int 0, .ref w7, .ref w8, .ref w9, .ref w10, .ref w11, .ref w12, .ref w13, .ref w14, .int 0, .int 0, .int 0, .ref w15, .ref w16, .ref w17, .ref w18, .ref w19, .ref w20, .int 0, .ref w21, .ref w22, .ref w23, .ref w24, .ref w25, .ref w26, .ref w27, .ref w28, .ref w29, .ref w30, .ref w31, .ref w32, .ref w33, .ref w34, .ref w35, .ref w36, .ref w37, .int (-1), .int 0, .int 0, .int 0]))] H := hP
  have hD : va_D A [(h0, .inr (10, [.int 0, .ref w0, .ref w1, .ref w2, .ref w3, .ref w4, .ref w5, .int 0, .ref w6, .int 0, .int 0, .int 0, .int 0, .int 0, .int 0, .int 0, .int 0, .long 0, .int 0, .int 0, .ref w7, .ref w8, .ref w9, .ref w10, .ref w11, .ref w12, .ref w13, .ref w14, .int 0, .int 0, .int 0, .ref w15, .ref w16, .ref w17, .ref w18, .ref w19, .ref w20, .int 0, .ref w21, .ref w22, .ref w23, .ref w24, .ref w25, .ref w26, .ref w27, .ref w28, .ref w29, .ref w30, .ref w31, .ref w32, .ref w33, .ref w34, .ref w35, .ref w36, .ref w37, .int (-1), .int 0, .int 0, .int 0]))] := hD
  refine lv_iload_n hx hb dX10_step_5 rfl (lv_at hl 1 rfl) ?_
  refine lv_if_lt (tgt := 51) hx hb dX10_step_6 (by decide) (fun c_1 => ?_) (fun c_1 => ?_)
  · have ic_1 := gz_lt (rfl : x.toInt = x.toInt) (by decide : (0 : Int32).toInt = 0) c_1
    refine lv_iconst (v := (-1)) hx hb dX10_step_51 (by decide) ?_
    exact gz_iret (p := p) (l := l) (e := e) (s := s) (m := m) (below := below) (meth := meth) (c := c) (H := H) (cells := 0) (slots := 0) (mc := 0) (ms := 0) (cf := (fun (u : Unit) => [])) (post := (fun (r : Int32) (u : Unit) => r = (-1))) hx hb hr hlocks hK hP hD hS () [] rfl rfl (by decide) rfl (by exact Nat.le_of_ble_eq_true rfl) (by exact Nat.le_of_ble_eq_true rfl) dX10_step_52
  · have ic_1 := gz_nlt (rfl : x.toInt = x.toInt) (by decide : (0 : Int32).toInt = 0) c_1
    refine lv_iload_n hx hb dX10_step_9 rfl (lv_at hl 1 rfl) ?_
    refine lv_iconst (v := 4) hx hb dX10_step_10 (by decide) ?_
    refine lv_icmp_ge (tgt := 51) hx hb dX10_step_11 (by decide) (fun c_2 => ?_) (fun c_2 => ?_)
    · have ic_2 := gz_le (by decide : (4 : Int32).toInt = 4) (rfl : x.toInt = x.toInt) c_2
      refine lv_iconst (v := (-1)) hx hb dX10_step_51 (by decide) ?_
      exact gz_iret (p := p) (l := l) (e := e) (s := s) (m := m) (below := below) (meth := meth) (c := c) (H := H) (cells := 0) (slots := 0) (mc := 0) (ms := 0) (cf := (fun (u : Unit) => [])) (post := (fun (r : Int32) (u : Unit) => r = (-1))) hx hb hr hlocks hK hP hD hS () [] rfl rfl (by decide) rfl (by exact Nat.le_of_ble_eq_true rfl) (by exact Nat.le_of_ble_eq_true rfl) dX10_step_52
    · have ic_2 := gz_nle (by decide : (4 : Int32).toInt = 4) (rfl : x.toInt = x.toInt) c_2
      refine lv_aload_n hx hb dX10_step_14 rfl (lv_at hl 0 rfl) ?_
      refine va_get (ci := 10) (v := .int (-1)) (C := RX10) (T := TX10) (N := 59) hx hb hts inX10 hown hK hP 0 rfl rfl 55 (by decide) (hts _ gm_956) (fun _ h9 => h9) rfl dX10_step_15 ?_
      refine lv_if_lt (tgt := 51) hx hb dX10_step_18 (by decide) (fun _ => ?_) (fun h9 => absurd (by decide) h9)
      refine lv_iconst (v := (-1)) hx hb dX10_step_51 (by decide) ?_
      exact gz_iret (p := p) (l := l) (e := e) (s := s) (m := m) (below := below) (meth := meth) (c := c) (H := H) (cells := 0) (slots := 0) (mc := 0) (ms := 0) (cf := (fun (u : Unit) => [])) (post := (fun (r : Int32) (u : Unit) => r = (-1))) hx hb hr hlocks hK hP hD hS () [] rfl rfl (by decide) rfl (by exact Nat.le_of_ble_eq_true rfl) (by exact Nat.le_of_ble_eq_true rfl) dX10_step_52

set_option maxHeartbeats 4000000 in
set_option maxRecDepth 100000 in
/-- WellCourtModel.far -/
theorem m_far (l : Launch) (G : va_G) (cy : Nat → ClassId) (sz : Nat) (h0 : Nat) (w0 : Nat) (w1 : Nat) (w2 : Nat) (w3 : Nat) (w4 : Nat) (w5 : Nat) (w6 : Nat) (w7 : Nat) (w8 : Nat) (w9 : Nat) (w10 : Nat) (w11 : Nat) (w12 : Nat) (w13 : Nat) (w14 : Nat) (w15 : Nat) (w16 : Nat) (w17 : Nat) (w18 : Nat) (w19 : Nat) (w20 : Nat) (w21 : Nat) (w22 : Nat) (w23 : Nat) (w24 : Nat) (w25 : Nat) (w26 : Nat) (w27 : Nat) (w28 : Nat) (w29 : Nat) (w30 : Nat) (w31 : Nat) (w32 : Nat) (w33 : Nat) (w34 : Nat) (w35 : Nat) (w36 : Nat) (w37 : Nat)   : gMi l yX10_far cX10_far 1 (some .int) ({ frames := 0, cells := 0, slots := 0, locals := 0 }) G cy sz [.ref h0] [(h0, .inr (10, [.int 0, .ref w0, .ref w1, .ref w2, .ref w3, .ref w4, .ref w5, .int 0, .ref w6, .int 0, .int 0, .int 0, .int 0, .int 0, .int 0, .int 0, .int 0, .long 0, .int 0, .int 0, .ref w7, .ref w8, .ref w9, .ref w10, .ref w11, .ref w12, .ref w13, .ref w14, .int 0, .int 0, .int 0, .ref w15, .ref w16, .ref w17, .ref w18, .ref w19, .ref w20, .int 0, .ref w21, .ref w22, .ref w23, .ref w24, .ref w25, .ref w26, .ref w27, .ref w28, .ref w29, .ref w30, .ref w31, .ref w32, .ref w33, .ref w34, .ref w35, .ref w36, .ref w37, .int (-1), .int 0, .int 0, .int 0]))] (fun (r : Int32) (u : Unit) => r = 0) (fun (u : Unit) => []) := by
  refine gz_start (fun A => gQi G cy _ _ A) (by decide) (Nat.le_of_ble_eq_true rfl) ?_
  intro p e s m below meth c A ls H hx hb hr hml hlocks hin hown hts hK hov hsz hP hD hS hA hl
  have hl : lv_has ls 1 [(0, .ref h0)] := hl
  refine lv_aload_n hx hb dX10_far_0 rfl (lv_at hl 0 rfl) ?_
  refine lv_iconst (v := 0) hx hb dX10_far_1 (by decide) ?_
  refine va_put (ci := 10) (v := .int 0) (ty := .int) (C := RX10) (T := TX10) (N := 59) hx hb hts inX10 tyX10 tyX10_ok nmX10 hown hK hP hD hS 0 rfl rfl 0 (by decide) (hts _ gm_901) (fun _ h9 => h9) rfl (by decide +kernel) rfl rfl (Nat.le_of_ble_eq_true rfl) dX10_far_2 (fun H locs hP hD hS => ?_)
  have hP : va_P G vwCl [(h0, .inr (10, [.int 0, .ref w0, .ref w1, .ref w2, .ref w3, .ref w4, .ref w5, .int 0, .ref w6, .int 0, .int 0, .int 0, .int 0, .int 0, .int 0, .int 0, .int 0, .long 0, .int 0, .int 0, .ref w7, .ref w8, .ref w9, .ref w10, .ref w11, .ref w12, .ref w13, .ref w14, .int 0, .int 0, .int 0, .ref w15, .ref w16, .ref w17, .ref w18, .ref w19, .ref w20, .int 0, .ref w21, .ref w22, .ref w23, .ref w24, .ref w25, .ref w26, .ref w27, .ref w28, .ref w29, .ref w30, .ref w31, .ref w32, .ref w33, .ref w34, .ref w35, .ref w36, .ref w37, .int (-1), .int 0, .int 0, .int 0]))] H := hP
  have hD : va_D A [(h0, .inr (10, [.int 0, .ref w0, .ref w1, .ref w2, .ref w3, .ref w4, .ref w5, .int 0, .ref w6, .int 0, .int 0, .int 0, .int 0, .int 0, .int 0, .int 0, .int 0, .long 0, .int 0, .int 0, .ref w7, .ref w8, .ref w9, .ref w10, .ref w11, .ref w12, .ref w13, .ref w14, .int 0, .int 0, .int 0, .ref w15, .ref w16, .ref w17, .ref w18, .ref w19, .ref w20, .int 0, .ref w21, .ref w22, .ref w23, .ref w24, .ref w25, .ref w26, .ref w27, .ref w28, .ref w29, .ref w30, .ref w31, .ref w32, .ref w33, .ref w34, .ref w35, .ref w36, .ref w37, .int (-1), .int 0, .int 0, .int 0]))] := hD
  refine lv_aload_n hx hb dX10_far_5 rfl (lv_at hl 0 rfl) ?_
  refine va_get (ci := 10) (v := .int 0) (C := RX10) (T := TX10) (N := 59) hx hb hts inX10 hown hK hP 0 rfl rfl 58 (by decide) (hts _ gm_959) (fun _ h9 => h9) rfl dX10_far_6 ?_
  exact gz_iret (p := p) (l := l) (e := e) (s := s) (m := m) (below := below) (meth := meth) (c := c) (H := H) (cells := 0) (slots := 0) (mc := 0) (ms := 0) (cf := (fun (u : Unit) => [])) (post := (fun (r : Int32) (u : Unit) => r = 0)) hx hb hr hlocks hK hP hD hS () [] rfl rfl (by decide) rfl (by exact Nat.le_of_ble_eq_true rfl) (by exact Nat.le_of_ble_eq_true rfl) dX10_far_9

set_option maxHeartbeats 4000000 in
set_option maxRecDepth 100000 in
/-- WellCourtModel.count -/
theorem m_count (l : Launch) (G : va_G) (cy : Nat → ClassId) (sz : Nat) (h0 : Nat) (w0 : Nat) (w1 : Nat) (w2 : Nat) (w3 : Nat) (w4 : Nat) (w5 : Nat) (w6 : Nat) (w7 : Nat) (w8 : Nat) (w9 : Nat) (w10 : Nat) (w11 : Nat) (w12 : Nat) (w13 : Nat) (w14 : Nat) (w15 : Nat) (w16 : Nat) (w17 : Nat) (w18 : Nat) (w19 : Nat) (w20 : Nat) (w21 : Nat) (w22 : Nat) (w23 : Nat) (w24 : Nat) (w25 : Nat) (w26 : Nat) (w27 : Nat) (w28 : Nat) (w29 : Nat) (w30 : Nat) (w31 : Nat) (w32 : Nat) (w33 : Nat) (w34 : Nat) (w35 : Nat) (w36 : Nat) (w37 : Nat) (x : Int32) (Xx : Int) (kx : x.toInt = Xx)  : gMi l yX10_count cX10_count 4 (some .int) ({ frames := 0, cells := 0, slots := 0, locals := 0 }) G cy sz [.ref h0, .int x] [(h0, .inr (10, [.int 0, .ref w0, .ref w1, .ref w2, .ref w3, .ref w4, .ref w5, .int 0, .ref w6, .int 0, .int 0, .int 0, .int 0, .int 0, .int 0, .int 0, .int 0, .long 0, .int 0, .int 0, .ref w7, .ref w8, .ref w9, .ref w10, .ref w11, .ref w12, .ref w13, .ref w14, .int 0, .int 0, .int 0, .ref w15, .ref w16, .ref w17, .ref w18, .ref w19, .ref w20, .int 0, .ref w21, .ref w22, .ref w23, .ref w24, .ref w25, .ref w26, .ref w27, .ref w28, .ref w29, .ref w30, .ref w31, .ref w32, .ref w33, .ref w34, .ref w35, .ref w36, .ref w37, .int (-1), .int 0, .int 0, .int 0])), (w0, .inl (cy 2, 6, .inl (fun _ => 0))), (w21, .inl (cy 2, 4, .inl (fun _ => 0)))] (fun (r : Int32) (u : Unit) => (r = 0 ∧ (0 ≤ Xx ∧ Xx ≤ 6)) ∨ (r = (-1) ∧ (¬ (0 ≤ Xx ∧ Xx ≤ 6)))) (fun (u : Unit) => []) := by
  refine gz_start (fun A => gQi G cy _ _ A) (by decide) (Nat.le_of_ble_eq_true rfl) ?_
  intro p e s m below meth c A ls H hx hb hr hml hlocks hin hown hts hK hov hsz hP hD hS hA hl
  have hl : lv_has ls 4 [(0, .ref h0), (1, .int x)] := hl
  refine lv_aload_n hx hb dX10_count_0 rfl (lv_at hl 0 rfl) ?_
  refine lv_iconst (v := 0) hx hb dX10_count_1 (by decide) ?_
  refine va_put (ci := 10) (v := .int 0) (ty := .int) (C := RX10) (T := TX10) (N := 59) hx hb hts inX10 tyX10 tyX10_ok nmX10 hown hK hP hD hS 0 rfl rfl 0 (by decide) (hts _ gm_901) (fun _ h9 => h9) rfl (by decide +kernel) rfl rfl (Nat.le_of_ble_eq_true rfl) dX10_count_2 (fun H locs hP hD hS => ?_)
  have hP : va_P G vwCl [(h0, .inr (10, [.int 0, .ref w0, .ref w1, .ref w2, .ref w3, .ref w4, .ref w5, .int 0, .ref w6, .int 0, .int 0, .int 0, .int 0, .int 0, .int 0, .int 0, .int 0, .long 0, .int 0, .int 0, .ref w7, .ref w8, .ref w9, .ref w10, .ref w11, .ref w12, .ref w13, .ref w14, .int 0, .int 0, .int 0, .ref w15, .ref w16, .ref w17, .ref w18, .ref w19, .ref w20, .int 0, .ref w21, .ref w22, .ref w23, .ref w24, .ref w25, .ref w26, .ref w27, .ref w28, .ref w29, .ref w30, .ref w31, .ref w32, .ref w33, .ref w34, .ref w35, .ref w36, .ref w37, .int (-1), .int 0, .int 0, .int 0])), (w0, .inl (cy 2, 6, .inl (fun _ => 0))), (w21, .inl (cy 2, 4, .inl (fun _ => 0)))] H := hP
  have hD : va_D A [(h0, .inr (10, [.int 0, .ref w0, .ref w1, .ref w2, .ref w3, .ref w4, .ref w5, .int 0, .ref w6, .int 0, .int 0, .int 0, .int 0, .int 0, .int 0, .int 0, .int 0, .long 0, .int 0, .int 0, .ref w7, .ref w8, .ref w9, .ref w10, .ref w11, .ref w12, .ref w13, .ref w14, .int 0, .int 0, .int 0, .ref w15, .ref w16, .ref w17, .ref w18, .ref w19, .ref w20, .int 0, .ref w21, .ref w22, .ref w23, .ref w24, .ref w25, .ref w26, .ref w27, .ref w28, .ref w29, .ref w30, .ref w31, .ref w32, .ref w33, .ref w34, .ref w35, .ref w36, .ref w37, .int (-1), .int 0, .int 0, .int 0])), (w0, .inl (cy 2, 6, .inl (fun _ => 0))), (w21, .inl (cy 2, 4, .inl (fun _ => 0)))] := hD
  refine lv_iconst (v := 0) hx hb dX10_count_5 (by decide) ?_
  refine lv_istore_n (lv' := [(2, .int 0), (0, .ref h0), (1, .int x)]) hx hb dX10_count_6 rfl hl (by decide) rfl (fun ls hl => ?_)
  refine lv_iload_n hx hb dX10_count_7 rfl (lv_at hl 2 rfl) ?_
  rcases (show x.toInt < 0 ∨ 6 < x.toInt ∨ x.toInt = 0 ∨ x.toInt = 1 ∨ x.toInt = 2 ∨ x.toInt = 3 ∨ x.toInt = 4 ∨ x.toInt = 5 ∨ x.toInt = 6 by omega) with h_1 | h_1 | h_1 | h_1 | h_1 | h_1 | h_1 | h_1 | h_1
  · refine lv_tableOut (tgt := 142) hx hb dX10_count_8 (Or.inl h_1) (by decide) ?_
    refine lv_iconst (v := (-1)) hx hb dX10_count_142 (by decide) ?_
    exact gz_iret (p := p) (l := l) (e := e) (s := s) (m := m) (below := below) (meth := meth) (c := c) (H := H) (cells := 0) (slots := 0) (mc := 0) (ms := 0) (cf := (fun (u : Unit) => [])) (post := (fun (r : Int32) (u : Unit) => (r = 0 ∧ (0 ≤ Xx ∧ Xx ≤ 6)) ∨ (r = (-1) ∧ (¬ (0 ≤ Xx ∧ Xx ≤ 6))))) hx hb hr hlocks hK hP hD hS () [] rfl (Or.inr (⟨rfl, by omega⟩)) (by decide) rfl (by exact Nat.le_of_ble_eq_true rfl) (by exact Nat.le_of_ble_eq_true rfl) dX10_count_143
  · refine lv_tableOut (tgt := 142) hx hb dX10_count_8 (Or.inr h_1) (by decide) ?_
    refine lv_iconst (v := (-1)) hx hb dX10_count_142 (by decide) ?_
    exact gz_iret (p := p) (l := l) (e := e) (s := s) (m := m) (below := below) (meth := meth) (c := c) (H := H) (cells := 0) (slots := 0) (mc := 0) (ms := 0) (cf := (fun (u : Unit) => [])) (post := (fun (r : Int32) (u : Unit) => (r = 0 ∧ (0 ≤ Xx ∧ Xx ≤ 6)) ∨ (r = (-1) ∧ (¬ (0 ≤ Xx ∧ Xx ≤ 6))))) hx hb hr hlocks hK hP hD hS () [] rfl (Or.inr (⟨rfl, by omega⟩)) (by decide) rfl (by exact Nat.le_of_ble_eq_true rfl) (by exact Nat.le_of_ble_eq_true rfl) dX10_count_143
  · refine lv_tableIn (tgt := 52) hx hb dX10_count_8 (by omega) (by omega) (by rw [h_1]; rfl) (by decide) ?_
    refine lv_aload_n hx hb dX10_count_52 rfl (lv_at hl 1 rfl) ?_
    refine va_get (ci := 10) (v := .int 0) (C := RX10) (T := TX10) (N := 59) hx hb hts inX10 hown hK hP 0 rfl rfl 7 (by decide) (hts _ gm_908) (fun _ h9 => h9) rfl dX10_count_53 ?_
    exact gz_iret (p := p) (l := l) (e := e) (s := s) (m := m) (below := below) (meth := meth) (c := c) (H := H) (cells := 0) (slots := 0) (mc := 0) (ms := 0) (cf := (fun (u : Unit) => [])) (post := (fun (r : Int32) (u : Unit) => (r = 0 ∧ (0 ≤ Xx ∧ Xx ≤ 6)) ∨ (r = (-1) ∧ (¬ (0 ≤ Xx ∧ Xx ≤ 6))))) hx hb hr hlocks hK hP hD hS () [] rfl (Or.inl (⟨rfl, by omega⟩)) (by decide) rfl (by exact Nat.le_of_ble_eq_true rfl) (by exact Nat.le_of_ble_eq_true rfl) dX10_count_56
  · refine lv_tableIn (tgt := 57) hx hb dX10_count_8 (by omega) (by omega) (by rw [h_1]; rfl) (by decide) ?_
    refine lv_iconst (v := 0) hx hb dX10_count_57 (by decide) ?_
    refine lv_istore_n (lv' := [(3, .int 0), (2, .int 0), (0, .ref h0), (1, .int x)]) hx hb dX10_count_58 rfl hl (by decide) rfl (fun ls hl => ?_)
    refine lv_iload_n hx hb dX10_count_59 rfl (lv_at hl 0 rfl) ?_
    refine lv_bipush (v := 6) hx hb dX10_count_60 (by decide) ?_
    refine lv_icmp_ge (tgt := 88) hx hb dX10_count_62 (by decide) (fun h9 => absurd h9 (by decide)) (fun _ => ?_)
    refine lv_iload_n hx hb dX10_count_65 rfl (lv_at hl 1 rfl) ?_
    refine lv_aload_n hx hb dX10_count_66 rfl (lv_at hl 2 rfl) ?_
    refine va_get (ci := 10) (v := .ref w0) (C := RX10) (T := TX10) (N := 59) hx hb hts inX10 hown hK hP 0 rfl rfl 1 (by decide) (hts _ gm_902) (fun _ h9 => h9) rfl dX10_count_67 ?_
    refine lv_iload_n hx hb dX10_count_70 rfl (lv_at hl 0 rfl) ?_
    refine va_zald hx hb hK hP 1 2 rfl rfl (vp_in_iff.mpr (by decide)) dX10_count_71 ?_
    refine lv_topi (fun x_2 ex_2 => ?_)
    obtain rfl : x_2 = (0 : Int32) := ex_2
    refine lv_if_eq (tgt := 79) hx hb dX10_count_72 (by decide) (fun _ => ?_) (fun h9 => absurd (by decide) h9)
    refine lv_iconst (v := 0) hx hb dX10_count_79 (by decide) ?_
    refine lv_iadd hx hb dX10_count_80 ?_
    refine lv_topi (fun x_3 ex_3 => ?_)
    obtain rfl : x_3 = (0 : Int32) := ex_3.trans (by decide)
    refine lv_istore_n (lv' := [(2, .int 0), (3, .int 0), (0, .ref h0), (1, .int x)]) hx hb dX10_count_81 rfl hl (by decide) rfl (fun ls hl => ?_)
    refine lv_iinc (v := (1)) (lv' := [(3, .int 1), (2, .int 0), (0, .ref h0), (1, .int x)]) hx hb dX10_count_82 hl (k := 1) rfl (by decide) (by decide) rfl (fun ls hl => ?_)
    refine lv_goto (tgt := 59) hx hb dX10_count_85 (by decide) ?_
    refine lv_iload_n hx hb dX10_count_59 rfl (lv_at hl 0 rfl) ?_
    refine lv_bipush (v := 6) hx hb dX10_count_60 (by decide) ?_
    refine lv_icmp_ge (tgt := 88) hx hb dX10_count_62 (by decide) (fun h9 => absurd h9 (by decide)) (fun _ => ?_)
    refine lv_iload_n hx hb dX10_count_65 rfl (lv_at hl 1 rfl) ?_
    refine lv_aload_n hx hb dX10_count_66 rfl (lv_at hl 2 rfl) ?_
    refine va_get (ci := 10) (v := .ref w0) (C := RX10) (T := TX10) (N := 59) hx hb hts inX10 hown hK hP 0 rfl rfl 1 (by decide) (hts _ gm_902) (fun _ h9 => h9) rfl dX10_count_67 ?_
    refine lv_iload_n hx hb dX10_count_70 rfl (lv_at hl 0 rfl) ?_
    refine va_zald hx hb hK hP 1 2 rfl rfl (vp_in_iff.mpr (by decide)) dX10_count_71 ?_
    refine lv_topi (fun x_4 ex_4 => ?_)
    obtain rfl : x_4 = (0 : Int32) := ex_4
    refine lv_if_eq (tgt := 79) hx hb dX10_count_72 (by decide) (fun _ => ?_) (fun h9 => absurd (by decide) h9)
    refine lv_iconst (v := 0) hx hb dX10_count_79 (by decide) ?_
    refine lv_iadd hx hb dX10_count_80 ?_
    refine lv_topi (fun x_5 ex_5 => ?_)
    obtain rfl : x_5 = (0 : Int32) := ex_5.trans (by decide)
    refine lv_istore_n (lv' := [(2, .int 0), (3, .int 1), (0, .ref h0), (1, .int x)]) hx hb dX10_count_81 rfl hl (by decide) rfl (fun ls hl => ?_)
    refine lv_iinc (v := (2)) (lv' := [(3, .int 2), (2, .int 0), (0, .ref h0), (1, .int x)]) hx hb dX10_count_82 hl (k := 1) rfl (by decide) (by decide) rfl (fun ls hl => ?_)
    refine lv_goto (tgt := 59) hx hb dX10_count_85 (by decide) ?_
    refine lv_iload_n hx hb dX10_count_59 rfl (lv_at hl 0 rfl) ?_
    refine lv_bipush (v := 6) hx hb dX10_count_60 (by decide) ?_
    refine lv_icmp_ge (tgt := 88) hx hb dX10_count_62 (by decide) (fun h9 => absurd h9 (by decide)) (fun _ => ?_)
    refine lv_iload_n hx hb dX10_count_65 rfl (lv_at hl 1 rfl) ?_
    refine lv_aload_n hx hb dX10_count_66 rfl (lv_at hl 2 rfl) ?_
    refine va_get (ci := 10) (v := .ref w0) (C := RX10) (T := TX10) (N := 59) hx hb hts inX10 hown hK hP 0 rfl rfl 1 (by decide) (hts _ gm_902) (fun _ h9 => h9) rfl dX10_count_67 ?_
    refine lv_iload_n hx hb dX10_count_70 rfl (lv_at hl 0 rfl) ?_
    refine va_zald hx hb hK hP 1 2 rfl rfl (vp_in_iff.mpr (by decide)) dX10_count_71 ?_
    refine lv_topi (fun x_6 ex_6 => ?_)
    obtain rfl : x_6 = (0 : Int32) := ex_6
    refine lv_if_eq (tgt := 79) hx hb dX10_count_72 (by decide) (fun _ => ?_) (fun h9 => absurd (by decide) h9)
    refine lv_iconst (v := 0) hx hb dX10_count_79 (by decide) ?_
    refine lv_iadd hx hb dX10_count_80 ?_
    refine lv_topi (fun x_7 ex_7 => ?_)
    obtain rfl : x_7 = (0 : Int32) := ex_7.trans (by decide)
    refine lv_istore_n (lv' := [(2, .int 0), (3, .int 2), (0, .ref h0), (1, .int x)]) hx hb dX10_count_81 rfl hl (by decide) rfl (fun ls hl => ?_)
    refine lv_iinc (v := (3)) (lv' := [(3, .int 3), (2, .int 0), (0, .ref h0), (1, .int x)]) hx hb dX10_count_82 hl (k := 1) rfl (by decide) (by decide) rfl (fun ls hl => ?_)
    refine lv_goto (tgt := 59) hx hb dX10_count_85 (by decide) ?_
    refine lv_iload_n hx hb dX10_count_59 rfl (lv_at hl 0 rfl) ?_
    refine lv_bipush (v := 6) hx hb dX10_count_60 (by decide) ?_
    refine lv_icmp_ge (tgt := 88) hx hb dX10_count_62 (by decide) (fun h9 => absurd h9 (by decide)) (fun _ => ?_)
    refine lv_iload_n hx hb dX10_count_65 rfl (lv_at hl 1 rfl) ?_
    refine lv_aload_n hx hb dX10_count_66 rfl (lv_at hl 2 rfl) ?_
    refine va_get (ci := 10) (v := .ref w0) (C := RX10) (T := TX10) (N := 59) hx hb hts inX10 hown hK hP 0 rfl rfl 1 (by decide) (hts _ gm_902) (fun _ h9 => h9) rfl dX10_count_67 ?_
    refine lv_iload_n hx hb dX10_count_70 rfl (lv_at hl 0 rfl) ?_
    refine va_zald hx hb hK hP 1 2 rfl rfl (vp_in_iff.mpr (by decide)) dX10_count_71 ?_
    refine lv_topi (fun x_8 ex_8 => ?_)
    obtain rfl : x_8 = (0 : Int32) := ex_8
    refine lv_if_eq (tgt := 79) hx hb dX10_count_72 (by decide) (fun _ => ?_) (fun h9 => absurd (by decide) h9)
    refine lv_iconst (v := 0) hx hb dX10_count_79 (by decide) ?_
    refine lv_iadd hx hb dX10_count_80 ?_
    refine lv_topi (fun x_9 ex_9 => ?_)
    obtain rfl : x_9 = (0 : Int32) := ex_9.trans (by decide)
    refine lv_istore_n (lv' := [(2, .int 0), (3, .int 3), (0, .ref h0), (1, .int x)]) hx hb dX10_count_81 rfl hl (by decide) rfl (fun ls hl => ?_)
    refine lv_iinc (v := (4)) (lv' := [(3, .int 4), (2, .int 0), (0, .ref h0), (1, .int x)]) hx hb dX10_count_82 hl (k := 1) rfl (by decide) (by decide) rfl (fun ls hl => ?_)
    refine lv_goto (tgt := 59) hx hb dX10_count_85 (by decide) ?_
    refine lv_iload_n hx hb dX10_count_59 rfl (lv_at hl 0 rfl) ?_
    refine lv_bipush (v := 6) hx hb dX10_count_60 (by decide) ?_
    refine lv_icmp_ge (tgt := 88) hx hb dX10_count_62 (by decide) (fun h9 => absurd h9 (by decide)) (fun _ => ?_)
    refine lv_iload_n hx hb dX10_count_65 rfl (lv_at hl 1 rfl) ?_
    refine lv_aload_n hx hb dX10_count_66 rfl (lv_at hl 2 rfl) ?_
    refine va_get (ci := 10) (v := .ref w0) (C := RX10) (T := TX10) (N := 59) hx hb hts inX10 hown hK hP 0 rfl rfl 1 (by decide) (hts _ gm_902) (fun _ h9 => h9) rfl dX10_count_67 ?_
    refine lv_iload_n hx hb dX10_count_70 rfl (lv_at hl 0 rfl) ?_
    refine va_zald hx hb hK hP 1 2 rfl rfl (vp_in_iff.mpr (by decide)) dX10_count_71 ?_
    refine lv_topi (fun x_10 ex_10 => ?_)
    obtain rfl : x_10 = (0 : Int32) := ex_10
    refine lv_if_eq (tgt := 79) hx hb dX10_count_72 (by decide) (fun _ => ?_) (fun h9 => absurd (by decide) h9)
    refine lv_iconst (v := 0) hx hb dX10_count_79 (by decide) ?_
    refine lv_iadd hx hb dX10_count_80 ?_
    refine lv_topi (fun x_11 ex_11 => ?_)
    obtain rfl : x_11 = (0 : Int32) := ex_11.trans (by decide)
    refine lv_istore_n (lv' := [(2, .int 0), (3, .int 4), (0, .ref h0), (1, .int x)]) hx hb dX10_count_81 rfl hl (by decide) rfl (fun ls hl => ?_)
    refine lv_iinc (v := (5)) (lv' := [(3, .int 5), (2, .int 0), (0, .ref h0), (1, .int x)]) hx hb dX10_count_82 hl (k := 1) rfl (by decide) (by decide) rfl (fun ls hl => ?_)
    refine lv_goto (tgt := 59) hx hb dX10_count_85 (by decide) ?_
    refine lv_iload_n hx hb dX10_count_59 rfl (lv_at hl 0 rfl) ?_
    refine lv_bipush (v := 6) hx hb dX10_count_60 (by decide) ?_
    refine lv_icmp_ge (tgt := 88) hx hb dX10_count_62 (by decide) (fun h9 => absurd h9 (by decide)) (fun _ => ?_)
    refine lv_iload_n hx hb dX10_count_65 rfl (lv_at hl 1 rfl) ?_
    refine lv_aload_n hx hb dX10_count_66 rfl (lv_at hl 2 rfl) ?_
    refine va_get (ci := 10) (v := .ref w0) (C := RX10) (T := TX10) (N := 59) hx hb hts inX10 hown hK hP 0 rfl rfl 1 (by decide) (hts _ gm_902) (fun _ h9 => h9) rfl dX10_count_67 ?_
    refine lv_iload_n hx hb dX10_count_70 rfl (lv_at hl 0 rfl) ?_
    refine va_zald hx hb hK hP 1 2 rfl rfl (vp_in_iff.mpr (by decide)) dX10_count_71 ?_
    refine lv_topi (fun x_12 ex_12 => ?_)
    obtain rfl : x_12 = (0 : Int32) := ex_12
    refine lv_if_eq (tgt := 79) hx hb dX10_count_72 (by decide) (fun _ => ?_) (fun h9 => absurd (by decide) h9)
    refine lv_iconst (v := 0) hx hb dX10_count_79 (by decide) ?_
    refine lv_iadd hx hb dX10_count_80 ?_
    refine lv_topi (fun x_13 ex_13 => ?_)
    obtain rfl : x_13 = (0 : Int32) := ex_13.trans (by decide)
    refine lv_istore_n (lv' := [(2, .int 0), (3, .int 5), (0, .ref h0), (1, .int x)]) hx hb dX10_count_81 rfl hl (by decide) rfl (fun ls hl => ?_)
    refine lv_iinc (v := (6)) (lv' := [(3, .int 6), (2, .int 0), (0, .ref h0), (1, .int x)]) hx hb dX10_count_82 hl (k := 1) rfl (by decide) (by decide) rfl (fun ls hl => ?_)
    refine lv_goto (tgt := 59) hx hb dX10_count_85 (by decide) ?_
    refine lv_iload_n hx hb dX10_count_59 rfl (lv_at hl 0 rfl) ?_
    refine lv_bipush (v := 6) hx hb dX10_count_60 (by decide) ?_
    refine lv_icmp_ge (tgt := 88) hx hb dX10_count_62 (by decide) (fun _ => ?_) (fun h9 => absurd (by decide) h9)
    refine lv_iload_n hx hb dX10_count_88 rfl (lv_at hl 1 rfl) ?_
    exact gz_iret (p := p) (l := l) (e := e) (s := s) (m := m) (below := below) (meth := meth) (c := c) (H := H) (cells := 0) (slots := 0) (mc := 0) (ms := 0) (cf := (fun (u : Unit) => [])) (post := (fun (r : Int32) (u : Unit) => (r = 0 ∧ (0 ≤ Xx ∧ Xx ≤ 6)) ∨ (r = (-1) ∧ (¬ (0 ≤ Xx ∧ Xx ≤ 6))))) hx hb hr hlocks hK hP hD hS () [] rfl (Or.inl (⟨rfl, by omega⟩)) (by decide) rfl (by exact Nat.le_of_ble_eq_true rfl) (by exact Nat.le_of_ble_eq_true rfl) dX10_count_89
  · refine lv_tableIn (tgt := 90) hx hb dX10_count_8 (by omega) (by omega) (by rw [h_1]; rfl) (by decide) ?_
    refine lv_aload_n hx hb dX10_count_90 rfl (lv_at hl 1 rfl) ?_
    refine va_get (ci := 10) (v := .int 0) (C := RX10) (T := TX10) (N := 59) hx hb hts inX10 hown hK hP 0 rfl rfl 29 (by decide) (hts _ gm_930) (fun _ h9 => h9) rfl dX10_count_91 ?_
    exact gz_iret (p := p) (l := l) (e := e) (s := s) (m := m) (below := below) (meth := meth) (c := c) (H := H) (cells := 0) (slots := 0) (mc := 0) (ms := 0) (cf := (fun (u : Unit) => [])) (post := (fun (r : Int32) (u : Unit) => (r = 0 ∧ (0 ≤ Xx ∧ Xx ≤ 6)) ∨ (r = (-1) ∧ (¬ (0 ≤ Xx ∧ Xx ≤ 6))))) hx hb hr hlocks hK hP hD hS () [] rfl (Or.inl (⟨rfl, by omega⟩)) (by decide) rfl (by exact Nat.le_of_ble_eq_true rfl) (by exact Nat.le_of_ble_eq_true rfl) dX10_count_94
  · refine lv_tableIn (tgt := 95) hx hb dX10_count_8 (by omega) (by omega) (by rw [h_1]; rfl) (by decide) ?_
    refine lv_iconst (v := 0) hx hb dX10_count_95 (by decide) ?_
    refine lv_istore_n (lv' := [(3, .int 0), (2, .int 0), (0, .ref h0), (1, .int x)]) hx hb dX10_count_96 rfl hl (by decide) rfl (fun ls hl => ?_)
    refine lv_iload_n hx hb dX10_count_97 rfl (lv_at hl 0 rfl) ?_
    refine lv_iconst (v := 4) hx hb dX10_count_98 (by decide) ?_
    refine lv_icmp_ge (tgt := 125) hx hb dX10_count_99 (by decide) (fun h9 => absurd h9 (by decide)) (fun _ => ?_)
    refine lv_iload_n hx hb dX10_count_102 rfl (lv_at hl 1 rfl) ?_
    refine lv_aload_n hx hb dX10_count_103 rfl (lv_at hl 2 rfl) ?_
    refine va_get (ci := 10) (v := .ref w21) (C := RX10) (T := TX10) (N := 59) hx hb hts inX10 hown hK hP 0 rfl rfl 38 (by decide) (hts _ gm_939) (fun _ h9 => h9) rfl dX10_count_104 ?_
    refine lv_iload_n hx hb dX10_count_107 rfl (lv_at hl 0 rfl) ?_
    refine va_zald hx hb hK hP 2 2 rfl rfl (vp_in_iff.mpr (by decide)) dX10_count_108 ?_
    refine lv_topi (fun x_14 ex_14 => ?_)
    obtain rfl : x_14 = (0 : Int32) := ex_14
    refine lv_if_eq (tgt := 116) hx hb dX10_count_109 (by decide) (fun _ => ?_) (fun h9 => absurd (by decide) h9)
    refine lv_iconst (v := 0) hx hb dX10_count_116 (by decide) ?_
    refine lv_iadd hx hb dX10_count_117 ?_
    refine lv_topi (fun x_15 ex_15 => ?_)
    obtain rfl : x_15 = (0 : Int32) := ex_15.trans (by decide)
    refine lv_istore_n (lv' := [(2, .int 0), (3, .int 0), (0, .ref h0), (1, .int x)]) hx hb dX10_count_118 rfl hl (by decide) rfl (fun ls hl => ?_)
    refine lv_iinc (v := (1)) (lv' := [(3, .int 1), (2, .int 0), (0, .ref h0), (1, .int x)]) hx hb dX10_count_119 hl (k := 1) rfl (by decide) (by decide) rfl (fun ls hl => ?_)
    refine lv_goto (tgt := 97) hx hb dX10_count_122 (by decide) ?_
    refine lv_iload_n hx hb dX10_count_97 rfl (lv_at hl 0 rfl) ?_
    refine lv_iconst (v := 4) hx hb dX10_count_98 (by decide) ?_
    refine lv_icmp_ge (tgt := 125) hx hb dX10_count_99 (by decide) (fun h9 => absurd h9 (by decide)) (fun _ => ?_)
    refine lv_iload_n hx hb dX10_count_102 rfl (lv_at hl 1 rfl) ?_
    refine lv_aload_n hx hb dX10_count_103 rfl (lv_at hl 2 rfl) ?_
    refine va_get (ci := 10) (v := .ref w21) (C := RX10) (T := TX10) (N := 59) hx hb hts inX10 hown hK hP 0 rfl rfl 38 (by decide) (hts _ gm_939) (fun _ h9 => h9) rfl dX10_count_104 ?_
    refine lv_iload_n hx hb dX10_count_107 rfl (lv_at hl 0 rfl) ?_
    refine va_zald hx hb hK hP 2 2 rfl rfl (vp_in_iff.mpr (by decide)) dX10_count_108 ?_
    refine lv_topi (fun x_16 ex_16 => ?_)
    obtain rfl : x_16 = (0 : Int32) := ex_16
    refine lv_if_eq (tgt := 116) hx hb dX10_count_109 (by decide) (fun _ => ?_) (fun h9 => absurd (by decide) h9)
    refine lv_iconst (v := 0) hx hb dX10_count_116 (by decide) ?_
    refine lv_iadd hx hb dX10_count_117 ?_
    refine lv_topi (fun x_17 ex_17 => ?_)
    obtain rfl : x_17 = (0 : Int32) := ex_17.trans (by decide)
    refine lv_istore_n (lv' := [(2, .int 0), (3, .int 1), (0, .ref h0), (1, .int x)]) hx hb dX10_count_118 rfl hl (by decide) rfl (fun ls hl => ?_)
    refine lv_iinc (v := (2)) (lv' := [(3, .int 2), (2, .int 0), (0, .ref h0), (1, .int x)]) hx hb dX10_count_119 hl (k := 1) rfl (by decide) (by decide) rfl (fun ls hl => ?_)
    refine lv_goto (tgt := 97) hx hb dX10_count_122 (by decide) ?_
    refine lv_iload_n hx hb dX10_count_97 rfl (lv_at hl 0 rfl) ?_
    refine lv_iconst (v := 4) hx hb dX10_count_98 (by decide) ?_
    refine lv_icmp_ge (tgt := 125) hx hb dX10_count_99 (by decide) (fun h9 => absurd h9 (by decide)) (fun _ => ?_)
    refine lv_iload_n hx hb dX10_count_102 rfl (lv_at hl 1 rfl) ?_
    refine lv_aload_n hx hb dX10_count_103 rfl (lv_at hl 2 rfl) ?_
    refine va_get (ci := 10) (v := .ref w21) (C := RX10) (T := TX10) (N := 59) hx hb hts inX10 hown hK hP 0 rfl rfl 38 (by decide) (hts _ gm_939) (fun _ h9 => h9) rfl dX10_count_104 ?_
    refine lv_iload_n hx hb dX10_count_107 rfl (lv_at hl 0 rfl) ?_
    refine va_zald hx hb hK hP 2 2 rfl rfl (vp_in_iff.mpr (by decide)) dX10_count_108 ?_
    refine lv_topi (fun x_18 ex_18 => ?_)
    obtain rfl : x_18 = (0 : Int32) := ex_18
    refine lv_if_eq (tgt := 116) hx hb dX10_count_109 (by decide) (fun _ => ?_) (fun h9 => absurd (by decide) h9)
    refine lv_iconst (v := 0) hx hb dX10_count_116 (by decide) ?_
    refine lv_iadd hx hb dX10_count_117 ?_
    refine lv_topi (fun x_19 ex_19 => ?_)
    obtain rfl : x_19 = (0 : Int32) := ex_19.trans (by decide)
    refine lv_istore_n (lv' := [(2, .int 0), (3, .int 2), (0, .ref h0), (1, .int x)]) hx hb dX10_count_118 rfl hl (by decide) rfl (fun ls hl => ?_)
    refine lv_iinc (v := (3)) (lv' := [(3, .int 3), (2, .int 0), (0, .ref h0), (1, .int x)]) hx hb dX10_count_119 hl (k := 1) rfl (by decide) (by decide) rfl (fun ls hl => ?_)
    refine lv_goto (tgt := 97) hx hb dX10_count_122 (by decide) ?_
    refine lv_iload_n hx hb dX10_count_97 rfl (lv_at hl 0 rfl) ?_
    refine lv_iconst (v := 4) hx hb dX10_count_98 (by decide) ?_
    refine lv_icmp_ge (tgt := 125) hx hb dX10_count_99 (by decide) (fun h9 => absurd h9 (by decide)) (fun _ => ?_)
    refine lv_iload_n hx hb dX10_count_102 rfl (lv_at hl 1 rfl) ?_
    refine lv_aload_n hx hb dX10_count_103 rfl (lv_at hl 2 rfl) ?_
    refine va_get (ci := 10) (v := .ref w21) (C := RX10) (T := TX10) (N := 59) hx hb hts inX10 hown hK hP 0 rfl rfl 38 (by decide) (hts _ gm_939) (fun _ h9 => h9) rfl dX10_count_104 ?_
    refine lv_iload_n hx hb dX10_count_107 rfl (lv_at hl 0 rfl) ?_
    refine va_zald hx hb hK hP 2 2 rfl rfl (vp_in_iff.mpr (by decide)) dX10_count_108 ?_
    refine lv_topi (fun x_20 ex_20 => ?_)
    obtain rfl : x_20 = (0 : Int32) := ex_20
    refine lv_if_eq (tgt := 116) hx hb dX10_count_109 (by decide) (fun _ => ?_) (fun h9 => absurd (by decide) h9)
    refine lv_iconst (v := 0) hx hb dX10_count_116 (by decide) ?_
    refine lv_iadd hx hb dX10_count_117 ?_
    refine lv_topi (fun x_21 ex_21 => ?_)
    obtain rfl : x_21 = (0 : Int32) := ex_21.trans (by decide)
    refine lv_istore_n (lv' := [(2, .int 0), (3, .int 3), (0, .ref h0), (1, .int x)]) hx hb dX10_count_118 rfl hl (by decide) rfl (fun ls hl => ?_)
    refine lv_iinc (v := (4)) (lv' := [(3, .int 4), (2, .int 0), (0, .ref h0), (1, .int x)]) hx hb dX10_count_119 hl (k := 1) rfl (by decide) (by decide) rfl (fun ls hl => ?_)
    refine lv_goto (tgt := 97) hx hb dX10_count_122 (by decide) ?_
    refine lv_iload_n hx hb dX10_count_97 rfl (lv_at hl 0 rfl) ?_
    refine lv_iconst (v := 4) hx hb dX10_count_98 (by decide) ?_
    refine lv_icmp_ge (tgt := 125) hx hb dX10_count_99 (by decide) (fun _ => ?_) (fun h9 => absurd (by decide) h9)
    refine lv_iload_n hx hb dX10_count_125 rfl (lv_at hl 1 rfl) ?_
    exact gz_iret (p := p) (l := l) (e := e) (s := s) (m := m) (below := below) (meth := meth) (c := c) (H := H) (cells := 0) (slots := 0) (mc := 0) (ms := 0) (cf := (fun (u : Unit) => [])) (post := (fun (r : Int32) (u : Unit) => (r = 0 ∧ (0 ≤ Xx ∧ Xx ≤ 6)) ∨ (r = (-1) ∧ (¬ (0 ≤ Xx ∧ Xx ≤ 6))))) hx hb hr hlocks hK hP hD hS () [] rfl (Or.inl (⟨rfl, by omega⟩)) (by decide) rfl (by exact Nat.le_of_ble_eq_true rfl) (by exact Nat.le_of_ble_eq_true rfl) dX10_count_126
  · refine lv_tableIn (tgt := 127) hx hb dX10_count_8 (by omega) (by omega) (by rw [h_1]; rfl) (by decide) ?_
    refine lv_aload_n hx hb dX10_count_127 rfl (lv_at hl 1 rfl) ?_
    refine va_get (ci := 10) (v := .int 0) (C := RX10) (T := TX10) (N := 59) hx hb hts inX10 hown hK hP 0 rfl rfl 37 (by decide) (hts _ gm_938) (fun _ h9 => h9) rfl dX10_count_128 ?_
    exact gz_iret (p := p) (l := l) (e := e) (s := s) (m := m) (below := below) (meth := meth) (c := c) (H := H) (cells := 0) (slots := 0) (mc := 0) (ms := 0) (cf := (fun (u : Unit) => [])) (post := (fun (r : Int32) (u : Unit) => (r = 0 ∧ (0 ≤ Xx ∧ Xx ≤ 6)) ∨ (r = (-1) ∧ (¬ (0 ≤ Xx ∧ Xx ≤ 6))))) hx hb hr hlocks hK hP hD hS () [] rfl (Or.inl (⟨rfl, by omega⟩)) (by decide) rfl (by exact Nat.le_of_ble_eq_true rfl) (by exact Nat.le_of_ble_eq_true rfl) dX10_count_131
  · refine lv_tableIn (tgt := 132) hx hb dX10_count_8 (by omega) (by omega) (by rw [h_1]; rfl) (by decide) ?_
    refine lv_aload_n hx hb dX10_count_132 rfl (lv_at hl 1 rfl) ?_
    refine va_get (ci := 10) (v := .int 0) (C := RX10) (T := TX10) (N := 59) hx hb hts inX10 hown hK hP 0 rfl rfl 9 (by decide) (hts _ gm_910) (fun _ h9 => h9) rfl dX10_count_133 ?_
    exact gz_iret (p := p) (l := l) (e := e) (s := s) (m := m) (below := below) (meth := meth) (c := c) (H := H) (cells := 0) (slots := 0) (mc := 0) (ms := 0) (cf := (fun (u : Unit) => [])) (post := (fun (r : Int32) (u : Unit) => (r = 0 ∧ (0 ≤ Xx ∧ Xx ≤ 6)) ∨ (r = (-1) ∧ (¬ (0 ≤ Xx ∧ Xx ≤ 6))))) hx hb hr hlocks hK hP hD hS () [] rfl (Or.inl (⟨rfl, by omega⟩)) (by decide) rfl (by exact Nat.le_of_ble_eq_true rfl) (by exact Nat.le_of_ble_eq_true rfl) dX10_count_136
  · refine lv_tableIn (tgt := 137) hx hb dX10_count_8 (by omega) (by omega) (by rw [h_1]; rfl) (by decide) ?_
    refine lv_aload_n hx hb dX10_count_137 rfl (lv_at hl 1 rfl) ?_
    refine va_get (ci := 10) (v := .int 0) (C := RX10) (T := TX10) (N := 59) hx hb hts inX10 hown hK hP 0 rfl rfl 57 (by decide) (hts _ gm_958) (fun _ h9 => h9) rfl dX10_count_138 ?_
    exact gz_iret (p := p) (l := l) (e := e) (s := s) (m := m) (below := below) (meth := meth) (c := c) (H := H) (cells := 0) (slots := 0) (mc := 0) (ms := 0) (cf := (fun (u : Unit) => [])) (post := (fun (r : Int32) (u : Unit) => (r = 0 ∧ (0 ≤ Xx ∧ Xx ≤ 6)) ∨ (r = (-1) ∧ (¬ (0 ≤ Xx ∧ Xx ≤ 6))))) hx hb hr hlocks hK hP hD hS () [] rfl (Or.inl (⟨rfl, by omega⟩)) (by decide) rfl (by exact Nat.le_of_ble_eq_true rfl) (by exact Nat.le_of_ble_eq_true rfl) dX10_count_141
