theorem gm_12 : (Jvm.Cond.initialized "WellCourtModel") ∈ gz_T := gz_at 12 (by decide +kernel) rfl
theorem gm_901 : (Jvm.Cond.fieldLink "WellCourtModel" (1 : Nat) "WellCourtModel" "thrown" "I") ∈ gz_T := gz_at 901 (by decide +kernel) rfl
theorem gm_908 : (Jvm.Cond.fieldLink "WellCourtModel" (213 : Nat) "WellCourtModel" "day" "I") ∈ gz_T := gz_at 908 (by decide +kernel) rfl
theorem gm_910 : (Jvm.Cond.fieldLink "WellCourtModel" (133 : Nat) "WellCourtModel" "length" "I") ∈ gz_T := gz_at 910 (by decide +kernel) rfl
theorem gm_911 : (Jvm.Cond.fieldLink "WellCourtModel" (143 : Nat) "WellCourtModel" "size" "I") ∈ gz_T := gz_at 911 (by decide +kernel) rfl
theorem gm_912 : (Jvm.Cond.fieldLink "WellCourtModel" (140 : Nat) "WellCourtModel" "p" "I") ∈ gz_T := gz_at 912 (by decide +kernel) rfl
theorem gm_913 : (Jvm.Cond.fieldLink "WellCourtModel" (153 : Nat) "WellCourtModel" "token" "I") ∈ gz_T := gz_at 913 (by decide +kernel) rfl
theorem gm_914 : (Jvm.Cond.fieldLink "WellCourtModel" (150 : Nat) "WellCourtModel" "at" "I") ∈ gz_T := gz_at 914 (by decide +kernel) rfl
theorem gm_916 : (Jvm.Cond.fieldLink "WellCourtModel" (170 : Nat) "WellCourtModel" "fault" "I") ∈ gz_T := gz_at 916 (by decide +kernel) rfl
theorem gm_929 : (Jvm.Cond.fieldLink "WellCourtModel" (201 : Nat) "WellCourtModel" "bank" "I") ∈ gz_T := gz_at 929 (by decide +kernel) rfl
theorem gm_930 : (Jvm.Cond.fieldLink "WellCourtModel" (210 : Nat) "WellCourtModel" "rules" "I") ∈ gz_T := gz_at 930 (by decide +kernel) rfl
theorem gm_931 : (Jvm.Cond.fieldLink "WellCourtModel" (204 : Nat) "WellCourtModel" "fresh" "I") ∈ gz_T := gz_at 931 (by decide +kernel) rfl
theorem gm_1088 : (Jvm.Cond.methodLink "WellCourtModel" (136 : Nat) ({ cls := "WellCourtModel", name := "four", desc := "(I)V" } : Jvm.MethodName)) ∈ gz_T := gz_at 1088 (by decide +kernel) rfl
theorem gm_1090 : (Jvm.Cond.instanceMethod ({ cls := "WellCourtModel", name := "four", desc := "(I)V" } : Jvm.MethodName)) ∈ gz_T := gz_at 1090 (by decide +kernel) rfl
theorem gm_1091 : (Jvm.Cond.code ({ cls := "WellCourtModel", name := "four", desc := "(I)V" } : Jvm.MethodName) prog_12_method_6_code (3 : Nat) (Option.none : Option Jvm.ClassFile.FieldType)) ∈ gz_T := gz_at 1091 (by decide +kernel) rfl
theorem gm_1100 : (Jvm.Cond.methodLink "WellCourtModel" (184 : Nat) ({ cls := "WellCourtModel", name := "next0", desc := "()V" } : Jvm.MethodName)) ∈ gz_T := gz_at 1100 (by decide +kernel) rfl
theorem gm_1102 : (Jvm.Cond.instanceMethod ({ cls := "WellCourtModel", name := "next0", desc := "()V" } : Jvm.MethodName)) ∈ gz_T := gz_at 1102 (by decide +kernel) rfl
theorem gm_1103 : (Jvm.Cond.code ({ cls := "WellCourtModel", name := "next0", desc := "()V" } : Jvm.MethodName) prog_12_method_11_code (5 : Nat) (Option.none : Option Jvm.ClassFile.FieldType)) ∈ gz_T := gz_at 1103 (by decide +kernel) rfl
theorem gm_1104 : (Jvm.Cond.methodLink "WellCourtModel" (146 : Nat) ({ cls := "WellCourtModel", name := "peek", desc := "()I" } : Jvm.MethodName)) ∈ gz_T := gz_at 1104 (by decide +kernel) rfl
theorem gm_1106 : (Jvm.Cond.instanceMethod ({ cls := "WellCourtModel", name := "peek", desc := "()I" } : Jvm.MethodName)) ∈ gz_T := gz_at 1106 (by decide +kernel) rfl
theorem gm_1107 : (Jvm.Cond.code ({ cls := "WellCourtModel", name := "peek", desc := "()I" } : Jvm.MethodName) prog_12_method_8_code (1 : Nat) (Option.some Jvm.ClassFile.FieldType.int)) ∈ gz_T := gz_at 1107 (by decide +kernel) rfl
theorem gm_1177 : (Jvm.Cond.methodLink "WellCourtModel" (216 : Nat) ({ cls := "WellCourtModel", name := "byTurns", desc := "(II)I" } : Jvm.MethodName)) ∈ gz_T := gz_at 1177 (by decide +kernel) rfl
theorem gm_1179 : (Jvm.Cond.instanceMethod ({ cls := "WellCourtModel", name := "byTurns", desc := "(II)I" } : Jvm.MethodName)) ∈ gz_T := gz_at 1179 (by decide +kernel) rfl
theorem gm_1180 : (Jvm.Cond.code ({ cls := "WellCourtModel", name := "byTurns", desc := "(II)I" } : Jvm.MethodName) prog_12_method_27_code (7 : Nat) (Option.some Jvm.ClassFile.FieldType.int)) ∈ gz_T := gz_at 1180 (by decide +kernel) rfl
theorem gm_1181 : (Jvm.Cond.methodLink "WellCourtModel" (220 : Nat) ({ cls := "WellCourtModel", name := "droughts", desc := "()V" } : Jvm.MethodName)) ∈ gz_T := gz_at 1181 (by decide +kernel) rfl
theorem gm_1183 : (Jvm.Cond.instanceMethod ({ cls := "WellCourtModel", name := "droughts", desc := "()V" } : Jvm.MethodName)) ∈ gz_T := gz_at 1183 (by decide +kernel) rfl
theorem gm_1184 : (Jvm.Cond.code ({ cls := "WellCourtModel", name := "droughts", desc := "()V" } : Jvm.MethodName) prog_12_method_29_code (3 : Nat) (Option.none : Option Jvm.ClassFile.FieldType)) ∈ gz_T := gz_at 1184 (by decide +kernel) rfl
theorem gs_31 : (Jvm.Cond.selects "WellCourtModel" ({ cls := "WellCourtModel", name := "four", desc := "(I)V" } : Jvm.MethodName) ({ cls := "WellCourtModel", name := "four", desc := "(I)V" } : Jvm.MethodName)) ∈ gz_T := gz_sel 31 (by decide +kernel) rfl
theorem gs_32 : (Jvm.Cond.selects "WellCourtModel" ({ cls := "WellCourtModel", name := "next0", desc := "()V" } : Jvm.MethodName) ({ cls := "WellCourtModel", name := "next0", desc := "()V" } : Jvm.MethodName)) ∈ gz_T := gz_sel 32 (by decide +kernel) rfl
theorem gs_33 : (Jvm.Cond.selects "WellCourtModel" ({ cls := "WellCourtModel", name := "peek", desc := "()I" } : Jvm.MethodName) ({ cls := "WellCourtModel", name := "peek", desc := "()I" } : Jvm.MethodName)) ∈ gz_T := gz_sel 33 (by decide +kernel) rfl
theorem gs_47 : (Jvm.Cond.selects "WellCourtModel" ({ cls := "WellCourtModel", name := "byTurns", desc := "(II)I" } : Jvm.MethodName) ({ cls := "WellCourtModel", name := "byTurns", desc := "(II)I" } : Jvm.MethodName)) ∈ gz_T := gz_sel 47 (by decide +kernel) rfl
theorem gs_48 : (Jvm.Cond.selects "WellCourtModel" ({ cls := "WellCourtModel", name := "droughts", desc := "()V" } : Jvm.MethodName) ({ cls := "WellCourtModel", name := "droughts", desc := "()V" } : Jvm.MethodName)) ∈ gz_T := gz_sel 48 (by decide +kernel) rfl
theorem dX10_byTurns_0 : decode cX10_byTurns 0 = .ok (.bipush 24, 2) := by decide +kernel
theorem dX10_byTurns_2 : decode cX10_byTurns 2 = .ok (.aload_n 0, 1) := by decide +kernel
theorem dX10_byTurns_3 : decode cX10_byTurns 3 = .ok (.getfield 201, 3) := by decide +kernel
theorem dX10_byTurns_6 : decode cX10_byTurns 6 = .ok (.imul, 1) := by decide +kernel
theorem dX10_byTurns_7 : decode cX10_byTurns 7 = .ok (.istore_n 3, 1) := by decide +kernel
theorem dX10_byTurns_8 : decode cX10_byTurns 8 = .ok (.iload_n 3, 1) := by decide +kernel
theorem dX10_byTurns_9 : decode cX10_byTurns 9 = .ok (.bipush 24, 2) := by decide +kernel
theorem dX10_byTurns_11 : decode cX10_byTurns 11 = .ok (.aload_n 0, 1) := by decide +kernel
theorem dX10_byTurns_12 : decode cX10_byTurns 12 = .ok (.getfield 201, 3) := by decide +kernel
theorem dX10_byTurns_15 : decode cX10_byTurns 15 = .ok (.imul, 1) := by decide +kernel
theorem dX10_byTurns_16 : decode cX10_byTurns 16 = .ok (.aload_n 0, 1) := by decide +kernel
theorem dX10_byTurns_17 : decode cX10_byTurns 17 = .ok (.getfield 210, 3) := by decide +kernel
theorem dX10_byTurns_20 : decode cX10_byTurns 20 = .ok (.iadd, 1) := by decide +kernel
theorem dX10_byTurns_21 : decode cX10_byTurns 21 = .ok (.if_icmp .ge 144, 3) := by decide +kernel
theorem dX10_byTurns_165 : decode cX10_byTurns 165 = .ok (.iconst (-1), 1) := by decide +kernel
theorem dX10_byTurns_166 : decode cX10_byTurns 166 = .ok (.ireturn, 1) := by decide +kernel
theorem dX10_droughts_0 : decode cX10_droughts 0 = .ok (.iconst 0, 1) := by decide +kernel
theorem dX10_droughts_1 : decode cX10_droughts 1 = .ok (.istore_n 1, 1) := by decide +kernel
theorem dX10_droughts_2 : decode cX10_droughts 2 = .ok (.iload_n 1, 1) := by decide +kernel
theorem dX10_droughts_3 : decode cX10_droughts 3 = .ok (.bipush 6, 2) := by decide +kernel
theorem dX10_droughts_5 : decode cX10_droughts 5 = .ok (.if_icmp .ge 54, 3) := by decide +kernel
theorem dX10_droughts_8 : decode cX10_droughts 8 = .ok (.aload_n 0, 1) := by decide +kernel
theorem dX10_droughts_9 : decode cX10_droughts 9 = .ok (.getfield 13, 3) := by decide +kernel
theorem dX10_droughts_12 : decode cX10_droughts 12 = .ok (.iload_n 1, 1) := by decide +kernel
theorem dX10_droughts_13 : decode cX10_droughts 13 = .ok (.baload, 1) := by decide +kernel
theorem dX10_droughts_14 : decode cX10_droughts 14 = .ok (.ifCond .eq 17, 3) := by decide +kernel
theorem dX10_droughts_31 : decode cX10_droughts 31 = .ok (.iconst (-1), 1) := by decide +kernel
theorem dX10_droughts_32 : decode cX10_droughts 32 = .ok (.istore_n 2, 1) := by decide +kernel
theorem dX10_droughts_33 : decode cX10_droughts 33 = .ok (.iload_n 2, 1) := by decide +kernel
theorem dX10_droughts_34 : decode cX10_droughts 34 = .ok (.ifCond .lt 19, 3) := by decide +kernel
theorem dX10_droughts_53 : decode cX10_droughts 53 = .ok (.iinc 1 1, 3) := by decide +kernel
theorem dX10_droughts_56 : decode cX10_droughts 56 = .ok (.goto (-54), 3) := by decide +kernel
theorem dX10_droughts_59 : decode cX10_droughts 59 = .ok (.return_, 1) := by decide +kernel
theorem dX10_end_0 : decode cX10_end 0 = .ok (.aload_n 0, 1) := by decide +kernel
theorem dX10_end_1 : decode cX10_end 1 = .ok (.iconst 0, 1) := by decide +kernel
theorem dX10_end_2 : decode cX10_end 2 = .ok (.putfield 1, 3) := by decide +kernel
theorem dX10_end_5 : decode cX10_end 5 = .ok (.iload_n 1, 1) := by decide +kernel
theorem dX10_end_6 : decode cX10_end 6 = .ok (.ifCond .lt 11, 3) := by decide +kernel
theorem dX10_end_9 : decode cX10_end 9 = .ok (.iload_n 1, 1) := by decide +kernel
theorem dX10_end_10 : decode cX10_end 10 = .ok (.aload_n 0, 1) := by decide +kernel
theorem dX10_end_11 : decode cX10_end 11 = .ok (.getfield 133, 3) := by decide +kernel
theorem dX10_end_14 : decode cX10_end 14 = .ok (.if_icmp .le 5, 3) := by decide +kernel
theorem dX10_end_17 : decode cX10_end 17 = .ok (.iconst 0, 1) := by decide +kernel
theorem dX10_end_18 : decode cX10_end 18 = .ok (.ireturn, 1) := by decide +kernel
theorem dX10_end_19 : decode cX10_end 19 = .ok (.aload_n 0, 1) := by decide +kernel
theorem dX10_end_20 : decode cX10_end 20 = .ok (.iload_n 1, 1) := by decide +kernel
theorem dX10_end_21 : decode cX10_end 21 = .ok (.putfield 133, 3) := by decide +kernel
theorem dX10_end_24 : decode cX10_end 24 = .ok (.iconst 1, 1) := by decide +kernel
theorem dX10_end_25 : decode cX10_end 25 = .ok (.ireturn, 1) := by decide +kernel
theorem dX10_feed_0 : decode cX10_feed 0 = .ok (.aload_n 0, 1) := by decide +kernel
theorem dX10_feed_1 : decode cX10_feed 1 = .ok (.iconst 0, 1) := by decide +kernel
theorem dX10_feed_2 : decode cX10_feed 2 = .ok (.putfield 1, 3) := by decide +kernel
theorem dX10_feed_5 : decode cX10_feed 5 = .ok (.aload_n 0, 1) := by decide +kernel
theorem dX10_feed_6 : decode cX10_feed 6 = .ok (.getfield 133, 3) := by decide +kernel
theorem dX10_feed_9 : decode cX10_feed 9 = .ok (.bipush 20, 2) := by decide +kernel
theorem dX10_feed_11 : decode cX10_feed 11 = .ok (.iadd, 1) := by decide +kernel
theorem dX10_feed_12 : decode cX10_feed 12 = .ok (.sipush 800, 3) := by decide +kernel
theorem dX10_feed_15 : decode cX10_feed 15 = .ok (.if_icmp .le 5, 3) := by decide +kernel
theorem dX10_feed_20 : decode cX10_feed 20 = .ok (.aload_n 0, 1) := by decide +kernel
theorem dX10_feed_21 : decode cX10_feed 21 = .ok (.iload_n 1, 1) := by decide +kernel
theorem dX10_feed_22 : decode cX10_feed 22 = .ok (.invokevirtual 136, 3) := by decide +kernel
theorem dX10_feed_25 : decode cX10_feed 25 = .ok (.aload_n 0, 1) := by decide +kernel
theorem dX10_feed_26 : decode cX10_feed 26 = .ok (.iload_n 2, 1) := by decide +kernel
theorem dX10_feed_27 : decode cX10_feed 27 = .ok (.invokevirtual 136, 3) := by decide +kernel
theorem dX10_feed_30 : decode cX10_feed 30 = .ok (.aload_n 0, 1) := by decide +kernel
theorem dX10_feed_31 : decode cX10_feed 31 = .ok (.iload_n 3, 1) := by decide +kernel
theorem dX10_feed_32 : decode cX10_feed 32 = .ok (.invokevirtual 136, 3) := by decide +kernel
theorem dX10_feed_35 : decode cX10_feed 35 = .ok (.aload_n 0, 1) := by decide +kernel
theorem dX10_feed_36 : decode cX10_feed 36 = .ok (.iload 4, 2) := by decide +kernel
theorem dX10_feed_38 : decode cX10_feed 38 = .ok (.invokevirtual 136, 3) := by decide +kernel
theorem dX10_feed_41 : decode cX10_feed 41 = .ok (.aload_n 0, 1) := by decide +kernel
theorem dX10_feed_42 : decode cX10_feed 42 = .ok (.iload 5, 2) := by decide +kernel
theorem dX10_feed_44 : decode cX10_feed 44 = .ok (.invokevirtual 136, 3) := by decide +kernel
theorem dX10_feed_47 : decode cX10_feed 47 = .ok (.aload_n 0, 1) := by decide +kernel
theorem dX10_feed_48 : decode cX10_feed 48 = .ok (.getfield 133, 3) := by decide +kernel
theorem dX10_feed_51 : decode cX10_feed 51 = .ok (.ireturn, 1) := by decide +kernel
theorem dX10_four_0 : decode cX10_four 0 = .ok (.bipush 24, 2) := by decide +kernel
theorem dX10_four_2 : decode cX10_four 2 = .ok (.istore_n 2, 1) := by decide +kernel
theorem dX10_four_3 : decode cX10_four 3 = .ok (.iload_n 2, 1) := by decide +kernel
theorem dX10_four_4 : decode cX10_four 4 = .ok (.ifCond .lt 32, 3) := by decide +kernel
theorem dX10_four_7 : decode cX10_four 7 = .ok (.aload_n 0, 1) := by decide +kernel
theorem dX10_four_8 : decode cX10_four 8 = .ok (.getfield 33, 3) := by decide +kernel
theorem dX10_four_11 : decode cX10_four 11 = .ok (.aload_n 0, 1) := by decide +kernel
theorem dX10_four_12 : decode cX10_four 12 = .ok (.getfield 133, 3) := by decide +kernel
theorem dX10_four_15 : decode cX10_four 15 = .ok (.iload_n 1, 1) := by decide +kernel
theorem dX10_four_16 : decode cX10_four 16 = .ok (.iload_n 2, 1) := by decide +kernel
theorem dX10_four_17 : decode cX10_four 17 = .ok (.ishr, 1) := by decide +kernel
theorem dX10_four_18 : decode cX10_four 18 = .ok (.i2b, 1) := by decide +kernel
theorem dX10_four_19 : decode cX10_four 19 = .ok (.bastore, 1) := by decide +kernel
theorem dX10_four_20 : decode cX10_four 20 = .ok (.aload_n 0, 1) := by decide +kernel
theorem dX10_four_21 : decode cX10_four 21 = .ok (.dup, 1) := by decide +kernel
theorem dX10_four_22 : decode cX10_four 22 = .ok (.getfield 133, 3) := by decide +kernel
theorem dX10_four_25 : decode cX10_four 25 = .ok (.iconst 1, 1) := by decide +kernel
theorem dX10_four_26 : decode cX10_four 26 = .ok (.iadd, 1) := by decide +kernel
theorem dX10_four_27 : decode cX10_four 27 = .ok (.putfield 133, 3) := by decide +kernel
theorem dX10_four_30 : decode cX10_four 30 = .ok (.iinc 2 (-8), 3) := by decide +kernel
theorem dX10_four_33 : decode cX10_four 33 = .ok (.goto (-30), 3) := by decide +kernel
theorem dX10_four_36 : decode cX10_four 36 = .ok (.return_, 1) := by decide +kernel
theorem dX10_hasWell_0 : decode cX10_hasWell 0 = .ok (.iload_n 1, 1) := by decide +kernel
theorem dX10_hasWell_1 : decode cX10_hasWell 1 = .ok (.ifCond .lt 22, 3) := by decide +kernel
theorem dX10_hasWell_4 : decode cX10_hasWell 4 = .ok (.iload_n 1, 1) := by decide +kernel
theorem dX10_hasWell_5 : decode cX10_hasWell 5 = .ok (.bipush 6, 2) := by decide +kernel
theorem dX10_hasWell_7 : decode cX10_hasWell 7 = .ok (.if_icmp .ge 16, 3) := by decide +kernel
theorem dX10_hasWell_10 : decode cX10_hasWell 10 = .ok (.aload_n 0, 1) := by decide +kernel
theorem dX10_hasWell_11 : decode cX10_hasWell 11 = .ok (.getfield 13, 3) := by decide +kernel
theorem dX10_hasWell_14 : decode cX10_hasWell 14 = .ok (.iload_n 1, 1) := by decide +kernel
theorem dX10_hasWell_15 : decode cX10_hasWell 15 = .ok (.baload, 1) := by decide +kernel
theorem dX10_hasWell_16 : decode cX10_hasWell 16 = .ok (.ifCond .eq 7, 3) := by decide +kernel
theorem dX10_hasWell_23 : decode cX10_hasWell 23 = .ok (.iconst 0, 1) := by decide +kernel
theorem dX10_hasWell_24 : decode cX10_hasWell 24 = .ok (.ireturn, 1) := by decide +kernel
theorem dX10_isClan_0 : decode cX10_isClan 0 = .ok (.iload_n 0, 1) := by decide +kernel
theorem dX10_isClan_1 : decode cX10_isClan 1 = .ok (.ifCond .lt 13, 3) := by decide +kernel
theorem dX10_isClan_4 : decode cX10_isClan 4 = .ok (.iload_n 0, 1) := by decide +kernel
theorem dX10_isClan_5 : decode cX10_isClan 5 = .ok (.bipush 6, 2) := by decide +kernel
theorem dX10_isClan_7 : decode cX10_isClan 7 = .ok (.if_icmp .ge 7, 3) := by decide +kernel
theorem dX10_isClan_10 : decode cX10_isClan 10 = .ok (.iconst 1, 1) := by decide +kernel
theorem dX10_isClan_11 : decode cX10_isClan 11 = .ok (.goto 4, 3) := by decide +kernel
theorem dX10_isClan_14 : decode cX10_isClan 14 = .ok (.iconst 0, 1) := by decide +kernel
theorem dX10_isClan_15 : decode cX10_isClan 15 = .ok (.ireturn, 1) := by decide +kernel
theorem dX10_next0_0 : decode cX10_next0 0 = .ok (.aload_n 0, 1) := by decide +kernel
theorem dX10_next0_1 : decode cX10_next0 1 = .ok (.invokevirtual 146, 3) := by decide +kernel
theorem dX10_next0_4 : decode cX10_next0 4 = .ok (.bipush 32, 2) := by decide +kernel
theorem dX10_next0_6 : decode cX10_next0 6 = .ok (.if_icmp .eq 12, 3) := by decide +kernel
theorem dX10_next0_9 : decode cX10_next0 9 = .ok (.aload_n 0, 1) := by decide +kernel
theorem dX10_next0_10 : decode cX10_next0 10 = .ok (.invokevirtual 146, 3) := by decide +kernel
theorem dX10_next0_13 : decode cX10_next0 13 = .ok (.bipush 10, 2) := by decide +kernel
theorem dX10_next0_15 : decode cX10_next0 15 = .ok (.if_icmp .ne 16, 3) := by decide +kernel
theorem dX10_next0_31 : decode cX10_next0 31 = .ok (.aload_n 0, 1) := by decide +kernel
theorem dX10_next0_32 : decode cX10_next0 32 = .ok (.aload_n 0, 1) := by decide +kernel
theorem dX10_next0_33 : decode cX10_next0 33 = .ok (.getfield 140, 3) := by decide +kernel
theorem dX10_next0_36 : decode cX10_next0 36 = .ok (.putfield 150, 3) := by decide +kernel
theorem dX10_next0_39 : decode cX10_next0 39 = .ok (.aload_n 0, 1) := by decide +kernel
theorem dX10_next0_40 : decode cX10_next0 40 = .ok (.invokevirtual 146, 3) := by decide +kernel
theorem dX10_next0_43 : decode cX10_next0 43 = .ok (.istore_n 1, 1) := by decide +kernel
theorem dX10_next0_44 : decode cX10_next0 44 = .ok (.iload_n 1, 1) := by decide +kernel
theorem dX10_next0_45 : decode cX10_next0 45 = .ok (.ifCond .ge 11, 3) := by decide +kernel
theorem dX10_next0_48 : decode cX10_next0 48 = .ok (.aload_n 0, 1) := by decide +kernel
theorem dX10_next0_49 : decode cX10_next0 49 = .ok (.iconst 0, 1) := by decide +kernel
theorem dX10_next0_50 : decode cX10_next0 50 = .ok (.putfield 153, 3) := by decide +kernel
theorem dX10_next0_53 : decode cX10_next0 53 = .ok (.goto 235, 3) := by decide +kernel
theorem dX10_next0_288 : decode cX10_next0 288 = .ok (.return_, 1) := by decide +kernel
theorem dX10_peek_0 : decode cX10_peek 0 = .ok (.aload_n 0, 1) := by decide +kernel
theorem dX10_peek_1 : decode cX10_peek 1 = .ok (.getfield 140, 3) := by decide +kernel
theorem dX10_peek_4 : decode cX10_peek 4 = .ok (.aload_n 0, 1) := by decide +kernel
theorem dX10_peek_5 : decode cX10_peek 5 = .ok (.getfield 143, 3) := by decide +kernel
theorem dX10_peek_8 : decode cX10_peek 8 = .ok (.if_icmp .ge 19, 3) := by decide +kernel
theorem dX10_peek_27 : decode cX10_peek 27 = .ok (.iconst (-1), 1) := by decide +kernel
theorem dX10_peek_28 : decode cX10_peek 28 = .ok (.ireturn, 1) := by decide +kernel
theorem dX10_rights_0 : decode cX10_rights 0 = .ok (.aload_n 0, 1) := by decide +kernel
theorem dX10_rights_1 : decode cX10_rights 1 = .ok (.iconst 0, 1) := by decide +kernel
theorem dX10_rights_2 : decode cX10_rights 2 = .ok (.putfield 1, 3) := by decide +kernel
theorem dX10_rights_5 : decode cX10_rights 5 = .ok (.aload_n 0, 1) := by decide +kernel
theorem dX10_rights_6 : decode cX10_rights 6 = .ok (.aload_n 0, 1) := by decide +kernel
theorem dX10_rights_7 : decode cX10_rights 7 = .ok (.getfield 133, 3) := by decide +kernel
theorem dX10_rights_10 : decode cX10_rights 10 = .ok (.putfield 143, 3) := by decide +kernel
theorem dX10_rights_13 : decode cX10_rights 13 = .ok (.aload_n 0, 1) := by decide +kernel
theorem dX10_rights_14 : decode cX10_rights 14 = .ok (.iconst 0, 1) := by decide +kernel
theorem dX10_rights_15 : decode cX10_rights 15 = .ok (.putfield 133, 3) := by decide +kernel
theorem dX10_rights_18 : decode cX10_rights 18 = .ok (.aload_n 0, 1) := by decide +kernel
theorem dX10_rights_19 : decode cX10_rights 19 = .ok (.iconst 0, 1) := by decide +kernel
theorem dX10_rights_20 : decode cX10_rights 20 = .ok (.putfield 140, 3) := by decide +kernel
theorem dX10_rights_23 : decode cX10_rights 23 = .ok (.aload_n 0, 1) := by decide +kernel
theorem dX10_rights_24 : decode cX10_rights 24 = .ok (.iconst 0, 1) := by decide +kernel
theorem dX10_rights_25 : decode cX10_rights 25 = .ok (.putfield 170, 3) := by decide +kernel
theorem dX10_rights_28 : decode cX10_rights 28 = .ok (.aload_n 0, 1) := by decide +kernel
theorem dX10_rights_29 : decode cX10_rights 29 = .ok (.getfield 201, 3) := by decide +kernel
theorem dX10_rights_32 : decode cX10_rights 32 = .ok (.istore_n 1, 1) := by decide +kernel
theorem dX10_rights_33 : decode cX10_rights 33 = .ok (.aload_n 0, 1) := by decide +kernel
theorem dX10_rights_34 : decode cX10_rights 34 = .ok (.iconst 1, 1) := by decide +kernel
theorem dX10_rights_35 : decode cX10_rights 35 = .ok (.aload_n 0, 1) := by decide +kernel
theorem dX10_rights_36 : decode cX10_rights 36 = .ok (.getfield 201, 3) := by decide +kernel
theorem dX10_rights_39 : decode cX10_rights 39 = .ok (.isub, 1) := by decide +kernel
theorem dX10_rights_40 : decode cX10_rights 40 = .ok (.putfield 201, 3) := by decide +kernel
theorem dX10_rights_43 : decode cX10_rights 43 = .ok (.aload_n 0, 1) := by decide +kernel
theorem dX10_rights_44 : decode cX10_rights 44 = .ok (.iconst 0, 1) := by decide +kernel
theorem dX10_rights_45 : decode cX10_rights 45 = .ok (.putfield 204, 3) := by decide +kernel
theorem dX10_rights_48 : decode cX10_rights 48 = .ok (.aload_n 0, 1) := by decide +kernel
theorem dX10_rights_49 : decode cX10_rights 49 = .ok (.invokevirtual 184, 3) := by decide +kernel
theorem dX10_rights_52 : decode cX10_rights 52 = .ok (.iconst 1, 1) := by decide +kernel
theorem dX10_rights_53 : decode cX10_rights 53 = .ok (.istore_n 2, 1) := by decide +kernel
theorem dX10_rights_54 : decode cX10_rights 54 = .ok (.iload_n 2, 1) := by decide +kernel
theorem dX10_rights_55 : decode cX10_rights 55 = .ok (.ifCond .eq 18, 3) := by decide +kernel
theorem dX10_rights_58 : decode cX10_rights 58 = .ok (.aload_n 0, 1) := by decide +kernel
theorem dX10_rights_59 : decode cX10_rights 59 = .ok (.getfield 153, 3) := by decide +kernel
theorem dX10_rights_62 : decode cX10_rights 62 = .ok (.ifCond .eq 11, 3) := by decide +kernel
theorem dX10_rights_73 : decode cX10_rights 73 = .ok (.iload_n 2, 1) := by decide +kernel
theorem dX10_rights_74 : decode cX10_rights 74 = .ok (.ifCond .ne 15, 3) := by decide +kernel
theorem dX10_rights_89 : decode cX10_rights 89 = .ok (.aload_n 0, 1) := by decide +kernel
theorem dX10_rights_90 : decode cX10_rights 90 = .ok (.aload_n 0, 1) := by decide +kernel
theorem dX10_rights_91 : decode cX10_rights 91 = .ok (.getfield 204, 3) := by decide +kernel
theorem dX10_rights_94 : decode cX10_rights 94 = .ok (.putfield 210, 3) := by decide +kernel
theorem dX10_rights_97 : decode cX10_rights 97 = .ok (.iconst 0, 1) := by decide +kernel
theorem dX10_rights_98 : decode cX10_rights 98 = .ok (.istore_n 3, 1) := by decide +kernel
theorem dX10_rights_99 : decode cX10_rights 99 = .ok (.iload_n 3, 1) := by decide +kernel
theorem dX10_rights_100 : decode cX10_rights 100 = .ok (.bipush 6, 2) := by decide +kernel
theorem dX10_rights_102 : decode cX10_rights 102 = .ok (.if_icmp .ge 49, 3) := by decide +kernel
theorem dX10_rights_105 : decode cX10_rights 105 = .ok (.aload_n 0, 1) := by decide +kernel
theorem dX10_rights_106 : decode cX10_rights 106 = .ok (.getfield 213, 3) := by decide +kernel
theorem dX10_rights_109 : decode cX10_rights 109 = .ok (.istore 4, 2) := by decide +kernel
theorem dX10_rights_111 : decode cX10_rights 111 = .ok (.iload 4, 2) := by decide +kernel
theorem dX10_rights_113 : decode cX10_rights 113 = .ok (.sipush 199, 3) := by decide +kernel
theorem dX10_rights_116 : decode cX10_rights 116 = .ok (.if_icmp .gt 29, 3) := by decide +kernel
theorem dX10_rights_119 : decode cX10_rights 119 = .ok (.aload_n 0, 1) := by decide +kernel
theorem dX10_rights_120 : decode cX10_rights 120 = .ok (.getfield 30, 3) := by decide +kernel
theorem dX10_rights_123 : decode cX10_rights 123 = .ok (.sipush 200, 3) := by decide +kernel
theorem dX10_rights_126 : decode cX10_rights 126 = .ok (.iload_n 3, 1) := by decide +kernel
theorem dX10_rights_127 : decode cX10_rights 127 = .ok (.imul, 1) := by decide +kernel
theorem dX10_rights_128 : decode cX10_rights 128 = .ok (.iload 4, 2) := by decide +kernel
theorem dX10_rights_130 : decode cX10_rights 130 = .ok (.iadd, 1) := by decide +kernel
theorem dX10_rights_131 : decode cX10_rights 131 = .ok (.aload_n 0, 1) := by decide +kernel
theorem dX10_rights_132 : decode cX10_rights 132 = .ok (.iload_n 3, 1) := by decide +kernel
theorem dX10_rights_133 : decode cX10_rights 133 = .ok (.iload 4, 2) := by decide +kernel
theorem dX10_rights_135 : decode cX10_rights 135 = .ok (.invokevirtual 216, 3) := by decide +kernel
theorem dX10_rights_138 : decode cX10_rights 138 = .ok (.iastore, 1) := by decide +kernel
theorem dX10_rights_139 : decode cX10_rights 139 = .ok (.iinc 4 1, 3) := by decide +kernel
theorem dX10_rights_142 : decode cX10_rights 142 = .ok (.goto (-31), 3) := by decide +kernel
theorem dX10_rights_145 : decode cX10_rights 145 = .ok (.iinc 3 1, 3) := by decide +kernel
theorem dX10_rights_148 : decode cX10_rights 148 = .ok (.goto (-49), 3) := by decide +kernel
theorem dX10_rights_151 : decode cX10_rights 151 = .ok (.aload_n 0, 1) := by decide +kernel
theorem dX10_rights_152 : decode cX10_rights 152 = .ok (.invokevirtual 220, 3) := by decide +kernel
theorem dX10_rights_155 : decode cX10_rights 155 = .ok (.aload_n 0, 1) := by decide +kernel
theorem dX10_rights_156 : decode cX10_rights 156 = .ok (.getfield 210, 3) := by decide +kernel
theorem dX10_rights_159 : decode cX10_rights 159 = .ok (.ireturn, 1) := by decide +kernel
theorem dX10_thrown_0 : decode cX10_thrown 0 = .ok (.aload_n 0, 1) := by decide +kernel
theorem dX10_thrown_1 : decode cX10_thrown 1 = .ok (.getfield 1, 3) := by decide +kernel
theorem dX10_thrown_4 : decode cX10_thrown 4 = .ok (.ireturn, 1) := by decide +kernel
theorem dX10_well_0 : decode cX10_well 0 = .ok (.aload_n 0, 1) := by decide +kernel
theorem dX10_well_1 : decode cX10_well 1 = .ok (.iconst 0, 1) := by decide +kernel
theorem dX10_well_2 : decode cX10_well 2 = .ok (.putfield 1, 3) := by decide +kernel
theorem dX10_well_5 : decode cX10_well 5 = .ok (.iload_n 1, 1) := by decide +kernel
theorem dX10_well_6 : decode cX10_well 6 = .ok (.ifCond .lt 52, 3) := by decide +kernel
theorem dX10_well_9 : decode cX10_well 9 = .ok (.iload_n 1, 1) := by decide +kernel
theorem dX10_well_10 : decode cX10_well 10 = .ok (.bipush 6, 2) := by decide +kernel
theorem dX10_well_12 : decode cX10_well 12 = .ok (.if_icmp .ge 46, 3) := by decide +kernel
theorem dX10_well_15 : decode cX10_well 15 = .ok (.aload_n 0, 1) := by decide +kernel
theorem dX10_well_16 : decode cX10_well 16 = .ok (.getfield 13, 3) := by decide +kernel
theorem dX10_well_19 : decode cX10_well 19 = .ok (.iload_n 1, 1) := by decide +kernel
theorem dX10_well_20 : decode cX10_well 20 = .ok (.baload, 1) := by decide +kernel
theorem dX10_well_21 : decode cX10_well 21 = .ok (.ifCond .ne 37, 3) := by decide +kernel
theorem dX10_well_24 : decode cX10_well 24 = .ok (.iload_n 2, 1) := by decide +kernel
theorem dX10_well_25 : decode cX10_well 25 = .ok (.iconst 1, 1) := by decide +kernel
theorem dX10_well_26 : decode cX10_well 26 = .ok (.if_icmp .lt 32, 3) := by decide +kernel
theorem dX10_well_29 : decode cX10_well 29 = .ok (.iload_n 2, 1) := by decide +kernel
theorem dX10_well_30 : decode cX10_well 30 = .ok (.sipush 1000, 3) := by decide +kernel
theorem dX10_well_33 : decode cX10_well 33 = .ok (.if_icmp .gt 25, 3) := by decide +kernel
theorem dX10_well_36 : decode cX10_well 36 = .ok (.iload_n 3, 1) := by decide +kernel
theorem dX10_well_37 : decode cX10_well 37 = .ok (.ifCond .lt 21, 3) := by decide +kernel
theorem dX10_well_40 : decode cX10_well 40 = .ok (.iload_n 3, 1) := by decide +kernel
theorem dX10_well_41 : decode cX10_well 41 = .ok (.sipush 200, 3) := by decide +kernel
theorem dX10_well_44 : decode cX10_well 44 = .ok (.if_icmp .gt 14, 3) := by decide +kernel
theorem dX10_well_47 : decode cX10_well 47 = .ok (.iload 4, 2) := by decide +kernel
theorem dX10_well_49 : decode cX10_well 49 = .ok (.ifCond .lt 9, 3) := by decide +kernel
theorem dX10_well_52 : decode cX10_well 52 = .ok (.iload 4, 2) := by decide +kernel
theorem dX10_well_54 : decode cX10_well 54 = .ok (.iload_n 2, 1) := by decide +kernel
theorem dX10_well_55 : decode cX10_well 55 = .ok (.if_icmp .le 5, 3) := by decide +kernel
theorem dX10_well_58 : decode cX10_well 58 = .ok (.iconst 0, 1) := by decide +kernel
theorem dX10_well_59 : decode cX10_well 59 = .ok (.ireturn, 1) := by decide +kernel
theorem dX10_well_60 : decode cX10_well 60 = .ok (.aload_n 0, 1) := by decide +kernel
theorem dX10_well_61 : decode cX10_well 61 = .ok (.getfield 13, 3) := by decide +kernel
theorem dX10_well_64 : decode cX10_well 64 = .ok (.iload_n 1, 1) := by decide +kernel
theorem dX10_well_65 : decode cX10_well 65 = .ok (.iconst 1, 1) := by decide +kernel
theorem dX10_well_66 : decode cX10_well 66 = .ok (.bastore, 1) := by decide +kernel
theorem dX10_well_67 : decode cX10_well 67 = .ok (.aload_n 0, 1) := by decide +kernel
theorem dX10_well_68 : decode cX10_well 68 = .ok (.getfield 17, 3) := by decide +kernel
theorem dX10_well_71 : decode cX10_well 71 = .ok (.iload_n 1, 1) := by decide +kernel
theorem dX10_well_72 : decode cX10_well 72 = .ok (.iload_n 2, 1) := by decide +kernel
theorem dX10_well_73 : decode cX10_well 73 = .ok (.iastore, 1) := by decide +kernel
theorem dX10_well_74 : decode cX10_well 74 = .ok (.aload_n 0, 1) := by decide +kernel
theorem dX10_well_75 : decode cX10_well 75 = .ok (.getfield 21, 3) := by decide +kernel
theorem dX10_well_78 : decode cX10_well 78 = .ok (.iload_n 1, 1) := by decide +kernel
theorem dX10_well_79 : decode cX10_well 79 = .ok (.iload_n 3, 1) := by decide +kernel
theorem dX10_well_80 : decode cX10_well 80 = .ok (.iastore, 1) := by decide +kernel
theorem dX10_well_81 : decode cX10_well 81 = .ok (.aload_n 0, 1) := by decide +kernel
theorem dX10_well_82 : decode cX10_well 82 = .ok (.getfield 24, 3) := by decide +kernel
theorem dX10_well_85 : decode cX10_well 85 = .ok (.iload_n 1, 1) := by decide +kernel
theorem dX10_well_86 : decode cX10_well 86 = .ok (.iload 4, 2) := by decide +kernel
theorem dX10_well_88 : decode cX10_well 88 = .ok (.iastore, 1) := by decide +kernel
theorem dX10_well_89 : decode cX10_well 89 = .ok (.aload_n 0, 1) := by decide +kernel
theorem dX10_well_90 : decode cX10_well 90 = .ok (.getfield 27, 3) := by decide +kernel
theorem dX10_well_93 : decode cX10_well 93 = .ok (.iload_n 1, 1) := by decide +kernel
theorem dX10_well_94 : decode cX10_well 94 = .ok (.iload 4, 2) := by decide +kernel
theorem dX10_well_96 : decode cX10_well 96 = .ok (.iastore, 1) := by decide +kernel
theorem dX10_well_97 : decode cX10_well 97 = .ok (.iconst 1, 1) := by decide +kernel
theorem dX10_well_98 : decode cX10_well 98 = .ok (.ireturn, 1) := by decide +kernel
set_option maxHeartbeats 4000000 in
set_option maxRecDepth 100000 in
/-- WellCourtModel.isClan -/
theorem m_isClan (l : Launch) (G : va_G) (cy : Nat → ClassId) (sz : Nat) (x : Int32) (Xx : Int) (kx : x.toInt = Xx) : gMi l yX10_isClan cX10_isClan 1 (some .boolean) ({ frames := 0, cells := 0, slots := 0, locals := 0 }) G cy sz [.int x] [] (fun (r : Int32) (u : Unit) => (r = 1 ∧ (0 ≤ Xx) ∧ (Xx ≤ 5)) ∨ (r = 0 ∧ (Xx < 0 ∨ 5 < Xx))) (fun (u : Unit) => []) := by
  refine gz_start (fun A => gQi G cy _ _ A) (by decide) (Nat.le_of_ble_eq_true rfl) ?_
  intro p e s m below meth c A ls H hx hb hr hml hlocks hin hown hts hK hov hsz hP hD hS hA hl
  have hl : lv_has ls 1 [(0, .int x)] := hl
  refine lv_iload_n hx hb dX10_isClan_0 rfl (lv_at hl 0 rfl) ?_
  refine lv_if_lt (tgt := 14) hx hb dX10_isClan_1 (by decide) (fun c_1 => ?_) (fun c_1 => ?_)
  · have ic_1 := gz_lt (rfl : x.toInt = x.toInt) (by decide : (0 : Int32).toInt = 0) c_1
    refine lv_iconst (v := 0) hx hb dX10_isClan_14 (by decide) ?_
    exact gz_iret (p := p) (l := l) (e := e) (s := s) (m := m) (below := below) (meth := meth) (c := c) (H := H) (cells := 0) (slots := 0) (mc := 0) (ms := 0) (cf := (fun (u : Unit) => [])) (post := (fun (r : Int32) (u : Unit) => (r = 1 ∧ (0 ≤ Xx) ∧ (Xx ≤ 5)) ∨ (r = 0 ∧ (Xx < 0 ∨ 5 < Xx)))) hx hb hr hlocks hK hP hD hS () [] (by decide) (Or.inr (⟨rfl, by omega⟩)) (by decide) rfl (by exact Nat.le_of_ble_eq_true rfl) (by exact Nat.le_of_ble_eq_true rfl) dX10_isClan_15
  · have ic_1 := gz_nlt (rfl : x.toInt = x.toInt) (by decide : (0 : Int32).toInt = 0) c_1
    refine lv_iload_n hx hb dX10_isClan_4 rfl (lv_at hl 0 rfl) ?_
    refine lv_bipush (v := 6) hx hb dX10_isClan_5 (by decide) ?_
    refine lv_icmp_ge (tgt := 14) hx hb dX10_isClan_7 (by decide) (fun c_2 => ?_) (fun c_2 => ?_)
    · have ic_2 := gz_le (by decide : (6 : Int32).toInt = 6) (rfl : x.toInt = x.toInt) c_2
      refine lv_iconst (v := 0) hx hb dX10_isClan_14 (by decide) ?_
      exact gz_iret (p := p) (l := l) (e := e) (s := s) (m := m) (below := below) (meth := meth) (c := c) (H := H) (cells := 0) (slots := 0) (mc := 0) (ms := 0) (cf := (fun (u : Unit) => [])) (post := (fun (r : Int32) (u : Unit) => (r = 1 ∧ (0 ≤ Xx) ∧ (Xx ≤ 5)) ∨ (r = 0 ∧ (Xx < 0 ∨ 5 < Xx)))) hx hb hr hlocks hK hP hD hS () [] (by decide) (Or.inr (⟨rfl, by omega⟩)) (by decide) rfl (by exact Nat.le_of_ble_eq_true rfl) (by exact Nat.le_of_ble_eq_true rfl) dX10_isClan_15
    · have ic_2 := gz_nle (by decide : (6 : Int32).toInt = 6) (rfl : x.toInt = x.toInt) c_2
      refine lv_iconst (v := 1) hx hb dX10_isClan_10 (by decide) ?_
      refine lv_goto (tgt := 15) hx hb dX10_isClan_11 (by decide) ?_
      exact gz_iret (p := p) (l := l) (e := e) (s := s) (m := m) (below := below) (meth := meth) (c := c) (H := H) (cells := 0) (slots := 0) (mc := 0) (ms := 0) (cf := (fun (u : Unit) => [])) (post := (fun (r : Int32) (u : Unit) => (r = 1 ∧ (0 ≤ Xx) ∧ (Xx ≤ 5)) ∨ (r = 0 ∧ (Xx < 0 ∨ 5 < Xx)))) hx hb hr hlocks hK hP hD hS () [] (by decide) (Or.inl (⟨rfl, by omega, by omega⟩)) (by decide) rfl (by exact Nat.le_of_ble_eq_true rfl) (by exact Nat.le_of_ble_eq_true rfl) dX10_isClan_15

set_option maxHeartbeats 4000000 in
set_option maxRecDepth 100000 in
/-- WellCourtModel.thrown -/
theorem m_thrown (l : Launch) (G : va_G) (cy : Nat → ClassId) (sz : Nat) (h0 : Nat) (w0 : Nat) (w1 : Nat) (w2 : Nat) (w3 : Nat) (w4 : Nat) (w5 : Nat) (w6 : Nat) (w7 : Nat) (w8 : Nat) (w9 : Nat) (w10 : Nat) (w11 : Nat) (w12 : Nat) (w13 : Nat) (w14 : Nat) (w15 : Nat) (w16 : Nat) (w17 : Nat) (w18 : Nat) (w19 : Nat) (w20 : Nat) (w21 : Nat) (w22 : Nat) (w23 : Nat) (w24 : Nat) (w25 : Nat) (w26 : Nat) (w27 : Nat) (w28 : Nat) (w29 : Nat) (w30 : Nat) (w31 : Nat) (w32 : Nat) (w33 : Nat) (w34 : Nat) (w35 : Nat) (w36 : Nat) (w37 : Nat) (t : Int32)   : gMi l yX10_thrown cX10_thrown 1 (some .int) ({ frames := 0, cells := 0, slots := 0, locals := 0 }) G cy sz [.ref h0] [(h0, .inr (10, [.int t, .ref w0, .ref w1, .ref w2, .ref w3, .ref w4, .ref w5, .int 0, .ref w6, .int 0, .int 0, .int 0, .int 0, .int 0, .int 0, .int 0, .int 0, .long 0, .int 0, .int 0, .ref w7, .ref w8, .ref w9, .ref w10, .ref w11, .ref w12, .ref w13, .ref w14, .int 0, .int 0, .int 0, .ref w15, .ref w16, .ref w17, .ref w18, .ref w19, .ref w20, .int 0, .ref w21, .ref w22, .ref w23, .ref w24, .ref w25, .ref w26, .ref w27, .ref w28, .ref w29, .ref w30, .ref w31, .ref w32, .ref w33, .ref w34, .ref w35, .ref w36, .ref w37, .int (-1), .int 0, .int 0, .int 0]))] (fun (r : Int32) (u : Unit) => r = t) (fun (u : Unit) => [(h0, .inr (10, [.int t, .ref w0, .ref w1, .ref w2, .ref w3, .ref w4, .ref w5, .int 0, .ref w6, .int 0, .int 0, .int 0, .int 0, .int 0, .int 0, .int 0, .int 0, .long 0, .int 0, .int 0, .ref w7, .ref w8, .ref w9, .ref w10, .ref w11, .ref w12, .ref w13, .ref w14, .int 0, .int 0, .int 0, .ref w15, .ref w16, .ref w17, .ref w18, .ref w19, .ref w20, .int 0, .ref w21, .ref w22, .ref w23, .ref w24, .ref w25, .ref w26, .ref w27, .ref w28, .ref w29, .ref w30, .ref w31, .ref w32, .ref w33, .ref w34, .ref w35, .ref w36, .ref w37, .int (-1), .int 0, .int 0, .int 0]))]) := by
  refine gz_start (fun A => gQi G cy _ _ A) (by decide) (Nat.le_of_ble_eq_true rfl) ?_
  intro p e s m below meth c A ls H hx hb hr hml hlocks hin hown hts hK hov hsz hP hD hS hA hl
  have hl : lv_has ls 1 [(0, .ref h0)] := hl
  refine lv_aload_n hx hb dX10_thrown_0 rfl (lv_at hl 0 rfl) ?_
  refine va_get (ci := 10) (v := .int t) (C := RX10) (T := TX10) (N := 59) hx hb hts inX10 hown hK hP 0 rfl rfl 0 (by decide) (hts _ gm_901) (fun _ h9 => h9) rfl dX10_thrown_1 ?_
  exact gz_iret (p := p) (l := l) (e := e) (s := s) (m := m) (below := below) (meth := meth) (c := c) (H := H) (cells := 0) (slots := 0) (mc := 0) (ms := 0) (cf := (fun (u : Unit) => [(h0, .inr (10, [.int t, .ref w0, .ref w1, .ref w2, .ref w3, .ref w4, .ref w5, .int 0, .ref w6, .int 0, .int 0, .int 0, .int 0, .int 0, .int 0, .int 0, .int 0, .long 0, .int 0, .int 0, .ref w7, .ref w8, .ref w9, .ref w10, .ref w11, .ref w12, .ref w13, .ref w14, .int 0, .int 0, .int 0, .ref w15, .ref w16, .ref w17, .ref w18, .ref w19, .ref w20, .int 0, .ref w21, .ref w22, .ref w23, .ref w24, .ref w25, .ref w26, .ref w27, .ref w28, .ref w29, .ref w30, .ref w31, .ref w32, .ref w33, .ref w34, .ref w35, .ref w36, .ref w37, .int (-1), .int 0, .int 0, .int 0]))])) (post := (fun (r : Int32) (u : Unit) => r = t)) hx hb hr hlocks hK hP hD hS () [0] rfl rfl (by decide) rfl (by exact Nat.le_of_ble_eq_true rfl) (by exact Nat.le_of_ble_eq_true rfl) dX10_thrown_4

set_option maxHeartbeats 4000000 in
set_option maxRecDepth 100000 in
/-- WellCourtModel.hasWell -/
theorem m_hasWell (l : Launch) (G : va_G) (cy : Nat → ClassId) (sz : Nat) (h0 : Nat) (w0 : Nat) (w1 : Nat) (w2 : Nat) (w3 : Nat) (w4 : Nat) (w5 : Nat) (w6 : Nat) (w7 : Nat) (w8 : Nat) (w9 : Nat) (w10 : Nat) (w11 : Nat) (w12 : Nat) (w13 : Nat) (w14 : Nat) (w15 : Nat) (w16 : Nat) (w17 : Nat) (w18 : Nat) (w19 : Nat) (w20 : Nat) (w21 : Nat) (w22 : Nat) (w23 : Nat) (w24 : Nat) (w25 : Nat) (w26 : Nat) (w27 : Nat) (w28 : Nat) (w29 : Nat) (w30 : Nat) (w31 : Nat) (w32 : Nat) (w33 : Nat) (w34 : Nat) (w35 : Nat) (w36 : Nat) (w37 : Nat) (x : Int32) (Xx : Int) (kx : x.toInt = Xx)  : gMi l yX10_hasWell cX10_hasWell 2 (some .boolean) ({ frames := 0, cells := 0, slots := 0, locals := 0 }) G cy sz [.ref h0, .int x] [(h0, .inr (10, [.int 0, .ref w0, .ref w1, .ref w2, .ref w3, .ref w4, .ref w5, .int 0, .ref w6, .int 0, .int 0, .int 0, .int 0, .int 0, .int 0, .int 0, .int 0, .long 0, .int 0, .int 0, .ref w7, .ref w8, .ref w9, .ref w10, .ref w11, .ref w12, .ref w13, .ref w14, .int 0, .int 0, .int 0, .ref w15, .ref w16, .ref w17, .ref w18, .ref w19, .ref w20, .int 0, .ref w21, .ref w22, .ref w23, .ref w24, .ref w25, .ref w26, .ref w27, .ref w28, .ref w29, .ref w30, .ref w31, .ref w32, .ref w33, .ref w34, .ref w35, .ref w36, .ref w37, .int (-1), .int 0, .int 0, .int 0])), (w0, .inl (cy 2, 6, .inl (fun _ => 0)))] (fun (r : Int32) (u : Unit) => r = 0) (fun (u : Unit) => [(h0, .inr (10, [.int 0, .ref w0, .ref w1, .ref w2, .ref w3, .ref w4, .ref w5, .int 0, .ref w6, .int 0, .int 0, .int 0, .int 0, .int 0, .int 0, .int 0, .int 0, .long 0, .int 0, .int 0, .ref w7, .ref w8, .ref w9, .ref w10, .ref w11, .ref w12, .ref w13, .ref w14, .int 0, .int 0, .int 0, .ref w15, .ref w16, .ref w17, .ref w18, .ref w19, .ref w20, .int 0, .ref w21, .ref w22, .ref w23, .ref w24, .ref w25, .ref w26, .ref w27, .ref w28, .ref w29, .ref w30, .ref w31, .ref w32, .ref w33, .ref w34, .ref w35, .ref w36, .ref w37, .int (-1), .int 0, .int 0, .int 0])), (w0, .inl (cy 2, 6, .inl (fun _ => 0)))]) := by
  refine gz_start (fun A => gQi G cy _ _ A) (by decide) (Nat.le_of_ble_eq_true rfl) ?_
  intro p e s m below meth c A ls H hx hb hr hml hlocks hin hown hts hK hov hsz hP hD hS hA hl
  have hl : lv_has ls 2 [(0, .ref h0), (1, .int x)] := hl
  refine lv_iload_n hx hb dX10_hasWell_0 rfl (lv_at hl 1 rfl) ?_
  refine lv_if_lt (tgt := 23) hx hb dX10_hasWell_1 (by decide) (fun c_1 => ?_) (fun c_1 => ?_)
  · have ic_1 := gz_lt (rfl : x.toInt = x.toInt) (by decide : (0 : Int32).toInt = 0) c_1
    refine lv_iconst (v := 0) hx hb dX10_hasWell_23 (by decide) ?_
    exact gz_iret (p := p) (l := l) (e := e) (s := s) (m := m) (below := below) (meth := meth) (c := c) (H := H) (cells := 0) (slots := 0) (mc := 0) (ms := 0) (cf := (fun (u : Unit) => [(h0, .inr (10, [.int 0, .ref w0, .ref w1, .ref w2, .ref w3, .ref w4, .ref w5, .int 0, .ref w6, .int 0, .int 0, .int 0, .int 0, .int 0, .int 0, .int 0, .int 0, .long 0, .int 0, .int 0, .ref w7, .ref w8, .ref w9, .ref w10, .ref w11, .ref w12, .ref w13, .ref w14, .int 0, .int 0, .int 0, .ref w15, .ref w16, .ref w17, .ref w18, .ref w19, .ref w20, .int 0, .ref w21, .ref w22, .ref w23, .ref w24, .ref w25, .ref w26, .ref w27, .ref w28, .ref w29, .ref w30, .ref w31, .ref w32, .ref w33, .ref w34, .ref w35, .ref w36, .ref w37, .int (-1), .int 0, .int 0, .int 0])), (w0, .inl (cy 2, 6, .inl (fun _ => 0)))])) (post := (fun (r : Int32) (u : Unit) => r = 0)) hx hb hr hlocks hK hP hD hS () [0, 1] (by decide) rfl (by decide) rfl (by exact Nat.le_of_ble_eq_true rfl) (by exact Nat.le_of_ble_eq_true rfl) dX10_hasWell_24
  · have ic_1 := gz_nlt (rfl : x.toInt = x.toInt) (by decide : (0 : Int32).toInt = 0) c_1
    refine lv_iload_n hx hb dX10_hasWell_4 rfl (lv_at hl 1 rfl) ?_
    refine lv_bipush (v := 6) hx hb dX10_hasWell_5 (by decide) ?_
    refine lv_icmp_ge (tgt := 23) hx hb dX10_hasWell_7 (by decide) (fun c_2 => ?_) (fun c_2 => ?_)
    · have ic_2 := gz_le (by decide : (6 : Int32).toInt = 6) (rfl : x.toInt = x.toInt) c_2
      refine lv_iconst (v := 0) hx hb dX10_hasWell_23 (by decide) ?_
      exact gz_iret (p := p) (l := l) (e := e) (s := s) (m := m) (below := below) (meth := meth) (c := c) (H := H) (cells := 0) (slots := 0) (mc := 0) (ms := 0) (cf := (fun (u : Unit) => [(h0, .inr (10, [.int 0, .ref w0, .ref w1, .ref w2, .ref w3, .ref w4, .ref w5, .int 0, .ref w6, .int 0, .int 0, .int 0, .int 0, .int 0, .int 0, .int 0, .int 0, .long 0, .int 0, .int 0, .ref w7, .ref w8, .ref w9, .ref w10, .ref w11, .ref w12, .ref w13, .ref w14, .int 0, .int 0, .int 0, .ref w15, .ref w16, .ref w17, .ref w18, .ref w19, .ref w20, .int 0, .ref w21, .ref w22, .ref w23, .ref w24, .ref w25, .ref w26, .ref w27, .ref w28, .ref w29, .ref w30, .ref w31, .ref w32, .ref w33, .ref w34, .ref w35, .ref w36, .ref w37, .int (-1), .int 0, .int 0, .int 0])), (w0, .inl (cy 2, 6, .inl (fun _ => 0)))])) (post := (fun (r : Int32) (u : Unit) => r = 0)) hx hb hr hlocks hK hP hD hS () [0, 1] (by decide) rfl (by decide) rfl (by exact Nat.le_of_ble_eq_true rfl) (by exact Nat.le_of_ble_eq_true rfl) dX10_hasWell_24
    · have ic_2 := gz_nle (by decide : (6 : Int32).toInt = 6) (rfl : x.toInt = x.toInt) c_2
      refine lv_aload_n hx hb dX10_hasWell_10 rfl (lv_at hl 0 rfl) ?_
      refine va_get (ci := 10) (v := .ref w0) (C := RX10) (T := TX10) (N := 59) hx hb hts inX10 hown hK hP 0 rfl rfl 1 (by decide) (hts _ gm_902) (fun _ h9 => h9) rfl dX10_hasWell_11 ?_
      refine lv_iload_n hx hb dX10_hasWell_14 rfl (lv_at hl 1 rfl) ?_
      refine va_zald hx hb hK hP 1 2 rfl rfl (vp_in_iff.mpr ⟨by omega, by omega⟩) dX10_hasWell_15 ?_
      refine lv_topi (fun x_3 ex_3 => ?_)
      obtain rfl : x_3 = (0 : Int32) := ex_3
      refine lv_if_eq (tgt := 23) hx hb dX10_hasWell_16 (by decide) (fun _ => ?_) (fun h9 => absurd (by decide) h9)
      refine lv_iconst (v := 0) hx hb dX10_hasWell_23 (by decide) ?_
      exact gz_iret (p := p) (l := l) (e := e) (s := s) (m := m) (below := below) (meth := meth) (c := c) (H := H) (cells := 0) (slots := 0) (mc := 0) (ms := 0) (cf := (fun (u : Unit) => [(h0, .inr (10, [.int 0, .ref w0, .ref w1, .ref w2, .ref w3, .ref w4, .ref w5, .int 0, .ref w6, .int 0, .int 0, .int 0, .int 0, .int 0, .int 0, .int 0, .int 0, .long 0, .int 0, .int 0, .ref w7, .ref w8, .ref w9, .ref w10, .ref w11, .ref w12, .ref w13, .ref w14, .int 0, .int 0, .int 0, .ref w15, .ref w16, .ref w17, .ref w18, .ref w19, .ref w20, .int 0, .ref w21, .ref w22, .ref w23, .ref w24, .ref w25, .ref w26, .ref w27, .ref w28, .ref w29, .ref w30, .ref w31, .ref w32, .ref w33, .ref w34, .ref w35, .ref w36, .ref w37, .int (-1), .int 0, .int 0, .int 0])), (w0, .inl (cy 2, 6, .inl (fun _ => 0)))])) (post := (fun (r : Int32) (u : Unit) => r = 0)) hx hb hr hlocks hK hP hD hS () [0, 1] (by decide) rfl (by decide) rfl (by exact Nat.le_of_ble_eq_true rfl) (by exact Nat.le_of_ble_eq_true rfl) dX10_hasWell_24

set_option maxHeartbeats 4000000 in
set_option maxRecDepth 100000 in
/-- WellCourtModel.four -/
theorem m_four (l : Launch) (G : va_G) (cy : Nat → ClassId) (sz : Nat) (h0 : Nat) (w0 : Nat) (w1 : Nat) (w2 : Nat) (w3 : Nat) (w4 : Nat) (w5 : Nat) (w6 : Nat) (w7 : Nat) (w8 : Nat) (w9 : Nat) (w10 : Nat) (w11 : Nat) (w12 : Nat) (w13 : Nat) (w14 : Nat) (w15 : Nat) (w16 : Nat) (w17 : Nat) (w18 : Nat) (w19 : Nat) (w20 : Nat) (w21 : Nat) (w22 : Nat) (w23 : Nat) (w24 : Nat) (w25 : Nat) (w26 : Nat) (w27 : Nat) (w28 : Nat) (w29 : Nat) (w30 : Nat) (w31 : Nat) (w32 : Nat) (w33 : Nat) (w34 : Nat) (w35 : Nat) (w36 : Nat) (w37 : Nat) (k : Nat) (f : Nat → Int32) (x : Int32) (hk : k + 4 ≤ 800) : gMv l yX10_four cX10_four 3 ({ frames := 0, cells := 0, slots := 0, locals := 0 }) G cy sz [.ref h0, .int x] [(h0, .inr (10, [.int 0, .ref w0, .ref w1, .ref w2, .ref w3, .ref w4, .ref w5, .int 0, .ref w6, .int (nI k), .int 0, .int 0, .int 0, .int 0, .int 0, .int 0, .int 0, .long 0, .int 0, .int 0, .ref w7, .ref w8, .ref w9, .ref w10, .ref w11, .ref w12, .ref w13, .ref w14, .int 0, .int 0, .int 0, .ref w15, .ref w16, .ref w17, .ref w18, .ref w19, .ref w20, .int 0, .ref w21, .ref w22, .ref w23, .ref w24, .ref w25, .ref w26, .ref w27, .ref w28, .ref w29, .ref w30, .ref w31, .ref w32, .ref w33, .ref w34, .ref w35, .ref w36, .ref w37, .int (-1), .int 0, .int 0, .int 0])), (w6, .inl (cy 1, 800, .inl f))] (fun (u : Nat → Int32) => True) (fun (u : Nat → Int32) => [(h0, .inr (10, [.int 0, .ref w0, .ref w1, .ref w2, .ref w3, .ref w4, .ref w5, .int 0, .ref w6, .int (nI (k + 4)), .int 0, .int 0, .int 0, .int 0, .int 0, .int 0, .int 0, .long 0, .int 0, .int 0, .ref w7, .ref w8, .ref w9, .ref w10, .ref w11, .ref w12, .ref w13, .ref w14, .int 0, .int 0, .int 0, .ref w15, .ref w16, .ref w17, .ref w18, .ref w19, .ref w20, .int 0, .ref w21, .ref w22, .ref w23, .ref w24, .ref w25, .ref w26, .ref w27, .ref w28, .ref w29, .ref w30, .ref w31, .ref w32, .ref w33, .ref w34, .ref w35, .ref w36, .ref w37, .int (-1), .int 0, .int 0, .int 0])), (w6, .inl (cy 1, 800, .inl u))]) := by
  refine gz_start (fun A => gQv G cy _ _ A) (by decide) (Nat.le_of_ble_eq_true rfl) ?_
  intro p e s m below meth c A ls H hx hb hr hml hlocks hin hown hts hK hov hsz hP hD hS hA hl
  have hl : lv_has ls 3 [(0, .ref h0), (1, .int x)] := hl
  refine lv_bipush (v := 24) hx hb dX10_four_0 (by decide) ?_
  refine lv_istore_n (lv' := [(2, .int 24), (0, .ref h0), (1, .int x)]) hx hb dX10_four_2 rfl hl (by decide) rfl (fun ls hl => ?_)
  refine lv_iload_n hx hb dX10_four_3 rfl (lv_at hl 0 rfl) ?_
  refine lv_if_lt (tgt := 36) hx hb dX10_four_4 (by decide) (fun h9 => absurd h9 (by decide)) (fun _ => ?_)
  refine lv_aload_n hx hb dX10_four_7 rfl (lv_at hl 1 rfl) ?_
  refine va_get (ci := 10) (v := .ref w6) (C := RX10) (T := TX10) (N := 59) hx hb hts inX10 hown hK hP 0 rfl rfl 8 (by decide) (hts _ gm_909) (fun _ h9 => h9) rfl dX10_four_8 ?_
  refine lv_aload_n hx hb dX10_four_11 rfl (lv_at hl 1 rfl) ?_
  refine va_get (ci := 10) (v := .int (nI k)) (C := RX10) (T := TX10) (N := 59) hx hb hts inX10 hown hK hP 0 rfl rfl 9 (by decide) (hts _ gm_910) (fun _ h9 => h9) rfl dX10_four_12 ?_
  refine lv_iload_n hx hb dX10_four_15 rfl (lv_at hl 2 rfl) ?_
  refine lv_iload_n hx hb dX10_four_16 rfl (lv_at hl 0 rfl) ?_
  refine lv_ishr hx hb dX10_four_17 ?_
  refine lv_topi (fun x_1 ex_1 => ?_)
  obtain ⟨x_2, ex_2⟩ : ∃ y : Int32, x_1.toInt8.toInt32 = y := ⟨_, rfl⟩
  refine lv_i2b hx hb dX10_four_18 ex_2 ?_
  refine va_bast hx hb hK hP hD hS 1 1 rfl rfl (vp_in_nI (by omega) (by decide)) dX10_four_19 (fun H locs hP hD hS => ?_)
  obtain ⟨f_3, ef_3⟩ : ∃ g : Nat → Int32, g = upd f (nI k : Int32).toNatClampNeg (vp_nar .byte x_2) := ⟨_, rfl⟩
  have hP : va_P G vwCl [(h0, .inr (10, [.int 0, .ref w0, .ref w1, .ref w2, .ref w3, .ref w4, .ref w5, .int 0, .ref w6, .int (nI k), .int 0, .int 0, .int 0, .int 0, .int 0, .int 0, .int 0, .long 0, .int 0, .int 0, .ref w7, .ref w8, .ref w9, .ref w10, .ref w11, .ref w12, .ref w13, .ref w14, .int 0, .int 0, .int 0, .ref w15, .ref w16, .ref w17, .ref w18, .ref w19, .ref w20, .int 0, .ref w21, .ref w22, .ref w23, .ref w24, .ref w25, .ref w26, .ref w27, .ref w28, .ref w29, .ref w30, .ref w31, .ref w32, .ref w33, .ref w34, .ref w35, .ref w36, .ref w37, .int (-1), .int 0, .int 0, .int 0])), (w6, .inl (cy 1, 800, .inl f_3))] H := ef_3 ▸ hP
  have hD : va_D A [(h0, .inr (10, [.int 0, .ref w0, .ref w1, .ref w2, .ref w3, .ref w4, .ref w5, .int 0, .ref w6, .int (nI k), .int 0, .int 0, .int 0, .int 0, .int 0, .int 0, .int 0, .long 0, .int 0, .int 0, .ref w7, .ref w8, .ref w9, .ref w10, .ref w11, .ref w12, .ref w13, .ref w14, .int 0, .int 0, .int 0, .ref w15, .ref w16, .ref w17, .ref w18, .ref w19, .ref w20, .int 0, .ref w21, .ref w22, .ref w23, .ref w24, .ref w25, .ref w26, .ref w27, .ref w28, .ref w29, .ref w30, .ref w31, .ref w32, .ref w33, .ref w34, .ref w35, .ref w36, .ref w37, .int (-1), .int 0, .int 0, .int 0])), (w6, .inl (cy 1, 800, .inl f_3))] := ef_3 ▸ hD
  refine lv_aload_n hx hb dX10_four_20 rfl (lv_at hl 1 rfl) ?_
  refine lv_dup hx hb dX10_four_21 rfl ?_
  refine va_get (ci := 10) (v := .int (nI k)) (C := RX10) (T := TX10) (N := 59) hx hb hts inX10 hown hK hP 0 rfl rfl 9 (by decide) (hts _ gm_910) (fun _ h9 => h9) rfl dX10_four_22 ?_
  refine lv_iconst (v := 1) hx hb dX10_four_25 (by decide) ?_
  refine lv_iadd hx hb dX10_four_26 ?_
  refine lv_topi (fun x_4 ex_4 => ?_)
  obtain rfl : x_4 = nI (k + 1) := ex_4.trans (nI_add k 1)
  refine va_put (ci := 10) (v := .int (nI (k + 1))) (ty := .int) (C := RX10) (T := TX10) (N := 59) hx hb hts inX10 tyX10 tyX10_ok nmX10 hown hK hP hD hS 0 rfl rfl 9 (by decide) (hts _ gm_910) (fun _ h9 => h9) rfl (by decide +kernel) rfl rfl (Nat.le_of_ble_eq_true rfl) dX10_four_27 (fun H locs hP hD hS => ?_)
  have hP : va_P G vwCl [(h0, .inr (10, [.int 0, .ref w0, .ref w1, .ref w2, .ref w3, .ref w4, .ref w5, .int 0, .ref w6, .int (nI (k + 1)), .int 0, .int 0, .int 0, .int 0, .int 0, .int 0, .int 0, .long 0, .int 0, .int 0, .ref w7, .ref w8, .ref w9, .ref w10, .ref w11, .ref w12, .ref w13, .ref w14, .int 0, .int 0, .int 0, .ref w15, .ref w16, .ref w17, .ref w18, .ref w19, .ref w20, .int 0, .ref w21, .ref w22, .ref w23, .ref w24, .ref w25, .ref w26, .ref w27, .ref w28, .ref w29, .ref w30, .ref w31, .ref w32, .ref w33, .ref w34, .ref w35, .ref w36, .ref w37, .int (-1), .int 0, .int 0, .int 0])), (w6, .inl (cy 1, 800, .inl f_3))] H := hP
  have hD : va_D A [(h0, .inr (10, [.int 0, .ref w0, .ref w1, .ref w2, .ref w3, .ref w4, .ref w5, .int 0, .ref w6, .int (nI (k + 1)), .int 0, .int 0, .int 0, .int 0, .int 0, .int 0, .int 0, .long 0, .int 0, .int 0, .ref w7, .ref w8, .ref w9, .ref w10, .ref w11, .ref w12, .ref w13, .ref w14, .int 0, .int 0, .int 0, .ref w15, .ref w16, .ref w17, .ref w18, .ref w19, .ref w20, .int 0, .ref w21, .ref w22, .ref w23, .ref w24, .ref w25, .ref w26, .ref w27, .ref w28, .ref w29, .ref w30, .ref w31, .ref w32, .ref w33, .ref w34, .ref w35, .ref w36, .ref w37, .int (-1), .int 0, .int 0, .int 0])), (w6, .inl (cy 1, 800, .inl f_3))] := hD
  refine lv_iinc (v := (16)) (lv' := [(2, .int 16), (0, .ref h0), (1, .int x)]) hx hb dX10_four_30 hl (k := 0) rfl (by decide) (by decide) rfl (fun ls hl => ?_)
  refine lv_goto (tgt := 3) hx hb dX10_four_33 (by decide) ?_
  refine lv_iload_n hx hb dX10_four_3 rfl (lv_at hl 0 rfl) ?_
  refine lv_if_lt (tgt := 36) hx hb dX10_four_4 (by decide) (fun h9 => absurd h9 (by decide)) (fun _ => ?_)
  refine lv_aload_n hx hb dX10_four_7 rfl (lv_at hl 1 rfl) ?_
  refine va_get (ci := 10) (v := .ref w6) (C := RX10) (T := TX10) (N := 59) hx hb hts inX10 hown hK hP 0 rfl rfl 8 (by decide) (hts _ gm_909) (fun _ h9 => h9) rfl dX10_four_8 ?_
  refine lv_aload_n hx hb dX10_four_11 rfl (lv_at hl 1 rfl) ?_
  refine va_get (ci := 10) (v := .int (nI (k + 1))) (C := RX10) (T := TX10) (N := 59) hx hb hts inX10 hown hK hP 0 rfl rfl 9 (by decide) (hts _ gm_910) (fun _ h9 => h9) rfl dX10_four_12 ?_
  refine lv_iload_n hx hb dX10_four_15 rfl (lv_at hl 2 rfl) ?_
  refine lv_iload_n hx hb dX10_four_16 rfl (lv_at hl 0 rfl) ?_
  refine lv_ishr hx hb dX10_four_17 ?_
  refine lv_topi (fun x_5 ex_5 => ?_)
  obtain ⟨x_6, ex_6⟩ : ∃ y : Int32, x_5.toInt8.toInt32 = y := ⟨_, rfl⟩
  refine lv_i2b hx hb dX10_four_18 ex_6 ?_
  refine va_bast hx hb hK hP hD hS 1 1 rfl rfl (vp_in_nI (by omega) (by decide)) dX10_four_19 (fun H locs hP hD hS => ?_)
  obtain ⟨f_7, ef_7⟩ : ∃ g : Nat → Int32, g = upd f_3 (nI (k + 1) : Int32).toNatClampNeg (vp_nar .byte x_6) := ⟨_, rfl⟩
  have hP : va_P G vwCl [(h0, .inr (10, [.int 0, .ref w0, .ref w1, .ref w2, .ref w3, .ref w4, .ref w5, .int 0, .ref w6, .int (nI (k + 1)), .int 0, .int 0, .int 0, .int 0, .int 0, .int 0, .int 0, .long 0, .int 0, .int 0, .ref w7, .ref w8, .ref w9, .ref w10, .ref w11, .ref w12, .ref w13, .ref w14, .int 0, .int 0, .int 0, .ref w15, .ref w16, .ref w17, .ref w18, .ref w19, .ref w20, .int 0, .ref w21, .ref w22, .ref w23, .ref w24, .ref w25, .ref w26, .ref w27, .ref w28, .ref w29, .ref w30, .ref w31, .ref w32, .ref w33, .ref w34, .ref w35, .ref w36, .ref w37, .int (-1), .int 0, .int 0, .int 0])), (w6, .inl (cy 1, 800, .inl f_7))] H := ef_7 ▸ hP
  have hD : va_D A [(h0, .inr (10, [.int 0, .ref w0, .ref w1, .ref w2, .ref w3, .ref w4, .ref w5, .int 0, .ref w6, .int (nI (k + 1)), .int 0, .int 0, .int 0, .int 0, .int 0, .int 0, .int 0, .long 0, .int 0, .int 0, .ref w7, .ref w8, .ref w9, .ref w10, .ref w11, .ref w12, .ref w13, .ref w14, .int 0, .int 0, .int 0, .ref w15, .ref w16, .ref w17, .ref w18, .ref w19, .ref w20, .int 0, .ref w21, .ref w22, .ref w23, .ref w24, .ref w25, .ref w26, .ref w27, .ref w28, .ref w29, .ref w30, .ref w31, .ref w32, .ref w33, .ref w34, .ref w35, .ref w36, .ref w37, .int (-1), .int 0, .int 0, .int 0])), (w6, .inl (cy 1, 800, .inl f_7))] := ef_7 ▸ hD
  refine lv_aload_n hx hb dX10_four_20 rfl (lv_at hl 1 rfl) ?_
  refine lv_dup hx hb dX10_four_21 rfl ?_
  refine va_get (ci := 10) (v := .int (nI (k + 1))) (C := RX10) (T := TX10) (N := 59) hx hb hts inX10 hown hK hP 0 rfl rfl 9 (by decide) (hts _ gm_910) (fun _ h9 => h9) rfl dX10_four_22 ?_
  refine lv_iconst (v := 1) hx hb dX10_four_25 (by decide) ?_
  refine lv_iadd hx hb dX10_four_26 ?_
  refine lv_topi (fun x_8 ex_8 => ?_)
  obtain rfl : x_8 = nI ((k + 1) + 1) := ex_8.trans (nI_add (k + 1) 1)
  refine va_put (ci := 10) (v := .int (nI ((k + 1) + 1))) (ty := .int) (C := RX10) (T := TX10) (N := 59) hx hb hts inX10 tyX10 tyX10_ok nmX10 hown hK hP hD hS 0 rfl rfl 9 (by decide) (hts _ gm_910) (fun _ h9 => h9) rfl (by decide +kernel) rfl rfl (Nat.le_of_ble_eq_true rfl) dX10_four_27 (fun H locs hP hD hS => ?_)
  have hP : va_P G vwCl [(h0, .inr (10, [.int 0, .ref w0, .ref w1, .ref w2, .ref w3, .ref w4, .ref w5, .int 0, .ref w6, .int (nI ((k + 1) + 1)), .int 0, .int 0, .int 0, .int 0, .int 0, .int 0, .int 0, .long 0, .int 0, .int 0, .ref w7, .ref w8, .ref w9, .ref w10, .ref w11, .ref w12, .ref w13, .ref w14, .int 0, .int 0, .int 0, .ref w15, .ref w16, .ref w17, .ref w18, .ref w19, .ref w20, .int 0, .ref w21, .ref w22, .ref w23, .ref w24, .ref w25, .ref w26, .ref w27, .ref w28, .ref w29, .ref w30, .ref w31, .ref w32, .ref w33, .ref w34, .ref w35, .ref w36, .ref w37, .int (-1), .int 0, .int 0, .int 0])), (w6, .inl (cy 1, 800, .inl f_7))] H := hP
  have hD : va_D A [(h0, .inr (10, [.int 0, .ref w0, .ref w1, .ref w2, .ref w3, .ref w4, .ref w5, .int 0, .ref w6, .int (nI ((k + 1) + 1)), .int 0, .int 0, .int 0, .int 0, .int 0, .int 0, .int 0, .long 0, .int 0, .int 0, .ref w7, .ref w8, .ref w9, .ref w10, .ref w11, .ref w12, .ref w13, .ref w14, .int 0, .int 0, .int 0, .ref w15, .ref w16, .ref w17, .ref w18, .ref w19, .ref w20, .int 0, .ref w21, .ref w22, .ref w23, .ref w24, .ref w25, .ref w26, .ref w27, .ref w28, .ref w29, .ref w30, .ref w31, .ref w32, .ref w33, .ref w34, .ref w35, .ref w36, .ref w37, .int (-1), .int 0, .int 0, .int 0])), (w6, .inl (cy 1, 800, .inl f_7))] := hD
  refine lv_iinc (v := (8)) (lv' := [(2, .int 8), (0, .ref h0), (1, .int x)]) hx hb dX10_four_30 hl (k := 0) rfl (by decide) (by decide) rfl (fun ls hl => ?_)
  refine lv_goto (tgt := 3) hx hb dX10_four_33 (by decide) ?_
  refine lv_iload_n hx hb dX10_four_3 rfl (lv_at hl 0 rfl) ?_
  refine lv_if_lt (tgt := 36) hx hb dX10_four_4 (by decide) (fun h9 => absurd h9 (by decide)) (fun _ => ?_)
  refine lv_aload_n hx hb dX10_four_7 rfl (lv_at hl 1 rfl) ?_
  refine va_get (ci := 10) (v := .ref w6) (C := RX10) (T := TX10) (N := 59) hx hb hts inX10 hown hK hP 0 rfl rfl 8 (by decide) (hts _ gm_909) (fun _ h9 => h9) rfl dX10_four_8 ?_
  refine lv_aload_n hx hb dX10_four_11 rfl (lv_at hl 1 rfl) ?_
  refine va_get (ci := 10) (v := .int (nI ((k + 1) + 1))) (C := RX10) (T := TX10) (N := 59) hx hb hts inX10 hown hK hP 0 rfl rfl 9 (by decide) (hts _ gm_910) (fun _ h9 => h9) rfl dX10_four_12 ?_
  refine lv_iload_n hx hb dX10_four_15 rfl (lv_at hl 2 rfl) ?_
  refine lv_iload_n hx hb dX10_four_16 rfl (lv_at hl 0 rfl) ?_
  refine lv_ishr hx hb dX10_four_17 ?_
  refine lv_topi (fun x_9 ex_9 => ?_)
  obtain ⟨x_10, ex_10⟩ : ∃ y : Int32, x_9.toInt8.toInt32 = y := ⟨_, rfl⟩
  refine lv_i2b hx hb dX10_four_18 ex_10 ?_
  refine va_bast hx hb hK hP hD hS 1 1 rfl rfl (vp_in_nI (by omega) (by decide)) dX10_four_19 (fun H locs hP hD hS => ?_)
  obtain ⟨f_11, ef_11⟩ : ∃ g : Nat → Int32, g = upd f_7 ((nI ((k + 1) + 1) : Int32)).toNatClampNeg (vp_nar .byte x_10) := ⟨_, rfl⟩
  have hP : va_P G vwCl [(h0, .inr (10, [.int 0, .ref w0, .ref w1, .ref w2, .ref w3, .ref w4, .ref w5, .int 0, .ref w6, .int (nI ((k + 1) + 1)), .int 0, .int 0, .int 0, .int 0, .int 0, .int 0, .int 0, .long 0, .int 0, .int 0, .ref w7, .ref w8, .ref w9, .ref w10, .ref w11, .ref w12, .ref w13, .ref w14, .int 0, .int 0, .int 0, .ref w15, .ref w16, .ref w17, .ref w18, .ref w19, .ref w20, .int 0, .ref w21, .ref w22, .ref w23, .ref w24, .ref w25, .ref w26, .ref w27, .ref w28, .ref w29, .ref w30, .ref w31, .ref w32, .ref w33, .ref w34, .ref w35, .ref w36, .ref w37, .int (-1), .int 0, .int 0, .int 0])), (w6, .inl (cy 1, 800, .inl f_11))] H := ef_11 ▸ hP
  have hD : va_D A [(h0, .inr (10, [.int 0, .ref w0, .ref w1, .ref w2, .ref w3, .ref w4, .ref w5, .int 0, .ref w6, .int (nI ((k + 1) + 1)), .int 0, .int 0, .int 0, .int 0, .int 0, .int 0, .int 0, .long 0, .int 0, .int 0, .ref w7, .ref w8, .ref w9, .ref w10, .ref w11, .ref w12, .ref w13, .ref w14, .int 0, .int 0, .int 0, .ref w15, .ref w16, .ref w17, .ref w18, .ref w19, .ref w20, .int 0, .ref w21, .ref w22, .ref w23, .ref w24, .ref w25, .ref w26, .ref w27, .ref w28, .ref w29, .ref w30, .ref w31, .ref w32, .ref w33, .ref w34, .ref w35, .ref w36, .ref w37, .int (-1), .int 0, .int 0, .int 0])), (w6, .inl (cy 1, 800, .inl f_11))] := ef_11 ▸ hD
  refine lv_aload_n hx hb dX10_four_20 rfl (lv_at hl 1 rfl) ?_
  refine lv_dup hx hb dX10_four_21 rfl ?_
  refine va_get (ci := 10) (v := .int (nI ((k + 1) + 1))) (C := RX10) (T := TX10) (N := 59) hx hb hts inX10 hown hK hP 0 rfl rfl 9 (by decide) (hts _ gm_910) (fun _ h9 => h9) rfl dX10_four_22 ?_
  refine lv_iconst (v := 1) hx hb dX10_four_25 (by decide) ?_
  refine lv_iadd hx hb dX10_four_26 ?_
  refine lv_topi (fun x_12 ex_12 => ?_)
  obtain rfl : x_12 = nI (((k + 1) + 1) + 1) := ex_12.trans (nI_add ((k + 1) + 1) 1)
  refine va_put (ci := 10) (v := .int (nI (((k + 1) + 1) + 1))) (ty := .int) (C := RX10) (T := TX10) (N := 59) hx hb hts inX10 tyX10 tyX10_ok nmX10 hown hK hP hD hS 0 rfl rfl 9 (by decide) (hts _ gm_910) (fun _ h9 => h9) rfl (by decide +kernel) rfl rfl (Nat.le_of_ble_eq_true rfl) dX10_four_27 (fun H locs hP hD hS => ?_)
  have hP : va_P G vwCl [(h0, .inr (10, [.int 0, .ref w0, .ref w1, .ref w2, .ref w3, .ref w4, .ref w5, .int 0, .ref w6, .int (nI (((k + 1) + 1) + 1)), .int 0, .int 0, .int 0, .int 0, .int 0, .int 0, .int 0, .long 0, .int 0, .int 0, .ref w7, .ref w8, .ref w9, .ref w10, .ref w11, .ref w12, .ref w13, .ref w14, .int 0, .int 0, .int 0, .ref w15, .ref w16, .ref w17, .ref w18, .ref w19, .ref w20, .int 0, .ref w21, .ref w22, .ref w23, .ref w24, .ref w25, .ref w26, .ref w27, .ref w28, .ref w29, .ref w30, .ref w31, .ref w32, .ref w33, .ref w34, .ref w35, .ref w36, .ref w37, .int (-1), .int 0, .int 0, .int 0])), (w6, .inl (cy 1, 800, .inl f_11))] H := hP
  have hD : va_D A [(h0, .inr (10, [.int 0, .ref w0, .ref w1, .ref w2, .ref w3, .ref w4, .ref w5, .int 0, .ref w6, .int (nI (((k + 1) + 1) + 1)), .int 0, .int 0, .int 0, .int 0, .int 0, .int 0, .int 0, .long 0, .int 0, .int 0, .ref w7, .ref w8, .ref w9, .ref w10, .ref w11, .ref w12, .ref w13, .ref w14, .int 0, .int 0, .int 0, .ref w15, .ref w16, .ref w17, .ref w18, .ref w19, .ref w20, .int 0, .ref w21, .ref w22, .ref w23, .ref w24, .ref w25, .ref w26, .ref w27, .ref w28, .ref w29, .ref w30, .ref w31, .ref w32, .ref w33, .ref w34, .ref w35, .ref w36, .ref w37, .int (-1), .int 0, .int 0, .int 0])), (w6, .inl (cy 1, 800, .inl f_11))] := hD
  refine lv_iinc (v := (0)) (lv' := [(2, .int 0), (0, .ref h0), (1, .int x)]) hx hb dX10_four_30 hl (k := 0) rfl (by decide) (by decide) rfl (fun ls hl => ?_)
  refine lv_goto (tgt := 3) hx hb dX10_four_33 (by decide) ?_
  refine lv_iload_n hx hb dX10_four_3 rfl (lv_at hl 0 rfl) ?_
  refine lv_if_lt (tgt := 36) hx hb dX10_four_4 (by decide) (fun h9 => absurd h9 (by decide)) (fun _ => ?_)
  refine lv_aload_n hx hb dX10_four_7 rfl (lv_at hl 1 rfl) ?_
  refine va_get (ci := 10) (v := .ref w6) (C := RX10) (T := TX10) (N := 59) hx hb hts inX10 hown hK hP 0 rfl rfl 8 (by decide) (hts _ gm_909) (fun _ h9 => h9) rfl dX10_four_8 ?_
  refine lv_aload_n hx hb dX10_four_11 rfl (lv_at hl 1 rfl) ?_
  refine va_get (ci := 10) (v := .int (nI (((k + 1) + 1) + 1))) (C := RX10) (T := TX10) (N := 59) hx hb hts inX10 hown hK hP 0 rfl rfl 9 (by decide) (hts _ gm_910) (fun _ h9 => h9) rfl dX10_four_12 ?_
  refine lv_iload_n hx hb dX10_four_15 rfl (lv_at hl 2 rfl) ?_
  refine lv_iload_n hx hb dX10_four_16 rfl (lv_at hl 0 rfl) ?_
  refine lv_ishr hx hb dX10_four_17 ?_
  refine lv_topi (fun x_13 ex_13 => ?_)
  obtain ⟨x_14, ex_14⟩ : ∃ y : Int32, x_13.toInt8.toInt32 = y := ⟨_, rfl⟩
  refine lv_i2b hx hb dX10_four_18 ex_14 ?_
  refine va_bast hx hb hK hP hD hS 1 1 rfl rfl (vp_in_nI (by omega) (by decide)) dX10_four_19 (fun H locs hP hD hS => ?_)
  obtain ⟨f_15, ef_15⟩ : ∃ g : Nat → Int32, g = upd f_11 ((nI (((k + 1) + 1) + 1) : Int32)).toNatClampNeg (vp_nar .byte x_14) := ⟨_, rfl⟩
  have hP : va_P G vwCl [(h0, .inr (10, [.int 0, .ref w0, .ref w1, .ref w2, .ref w3, .ref w4, .ref w5, .int 0, .ref w6, .int (nI (((k + 1) + 1) + 1)), .int 0, .int 0, .int 0, .int 0, .int 0, .int 0, .int 0, .long 0, .int 0, .int 0, .ref w7, .ref w8, .ref w9, .ref w10, .ref w11, .ref w12, .ref w13, .ref w14, .int 0, .int 0, .int 0, .ref w15, .ref w16, .ref w17, .ref w18, .ref w19, .ref w20, .int 0, .ref w21, .ref w22, .ref w23, .ref w24, .ref w25, .ref w26, .ref w27, .ref w28, .ref w29, .ref w30, .ref w31, .ref w32, .ref w33, .ref w34, .ref w35, .ref w36, .ref w37, .int (-1), .int 0, .int 0, .int 0])), (w6, .inl (cy 1, 800, .inl f_15))] H := ef_15 ▸ hP
  have hD : va_D A [(h0, .inr (10, [.int 0, .ref w0, .ref w1, .ref w2, .ref w3, .ref w4, .ref w5, .int 0, .ref w6, .int (nI (((k + 1) + 1) + 1)), .int 0, .int 0, .int 0, .int 0, .int 0, .int 0, .int 0, .long 0, .int 0, .int 0, .ref w7, .ref w8, .ref w9, .ref w10, .ref w11, .ref w12, .ref w13, .ref w14, .int 0, .int 0, .int 0, .ref w15, .ref w16, .ref w17, .ref w18, .ref w19, .ref w20, .int 0, .ref w21, .ref w22, .ref w23, .ref w24, .ref w25, .ref w26, .ref w27, .ref w28, .ref w29, .ref w30, .ref w31, .ref w32, .ref w33, .ref w34, .ref w35, .ref w36, .ref w37, .int (-1), .int 0, .int 0, .int 0])), (w6, .inl (cy 1, 800, .inl f_15))] := ef_15 ▸ hD
  refine lv_aload_n hx hb dX10_four_20 rfl (lv_at hl 1 rfl) ?_
  refine lv_dup hx hb dX10_four_21 rfl ?_
  refine va_get (ci := 10) (v := .int (nI (((k + 1) + 1) + 1))) (C := RX10) (T := TX10) (N := 59) hx hb hts inX10 hown hK hP 0 rfl rfl 9 (by decide) (hts _ gm_910) (fun _ h9 => h9) rfl dX10_four_22 ?_
  refine lv_iconst (v := 1) hx hb dX10_four_25 (by decide) ?_
  refine lv_iadd hx hb dX10_four_26 ?_
  refine lv_topi (fun x_16 ex_16 => ?_)
  obtain rfl : x_16 = nI ((((k + 1) + 1) + 1) + 1) := ex_16.trans (nI_add (((k + 1) + 1) + 1) 1)
  refine va_put (ci := 10) (v := .int (nI ((((k + 1) + 1) + 1) + 1))) (ty := .int) (C := RX10) (T := TX10) (N := 59) hx hb hts inX10 tyX10 tyX10_ok nmX10 hown hK hP hD hS 0 rfl rfl 9 (by decide) (hts _ gm_910) (fun _ h9 => h9) rfl (by decide +kernel) rfl rfl (Nat.le_of_ble_eq_true rfl) dX10_four_27 (fun H locs hP hD hS => ?_)
  have hP : va_P G vwCl [(h0, .inr (10, [.int 0, .ref w0, .ref w1, .ref w2, .ref w3, .ref w4, .ref w5, .int 0, .ref w6, .int (nI ((((k + 1) + 1) + 1) + 1)), .int 0, .int 0, .int 0, .int 0, .int 0, .int 0, .int 0, .long 0, .int 0, .int 0, .ref w7, .ref w8, .ref w9, .ref w10, .ref w11, .ref w12, .ref w13, .ref w14, .int 0, .int 0, .int 0, .ref w15, .ref w16, .ref w17, .ref w18, .ref w19, .ref w20, .int 0, .ref w21, .ref w22, .ref w23, .ref w24, .ref w25, .ref w26, .ref w27, .ref w28, .ref w29, .ref w30, .ref w31, .ref w32, .ref w33, .ref w34, .ref w35, .ref w36, .ref w37, .int (-1), .int 0, .int 0, .int 0])), (w6, .inl (cy 1, 800, .inl f_15))] H := hP
  have hD : va_D A [(h0, .inr (10, [.int 0, .ref w0, .ref w1, .ref w2, .ref w3, .ref w4, .ref w5, .int 0, .ref w6, .int (nI ((((k + 1) + 1) + 1) + 1)), .int 0, .int 0, .int 0, .int 0, .int 0, .int 0, .int 0, .long 0, .int 0, .int 0, .ref w7, .ref w8, .ref w9, .ref w10, .ref w11, .ref w12, .ref w13, .ref w14, .int 0, .int 0, .int 0, .ref w15, .ref w16, .ref w17, .ref w18, .ref w19, .ref w20, .int 0, .ref w21, .ref w22, .ref w23, .ref w24, .ref w25, .ref w26, .ref w27, .ref w28, .ref w29, .ref w30, .ref w31, .ref w32, .ref w33, .ref w34, .ref w35, .ref w36, .ref w37, .int (-1), .int 0, .int 0, .int 0])), (w6, .inl (cy 1, 800, .inl f_15))] := hD
  refine lv_iinc (v := ((-8))) (lv' := [(2, .int (-8)), (0, .ref h0), (1, .int x)]) hx hb dX10_four_30 hl (k := 0) rfl (by decide) (by decide) rfl (fun ls hl => ?_)
  refine lv_goto (tgt := 3) hx hb dX10_four_33 (by decide) ?_
  refine lv_iload_n hx hb dX10_four_3 rfl (lv_at hl 0 rfl) ?_
  refine lv_if_lt (tgt := 36) hx hb dX10_four_4 (by decide) (fun _ => ?_) (fun h9 => absurd (by decide) h9)
  exact gz_vret (p := p) (l := l) (e := e) (s := s) (m := m) (below := below) (meth := meth) (c := c) (H := H) (cells := 0) (slots := 0) (mc := 0) (ms := 0) (cf := (fun (u : Nat → Int32) => [(h0, .inr (10, [.int 0, .ref w0, .ref w1, .ref w2, .ref w3, .ref w4, .ref w5, .int 0, .ref w6, .int (nI (k + 4)), .int 0, .int 0, .int 0, .int 0, .int 0, .int 0, .int 0, .long 0, .int 0, .int 0, .ref w7, .ref w8, .ref w9, .ref w10, .ref w11, .ref w12, .ref w13, .ref w14, .int 0, .int 0, .int 0, .ref w15, .ref w16, .ref w17, .ref w18, .ref w19, .ref w20, .int 0, .ref w21, .ref w22, .ref w23, .ref w24, .ref w25, .ref w26, .ref w27, .ref w28, .ref w29, .ref w30, .ref w31, .ref w32, .ref w33, .ref w34, .ref w35, .ref w36, .ref w37, .int (-1), .int 0, .int 0, .int 0])), (w6, .inl (cy 1, 800, .inl u))])) (post := (fun (u : Nat → Int32) => True)) hx hb hr hlocks hK hP hD hS f_15 [0, 1] trivial (by decide) rfl (by exact Nat.le_of_ble_eq_true rfl) (by exact Nat.le_of_ble_eq_true rfl) dX10_four_36

set_option maxHeartbeats 4000000 in
set_option maxRecDepth 100000 in
/-- WellCourtModel.feed -/
theorem m_feed (l : Launch) (G : va_G) (cy : Nat → ClassId) (sz : Nat) (h0 : Nat) (w0 : Nat) (w1 : Nat) (w2 : Nat) (w3 : Nat) (w4 : Nat) (w5 : Nat) (w6 : Nat) (w7 : Nat) (w8 : Nat) (w9 : Nat) (w10 : Nat) (w11 : Nat) (w12 : Nat) (w13 : Nat) (w14 : Nat) (w15 : Nat) (w16 : Nat) (w17 : Nat) (w18 : Nat) (w19 : Nat) (w20 : Nat) (w21 : Nat) (w22 : Nat) (w23 : Nat) (w24 : Nat) (w25 : Nat) (w26 : Nat) (w27 : Nat) (w28 : Nat) (w29 : Nat) (w30 : Nat) (w31 : Nat) (w32 : Nat) (w33 : Nat) (w34 : Nat) (w35 : Nat) (w36 : Nat) (w37 : Nat) (x : Int32) (y : Int32) (z : Int32) (v : Int32) (t : Int32) (Xx : Int) (Xy : Int) (Xz : Int) (Xv : Int) (Xt : Int) (kx : x.toInt = Xx) (ky : y.toInt = Xy) (kz : z.toInt = Xz) (kv : v.toInt = Xv) (kt : t.toInt = Xt)  : gMi l yX10_feed cX10_feed 6 (some .int) ({ frames := 1, cells := 0, slots := 0, locals := 22 }) G cy sz [.ref h0, .int x, .int y, .int z, .int v, .int t] [(h0, .inr (10, [.int 0, .ref w0, .ref w1, .ref w2, .ref w3, .ref w4, .ref w5, .int 0, .ref w6, .int 0, .int 0, .int 0, .int 0, .int 0, .int 0, .int 0, .int 0, .long 0, .int 0, .int 0, .ref w7, .ref w8, .ref w9, .ref w10, .ref w11, .ref w12, .ref w13, .ref w14, .int 0, .int 0, .int 0, .ref w15, .ref w16, .ref w17, .ref w18, .ref w19, .ref w20, .int 0, .ref w21, .ref w22, .ref w23, .ref w24, .ref w25, .ref w26, .ref w27, .ref w28, .ref w29, .ref w30, .ref w31, .ref w32, .ref w33, .ref w34, .ref w35, .ref w36, .ref w37, .int (-1), .int 0, .int 0, .int 0])), (w6, .inl (cy 1, 800, .inl (fun _ => 0)))] (fun (r : Int32) (u : Unit) => r = 20) (fun (u : Unit) => []) := by
  refine gz_start (fun A => gQi G cy _ _ A) (by decide) (Nat.le_of_ble_eq_true rfl) ?_
  intro p e s m below meth c A ls H hx hb hr hml hlocks hin hown hts hK hov hsz hP hD hS hA hl
  have hl : lv_has ls 6 [(0, .ref h0), (1, .int x), (2, .int y), (3, .int z), (4, .int v), (5, .int t)] := hl
  refine lv_aload_n hx hb dX10_feed_0 rfl (lv_at hl 0 rfl) ?_
  refine lv_iconst (v := 0) hx hb dX10_feed_1 (by decide) ?_
  refine va_put (ci := 10) (v := .int 0) (ty := .int) (C := RX10) (T := TX10) (N := 59) hx hb hts inX10 tyX10 tyX10_ok nmX10 hown hK hP hD hS 0 rfl rfl 0 (by decide) (hts _ gm_901) (fun _ h9 => h9) rfl (by decide +kernel) rfl rfl (Nat.le_of_ble_eq_true rfl) dX10_feed_2 (fun H locs hP hD hS => ?_)
  have hP : va_P G vwCl [(h0, .inr (10, [.int 0, .ref w0, .ref w1, .ref w2, .ref w3, .ref w4, .ref w5, .int 0, .ref w6, .int 0, .int 0, .int 0, .int 0, .int 0, .int 0, .int 0, .int 0, .long 0, .int 0, .int 0, .ref w7, .ref w8, .ref w9, .ref w10, .ref w11, .ref w12, .ref w13, .ref w14, .int 0, .int 0, .int 0, .ref w15, .ref w16, .ref w17, .ref w18, .ref w19, .ref w20, .int 0, .ref w21, .ref w22, .ref w23, .ref w24, .ref w25, .ref w26, .ref w27, .ref w28, .ref w29, .ref w30, .ref w31, .ref w32, .ref w33, .ref w34, .ref w35, .ref w36, .ref w37, .int (-1), .int 0, .int 0, .int 0])), (w6, .inl (cy 1, 800, .inl (fun _ => 0)))] H := hP
  have hD : va_D A [(h0, .inr (10, [.int 0, .ref w0, .ref w1, .ref w2, .ref w3, .ref w4, .ref w5, .int 0, .ref w6, .int 0, .int 0, .int 0, .int 0, .int 0, .int 0, .int 0, .int 0, .long 0, .int 0, .int 0, .ref w7, .ref w8, .ref w9, .ref w10, .ref w11, .ref w12, .ref w13, .ref w14, .int 0, .int 0, .int 0, .ref w15, .ref w16, .ref w17, .ref w18, .ref w19, .ref w20, .int 0, .ref w21, .ref w22, .ref w23, .ref w24, .ref w25, .ref w26, .ref w27, .ref w28, .ref w29, .ref w30, .ref w31, .ref w32, .ref w33, .ref w34, .ref w35, .ref w36, .ref w37, .int (-1), .int 0, .int 0, .int 0])), (w6, .inl (cy 1, 800, .inl (fun _ => 0)))] := hD
  refine lv_aload_n hx hb dX10_feed_5 rfl (lv_at hl 0 rfl) ?_
  refine va_get (ci := 10) (v := .int 0) (C := RX10) (T := TX10) (N := 59) hx hb hts inX10 hown hK hP 0 rfl rfl 9 (by decide) (hts _ gm_910) (fun _ h9 => h9) rfl dX10_feed_6 ?_
  refine lv_bipush (v := 20) hx hb dX10_feed_9 (by decide) ?_
  refine lv_iadd hx hb dX10_feed_11 ?_
  refine lv_topi (fun x_1 ex_1 => ?_)
  obtain rfl : x_1 = (20 : Int32) := ex_1.trans (by decide)
  refine lv_sipush (v := 800) hx hb dX10_feed_12 (by decide) ?_
  refine lv_icmp_le (tgt := 20) hx hb dX10_feed_15 (by decide) (fun _ => ?_) (fun h9 => absurd (by decide) h9)
  refine lv_aload_n hx hb dX10_feed_20 rfl (lv_at hl 0 rfl) ?_
  refine lv_iload_n hx hb dX10_feed_21 rfl (lv_at hl 1 rfl) ?_
  refine gz_aftv (va_runV (As := [.int x]) (rest := []) ⟨hx, hb, hml, hown, hts⟩ (m_four l G cy H.size h0 w0 w1 w2 w3 w4 w5 w6 w7 w8 w9 w10 w11 w12 w13 w14 w15 w16 w17 w18 w19 w20 w21 w22 w23 w24 w25 w26 w27 w28 w29 w30 w31 w32 w33 w34 w35 w36 w37 0 (fun _ => 0) x (by decide)) ⟨(gz_cb (n := 1) hts gm_1088 gm_12 gm_1091 ⟨by decide +kernel, by decide +kernel, by decide +kernel⟩ ⟨Nat.le_of_ble_eq_true rfl, Nat.le_of_ble_eq_true rfl⟩), hts _ gm_1090, hts _ gs_31⟩ (gz_preV (ci := 10) (q0 := 0) hK hov hP hD [0, 1] (by decide) rfl rfl rfl) rfl rfl hl.1 rfl (lv_room (Nat.le_of_ble_eq_true rfl)) dX10_feed_22 ⟨Nat.le_of_ble_eq_true rfl, Nat.le_of_ble_eq_true rfl⟩) hP hD hS hA [0, 1] [] rfl rfl (by decide) (by decide) (fun u_2 H locs hw_2 hP hD hS => ?_)
  have hP : va_P G vwCl [(h0, .inr (10, [.int 0, .ref w0, .ref w1, .ref w2, .ref w3, .ref w4, .ref w5, .int 0, .ref w6, .int (nI (0 + 4)), .int 0, .int 0, .int 0, .int 0, .int 0, .int 0, .int 0, .long 0, .int 0, .int 0, .ref w7, .ref w8, .ref w9, .ref w10, .ref w11, .ref w12, .ref w13, .ref w14, .int 0, .int 0, .int 0, .ref w15, .ref w16, .ref w17, .ref w18, .ref w19, .ref w20, .int 0, .ref w21, .ref w22, .ref w23, .ref w24, .ref w25, .ref w26, .ref w27, .ref w28, .ref w29, .ref w30, .ref w31, .ref w32, .ref w33, .ref w34, .ref w35, .ref w36, .ref w37, .int (-1), .int 0, .int 0, .int 0])), (w6, .inl (cy 1, 800, .inl u_2))] H := hP
  have hD : va_D A [(h0, .inr (10, [.int 0, .ref w0, .ref w1, .ref w2, .ref w3, .ref w4, .ref w5, .int 0, .ref w6, .int (nI (0 + 4)), .int 0, .int 0, .int 0, .int 0, .int 0, .int 0, .int 0, .long 0, .int 0, .int 0, .ref w7, .ref w8, .ref w9, .ref w10, .ref w11, .ref w12, .ref w13, .ref w14, .int 0, .int 0, .int 0, .ref w15, .ref w16, .ref w17, .ref w18, .ref w19, .ref w20, .int 0, .ref w21, .ref w22, .ref w23, .ref w24, .ref w25, .ref w26, .ref w27, .ref w28, .ref w29, .ref w30, .ref w31, .ref w32, .ref w33, .ref w34, .ref w35, .ref w36, .ref w37, .int (-1), .int 0, .int 0, .int 0])), (w6, .inl (cy 1, 800, .inl u_2))] := hD
  refine lv_aload_n hx hb dX10_feed_25 rfl (lv_at hl 0 rfl) ?_
  refine lv_iload_n hx hb dX10_feed_26 rfl (lv_at hl 2 rfl) ?_
  refine gz_aftv (va_runV (As := [.int y]) (rest := []) ⟨hx, hb, hml, hown, hts⟩ (m_four l G cy H.size h0 w0 w1 w2 w3 w4 w5 w6 w7 w8 w9 w10 w11 w12 w13 w14 w15 w16 w17 w18 w19 w20 w21 w22 w23 w24 w25 w26 w27 w28 w29 w30 w31 w32 w33 w34 w35 w36 w37 (0 + 4) u_2 y (by decide)) ⟨(gz_cb (n := 1) hts gm_1088 gm_12 gm_1091 ⟨by decide +kernel, by decide +kernel, by decide +kernel⟩ ⟨Nat.le_of_ble_eq_true rfl, Nat.le_of_ble_eq_true rfl⟩), hts _ gm_1090, hts _ gs_31⟩ (gz_preV (ci := 10) (q0 := 0) hK hov hP hD [0, 1] (by decide) rfl rfl rfl) rfl rfl hl.1 rfl (lv_room (Nat.le_of_ble_eq_true rfl)) dX10_feed_27 ⟨Nat.le_of_ble_eq_true rfl, Nat.le_of_ble_eq_true rfl⟩) hP hD hS hA [0, 1] [] rfl rfl (by decide) (by decide) (fun u_3 H locs hw_3 hP hD hS => ?_)
  have hP : va_P G vwCl [(h0, .inr (10, [.int 0, .ref w0, .ref w1, .ref w2, .ref w3, .ref w4, .ref w5, .int 0, .ref w6, .int (nI ((0 + 4) + 4)), .int 0, .int 0, .int 0, .int 0, .int 0, .int 0, .int 0, .long 0, .int 0, .int 0, .ref w7, .ref w8, .ref w9, .ref w10, .ref w11, .ref w12, .ref w13, .ref w14, .int 0, .int 0, .int 0, .ref w15, .ref w16, .ref w17, .ref w18, .ref w19, .ref w20, .int 0, .ref w21, .ref w22, .ref w23, .ref w24, .ref w25, .ref w26, .ref w27, .ref w28, .ref w29, .ref w30, .ref w31, .ref w32, .ref w33, .ref w34, .ref w35, .ref w36, .ref w37, .int (-1), .int 0, .int 0, .int 0])), (w6, .inl (cy 1, 800, .inl u_3))] H := hP
  have hD : va_D A [(h0, .inr (10, [.int 0, .ref w0, .ref w1, .ref w2, .ref w3, .ref w4, .ref w5, .int 0, .ref w6, .int (nI ((0 + 4) + 4)), .int 0, .int 0, .int 0, .int 0, .int 0, .int 0, .int 0, .long 0, .int 0, .int 0, .ref w7, .ref w8, .ref w9, .ref w10, .ref w11, .ref w12, .ref w13, .ref w14, .int 0, .int 0, .int 0, .ref w15, .ref w16, .ref w17, .ref w18, .ref w19, .ref w20, .int 0, .ref w21, .ref w22, .ref w23, .ref w24, .ref w25, .ref w26, .ref w27, .ref w28, .ref w29, .ref w30, .ref w31, .ref w32, .ref w33, .ref w34, .ref w35, .ref w36, .ref w37, .int (-1), .int 0, .int 0, .int 0])), (w6, .inl (cy 1, 800, .inl u_3))] := hD
  refine lv_aload_n hx hb dX10_feed_30 rfl (lv_at hl 0 rfl) ?_
  refine lv_iload_n hx hb dX10_feed_31 rfl (lv_at hl 3 rfl) ?_
  refine gz_aftv (va_runV (As := [.int z]) (rest := []) ⟨hx, hb, hml, hown, hts⟩ (m_four l G cy H.size h0 w0 w1 w2 w3 w4 w5 w6 w7 w8 w9 w10 w11 w12 w13 w14 w15 w16 w17 w18 w19 w20 w21 w22 w23 w24 w25 w26 w27 w28 w29 w30 w31 w32 w33 w34 w35 w36 w37 ((0 + 4) + 4) u_3 z (by decide)) ⟨(gz_cb (n := 1) hts gm_1088 gm_12 gm_1091 ⟨by decide +kernel, by decide +kernel, by decide +kernel⟩ ⟨Nat.le_of_ble_eq_true rfl, Nat.le_of_ble_eq_true rfl⟩), hts _ gm_1090, hts _ gs_31⟩ (gz_preV (ci := 10) (q0 := 0) hK hov hP hD [0, 1] (by decide) rfl rfl rfl) rfl rfl hl.1 rfl (lv_room (Nat.le_of_ble_eq_true rfl)) dX10_feed_32 ⟨Nat.le_of_ble_eq_true rfl, Nat.le_of_ble_eq_true rfl⟩) hP hD hS hA [0, 1] [] rfl rfl (by decide) (by decide) (fun u_4 H locs hw_4 hP hD hS => ?_)
  have hP : va_P G vwCl [(h0, .inr (10, [.int 0, .ref w0, .ref w1, .ref w2, .ref w3, .ref w4, .ref w5, .int 0, .ref w6, .int (nI (((0 + 4) + 4) + 4)), .int 0, .int 0, .int 0, .int 0, .int 0, .int 0, .int 0, .long 0, .int 0, .int 0, .ref w7, .ref w8, .ref w9, .ref w10, .ref w11, .ref w12, .ref w13, .ref w14, .int 0, .int 0, .int 0, .ref w15, .ref w16, .ref w17, .ref w18, .ref w19, .ref w20, .int 0, .ref w21, .ref w22, .ref w23, .ref w24, .ref w25, .ref w26, .ref w27, .ref w28, .ref w29, .ref w30, .ref w31, .ref w32, .ref w33, .ref w34, .ref w35, .ref w36, .ref w37, .int (-1), .int 0, .int 0, .int 0])), (w6, .inl (cy 1, 800, .inl u_4))] H := hP
  have hD : va_D A [(h0, .inr (10, [.int 0, .ref w0, .ref w1, .ref w2, .ref w3, .ref w4, .ref w5, .int 0, .ref w6, .int (nI (((0 + 4) + 4) + 4)), .int 0, .int 0, .int 0, .int 0, .int 0, .int 0, .int 0, .long 0, .int 0, .int 0, .ref w7, .ref w8, .ref w9, .ref w10, .ref w11, .ref w12, .ref w13, .ref w14, .int 0, .int 0, .int 0, .ref w15, .ref w16, .ref w17, .ref w18, .ref w19, .ref w20, .int 0, .ref w21, .ref w22, .ref w23, .ref w24, .ref w25, .ref w26, .ref w27, .ref w28, .ref w29, .ref w30, .ref w31, .ref w32, .ref w33, .ref w34, .ref w35, .ref w36, .ref w37, .int (-1), .int 0, .int 0, .int 0])), (w6, .inl (cy 1, 800, .inl u_4))] := hD
  refine lv_aload_n hx hb dX10_feed_35 rfl (lv_at hl 0 rfl) ?_
  refine lv_iload hx hb dX10_feed_36 (lv_at hl 4 rfl) ?_
  refine gz_aftv (va_runV (As := [.int v]) (rest := []) ⟨hx, hb, hml, hown, hts⟩ (m_four l G cy H.size h0 w0 w1 w2 w3 w4 w5 w6 w7 w8 w9 w10 w11 w12 w13 w14 w15 w16 w17 w18 w19 w20 w21 w22 w23 w24 w25 w26 w27 w28 w29 w30 w31 w32 w33 w34 w35 w36 w37 ((((0 + 4) + 4) + 4)) u_4 v (by decide)) ⟨(gz_cb (n := 1) hts gm_1088 gm_12 gm_1091 ⟨by decide +kernel, by decide +kernel, by decide +kernel⟩ ⟨Nat.le_of_ble_eq_true rfl, Nat.le_of_ble_eq_true rfl⟩), hts _ gm_1090, hts _ gs_31⟩ (gz_preV (ci := 10) (q0 := 0) hK hov hP hD [0, 1] (by decide) rfl rfl rfl) rfl rfl hl.1 rfl (lv_room (Nat.le_of_ble_eq_true rfl)) dX10_feed_38 ⟨Nat.le_of_ble_eq_true rfl, Nat.le_of_ble_eq_true rfl⟩) hP hD hS hA [0, 1] [] rfl rfl (by decide) (by decide) (fun u_5 H locs hw_5 hP hD hS => ?_)
  have hP : va_P G vwCl [(h0, .inr (10, [.int 0, .ref w0, .ref w1, .ref w2, .ref w3, .ref w4, .ref w5, .int 0, .ref w6, .int (nI (((((0 + 4) + 4) + 4)) + 4)), .int 0, .int 0, .int 0, .int 0, .int 0, .int 0, .int 0, .long 0, .int 0, .int 0, .ref w7, .ref w8, .ref w9, .ref w10, .ref w11, .ref w12, .ref w13, .ref w14, .int 0, .int 0, .int 0, .ref w15, .ref w16, .ref w17, .ref w18, .ref w19, .ref w20, .int 0, .ref w21, .ref w22, .ref w23, .ref w24, .ref w25, .ref w26, .ref w27, .ref w28, .ref w29, .ref w30, .ref w31, .ref w32, .ref w33, .ref w34, .ref w35, .ref w36, .ref w37, .int (-1), .int 0, .int 0, .int 0])), (w6, .inl (cy 1, 800, .inl u_5))] H := hP
  have hD : va_D A [(h0, .inr (10, [.int 0, .ref w0, .ref w1, .ref w2, .ref w3, .ref w4, .ref w5, .int 0, .ref w6, .int (nI (((((0 + 4) + 4) + 4)) + 4)), .int 0, .int 0, .int 0, .int 0, .int 0, .int 0, .int 0, .long 0, .int 0, .int 0, .ref w7, .ref w8, .ref w9, .ref w10, .ref w11, .ref w12, .ref w13, .ref w14, .int 0, .int 0, .int 0, .ref w15, .ref w16, .ref w17, .ref w18, .ref w19, .ref w20, .int 0, .ref w21, .ref w22, .ref w23, .ref w24, .ref w25, .ref w26, .ref w27, .ref w28, .ref w29, .ref w30, .ref w31, .ref w32, .ref w33, .ref w34, .ref w35, .ref w36, .ref w37, .int (-1), .int 0, .int 0, .int 0])), (w6, .inl (cy 1, 800, .inl u_5))] := hD
  refine lv_aload_n hx hb dX10_feed_41 rfl (lv_at hl 0 rfl) ?_
  refine lv_iload hx hb dX10_feed_42 (lv_at hl 5 rfl) ?_
  refine gz_aftv (va_runV (As := [.int t]) (rest := []) ⟨hx, hb, hml, hown, hts⟩ (m_four l G cy H.size h0 w0 w1 w2 w3 w4 w5 w6 w7 w8 w9 w10 w11 w12 w13 w14 w15 w16 w17 w18 w19 w20 w21 w22 w23 w24 w25 w26 w27 w28 w29 w30 w31 w32 w33 w34 w35 w36 w37 ((((((0 + 4) + 4) + 4)) + 4)) u_5 t (by decide)) ⟨(gz_cb (n := 1) hts gm_1088 gm_12 gm_1091 ⟨by decide +kernel, by decide +kernel, by decide +kernel⟩ ⟨Nat.le_of_ble_eq_true rfl, Nat.le_of_ble_eq_true rfl⟩), hts _ gm_1090, hts _ gs_31⟩ (gz_preV (ci := 10) (q0 := 0) hK hov hP hD [0, 1] (by decide) rfl rfl rfl) rfl rfl hl.1 rfl (lv_room (Nat.le_of_ble_eq_true rfl)) dX10_feed_44 ⟨Nat.le_of_ble_eq_true rfl, Nat.le_of_ble_eq_true rfl⟩) hP hD hS hA [0, 1] [] rfl rfl (by decide) (by decide) (fun u_6 H locs hw_6 hP hD hS => ?_)
  have hP : va_P G vwCl [(h0, .inr (10, [.int 0, .ref w0, .ref w1, .ref w2, .ref w3, .ref w4, .ref w5, .int 0, .ref w6, .int (nI (((((((0 + 4) + 4) + 4)) + 4)) + 4)), .int 0, .int 0, .int 0, .int 0, .int 0, .int 0, .int 0, .long 0, .int 0, .int 0, .ref w7, .ref w8, .ref w9, .ref w10, .ref w11, .ref w12, .ref w13, .ref w14, .int 0, .int 0, .int 0, .ref w15, .ref w16, .ref w17, .ref w18, .ref w19, .ref w20, .int 0, .ref w21, .ref w22, .ref w23, .ref w24, .ref w25, .ref w26, .ref w27, .ref w28, .ref w29, .ref w30, .ref w31, .ref w32, .ref w33, .ref w34, .ref w35, .ref w36, .ref w37, .int (-1), .int 0, .int 0, .int 0])), (w6, .inl (cy 1, 800, .inl u_6))] H := hP
  have hD : va_D A [(h0, .inr (10, [.int 0, .ref w0, .ref w1, .ref w2, .ref w3, .ref w4, .ref w5, .int 0, .ref w6, .int (nI (((((((0 + 4) + 4) + 4)) + 4)) + 4)), .int 0, .int 0, .int 0, .int 0, .int 0, .int 0, .int 0, .long 0, .int 0, .int 0, .ref w7, .ref w8, .ref w9, .ref w10, .ref w11, .ref w12, .ref w13, .ref w14, .int 0, .int 0, .int 0, .ref w15, .ref w16, .ref w17, .ref w18, .ref w19, .ref w20, .int 0, .ref w21, .ref w22, .ref w23, .ref w24, .ref w25, .ref w26, .ref w27, .ref w28, .ref w29, .ref w30, .ref w31, .ref w32, .ref w33, .ref w34, .ref w35, .ref w36, .ref w37, .int (-1), .int 0, .int 0, .int 0])), (w6, .inl (cy 1, 800, .inl u_6))] := hD
  refine lv_aload_n hx hb dX10_feed_47 rfl (lv_at hl 0 rfl) ?_
  refine va_get (ci := 10) (v := .int (nI (((((((0 + 4) + 4) + 4)) + 4)) + 4))) (C := RX10) (T := TX10) (N := 59) hx hb hts inX10 hown hK hP 0 rfl rfl 9 (by decide) (hts _ gm_910) (fun _ h9 => h9) rfl dX10_feed_48 ?_
  exact gz_iret (p := p) (l := l) (e := e) (s := s) (m := m) (below := below) (meth := meth) (c := c) (H := H) (cells := 0) (slots := 0) (mc := 0) (ms := 0) (cf := (fun (u : Unit) => [])) (post := (fun (r : Int32) (u : Unit) => r = 20)) hx hb hr hlocks hK hP hD hS () [] rfl (by decide) (by decide) rfl (by exact Nat.le_of_ble_eq_true rfl) (by exact Nat.le_of_ble_eq_true rfl) dX10_feed_51

set_option maxHeartbeats 4000000 in
set_option maxRecDepth 100000 in
/-- WellCourtModel.end -/
theorem m_end (l : Launch) (G : va_G) (cy : Nat → ClassId) (sz : Nat) (h0 : Nat) (w0 : Nat) (w1 : Nat) (w2 : Nat) (w3 : Nat) (w4 : Nat) (w5 : Nat) (w6 : Nat) (w7 : Nat) (w8 : Nat) (w9 : Nat) (w10 : Nat) (w11 : Nat) (w12 : Nat) (w13 : Nat) (w14 : Nat) (w15 : Nat) (w16 : Nat) (w17 : Nat) (w18 : Nat) (w19 : Nat) (w20 : Nat) (w21 : Nat) (w22 : Nat) (w23 : Nat) (w24 : Nat) (w25 : Nat) (w26 : Nat) (w27 : Nat) (w28 : Nat) (w29 : Nat) (w30 : Nat) (w31 : Nat) (w32 : Nat) (w33 : Nat) (w34 : Nat) (w35 : Nat) (w36 : Nat) (w37 : Nat) (x : Int32) (Xx : Int) (kx : x.toInt = Xx)  : gMi l yX10_end cX10_end 2 (some .boolean) ({ frames := 0, cells := 0, slots := 0, locals := 0 }) G cy sz [.ref h0, .int x] [(h0, .inr (10, [.int 0, .ref w0, .ref w1, .ref w2, .ref w3, .ref w4, .ref w5, .int 0, .ref w6, .int 0, .int 0, .int 0, .int 0, .int 0, .int 0, .int 0, .int 0, .long 0, .int 0, .int 0, .ref w7, .ref w8, .ref w9, .ref w10, .ref w11, .ref w12, .ref w13, .ref w14, .int 0, .int 0, .int 0, .ref w15, .ref w16, .ref w17, .ref w18, .ref w19, .ref w20, .int 0, .ref w21, .ref w22, .ref w23, .ref w24, .ref w25, .ref w26, .ref w27, .ref w28, .ref w29, .ref w30, .ref w31, .ref w32, .ref w33, .ref w34, .ref w35, .ref w36, .ref w37, .int (-1), .int 0, .int 0, .int 0]))] (fun (r : Int32) (u : Unit) => (r = 1 ∧ (Xx = 0)) ∨ (r = 0 ∧ (¬ Xx = 0))) (fun (u : Unit) => []) := by
  refine gz_start (fun A => gQi G cy _ _ A) (by decide) (Nat.le_of_ble_eq_true rfl) ?_
  intro p e s m below meth c A ls H hx hb hr hml hlocks hin hown hts hK hov hsz hP hD hS hA hl
  have hl : lv_has ls 2 [(0, .ref h0), (1, .int x)] := hl
  refine lv_aload_n hx hb dX10_end_0 rfl (lv_at hl 0 rfl) ?_
  refine lv_iconst (v := 0) hx hb dX10_end_1 (by decide) ?_
  refine va_put (ci := 10) (v := .int 0) (ty := .int) (C := RX10) (T := TX10) (N := 59) hx hb hts inX10 tyX10 tyX10_ok nmX10 hown hK hP hD hS 0 rfl rfl 0 (by decide) (hts _ gm_901) (fun _ h9 => h9) rfl (by decide +kernel) rfl rfl (Nat.le_of_ble_eq_true rfl) dX10_end_2 (fun H locs hP hD hS => ?_)
  have hP : va_P G vwCl [(h0, .inr (10, [.int 0, .ref w0, .ref w1, .ref w2, .ref w3, .ref w4, .ref w5, .int 0, .ref w6, .int 0, .int 0, .int 0, .int 0, .int 0, .int 0, .int 0, .int 0, .long 0, .int 0, .int 0, .ref w7, .ref w8, .ref w9, .ref w10, .ref w11, .ref w12, .ref w13, .ref w14, .int 0, .int 0, .int 0, .ref w15, .ref w16, .ref w17, .ref w18, .ref w19, .ref w20, .int 0, .ref w21, .ref w22, .ref w23, .ref w24, .ref w25, .ref w26, .ref w27, .ref w28, .ref w29, .ref w30, .ref w31, .ref w32, .ref w33, .ref w34, .ref w35, .ref w36, .ref w37, .int (-1), .int 0, .int 0, .int 0]))] H := hP
  have hD : va_D A [(h0, .inr (10, [.int 0, .ref w0, .ref w1, .ref w2, .ref w3, .ref w4, .ref w5, .int 0, .ref w6, .int 0, .int 0, .int 0, .int 0, .int 0, .int 0, .int 0, .int 0, .long 0, .int 0, .int 0, .ref w7, .ref w8, .ref w9, .ref w10, .ref w11, .ref w12, .ref w13, .ref w14, .int 0, .int 0, .int 0, .ref w15, .ref w16, .ref w17, .ref w18, .ref w19, .ref w20, .int 0, .ref w21, .ref w22, .ref w23, .ref w24, .ref w25, .ref w26, .ref w27, .ref w28, .ref w29, .ref w30, .ref w31, .ref w32, .ref w33, .ref w34, .ref w35, .ref w36, .ref w37, .int (-1), .int 0, .int 0, .int 0]))] := hD
  refine lv_iload_n hx hb dX10_end_5 rfl (lv_at hl 1 rfl) ?_
  refine lv_if_lt (tgt := 17) hx hb dX10_end_6 (by decide) (fun c_1 => ?_) (fun c_1 => ?_)
  · have ic_1 := gz_lt (rfl : x.toInt = x.toInt) (by decide : (0 : Int32).toInt = 0) c_1
    refine lv_iconst (v := 0) hx hb dX10_end_17 (by decide) ?_
    exact gz_iret (p := p) (l := l) (e := e) (s := s) (m := m) (below := below) (meth := meth) (c := c) (H := H) (cells := 0) (slots := 0) (mc := 0) (ms := 0) (cf := (fun (u : Unit) => [])) (post := (fun (r : Int32) (u : Unit) => (r = 1 ∧ (Xx = 0)) ∨ (r = 0 ∧ (¬ Xx = 0)))) hx hb hr hlocks hK hP hD hS () [] (by decide) (Or.inr (⟨rfl, by omega⟩)) (by decide) rfl (by exact Nat.le_of_ble_eq_true rfl) (by exact Nat.le_of_ble_eq_true rfl) dX10_end_18
  · have ic_1 := gz_nlt (rfl : x.toInt = x.toInt) (by decide : (0 : Int32).toInt = 0) c_1
    refine lv_iload_n hx hb dX10_end_9 rfl (lv_at hl 1 rfl) ?_
    refine lv_aload_n hx hb dX10_end_10 rfl (lv_at hl 0 rfl) ?_
    refine va_get (ci := 10) (v := .int 0) (C := RX10) (T := TX10) (N := 59) hx hb hts inX10 hown hK hP 0 rfl rfl 9 (by decide) (hts _ gm_910) (fun _ h9 => h9) rfl dX10_end_11 ?_
    refine lv_icmp_le (tgt := 19) hx hb dX10_end_14 (by decide) (fun c_2 => ?_) (fun c_2 => ?_)
    · have ic_2 := gz_le (rfl : x.toInt = x.toInt) (by decide : (0 : Int32).toInt = 0) c_2
      refine lv_aload_n hx hb dX10_end_19 rfl (lv_at hl 0 rfl) ?_
      refine lv_iload_n hx hb dX10_end_20 rfl (lv_at hl 1 rfl) ?_
      refine va_put (ci := 10) (v := .int x) (ty := .int) (C := RX10) (T := TX10) (N := 59) hx hb hts inX10 tyX10 tyX10_ok nmX10 hown hK hP hD hS 0 rfl rfl 9 (by decide) (hts _ gm_910) (fun _ h9 => h9) rfl (by decide +kernel) rfl rfl (Nat.le_of_ble_eq_true rfl) dX10_end_21 (fun H locs hP hD hS => ?_)
      have hP : va_P G vwCl [(h0, .inr (10, [.int 0, .ref w0, .ref w1, .ref w2, .ref w3, .ref w4, .ref w5, .int 0, .ref w6, .int x, .int 0, .int 0, .int 0, .int 0, .int 0, .int 0, .int 0, .long 0, .int 0, .int 0, .ref w7, .ref w8, .ref w9, .ref w10, .ref w11, .ref w12, .ref w13, .ref w14, .int 0, .int 0, .int 0, .ref w15, .ref w16, .ref w17, .ref w18, .ref w19, .ref w20, .int 0, .ref w21, .ref w22, .ref w23, .ref w24, .ref w25, .ref w26, .ref w27, .ref w28, .ref w29, .ref w30, .ref w31, .ref w32, .ref w33, .ref w34, .ref w35, .ref w36, .ref w37, .int (-1), .int 0, .int 0, .int 0]))] H := hP
      have hD : va_D A [(h0, .inr (10, [.int 0, .ref w0, .ref w1, .ref w2, .ref w3, .ref w4, .ref w5, .int 0, .ref w6, .int x, .int 0, .int 0, .int 0, .int 0, .int 0, .int 0, .int 0, .long 0, .int 0, .int 0, .ref w7, .ref w8, .ref w9, .ref w10, .ref w11, .ref w12, .ref w13, .ref w14, .int 0, .int 0, .int 0, .ref w15, .ref w16, .ref w17, .ref w18, .ref w19, .ref w20, .int 0, .ref w21, .ref w22, .ref w23, .ref w24, .ref w25, .ref w26, .ref w27, .ref w28, .ref w29, .ref w30, .ref w31, .ref w32, .ref w33, .ref w34, .ref w35, .ref w36, .ref w37, .int (-1), .int 0, .int 0, .int 0]))] := hD
      refine lv_iconst (v := 1) hx hb dX10_end_24 (by decide) ?_
      exact gz_iret (p := p) (l := l) (e := e) (s := s) (m := m) (below := below) (meth := meth) (c := c) (H := H) (cells := 0) (slots := 0) (mc := 0) (ms := 0) (cf := (fun (u : Unit) => [])) (post := (fun (r : Int32) (u : Unit) => (r = 1 ∧ (Xx = 0)) ∨ (r = 0 ∧ (¬ Xx = 0)))) hx hb hr hlocks hK hP hD hS () [] (by decide) (Or.inl (⟨rfl, by omega⟩)) (by decide) rfl (by exact Nat.le_of_ble_eq_true rfl) (by exact Nat.le_of_ble_eq_true rfl) dX10_end_25
    · have ic_2 := gz_nle (rfl : x.toInt = x.toInt) (by decide : (0 : Int32).toInt = 0) c_2
      refine lv_iconst (v := 0) hx hb dX10_end_17 (by decide) ?_
      exact gz_iret (p := p) (l := l) (e := e) (s := s) (m := m) (below := below) (meth := meth) (c := c) (H := H) (cells := 0) (slots := 0) (mc := 0) (ms := 0) (cf := (fun (u : Unit) => [])) (post := (fun (r : Int32) (u : Unit) => (r = 1 ∧ (Xx = 0)) ∨ (r = 0 ∧ (¬ Xx = 0)))) hx hb hr hlocks hK hP hD hS () [] (by decide) (Or.inr (⟨rfl, by omega⟩)) (by decide) rfl (by exact Nat.le_of_ble_eq_true rfl) (by exact Nat.le_of_ble_eq_true rfl) dX10_end_18

set_option maxHeartbeats 4000000 in
set_option maxRecDepth 100000 in
/-- WellCourtModel.well -/
theorem m_well (l : Launch) (G : va_G) (cy : Nat → ClassId) (sz : Nat) (h0 : Nat) (w0 : Nat) (w1 : Nat) (w2 : Nat) (w3 : Nat) (w4 : Nat) (w5 : Nat) (w6 : Nat) (w7 : Nat) (w8 : Nat) (w9 : Nat) (w10 : Nat) (w11 : Nat) (w12 : Nat) (w13 : Nat) (w14 : Nat) (w15 : Nat) (w16 : Nat) (w17 : Nat) (w18 : Nat) (w19 : Nat) (w20 : Nat) (w21 : Nat) (w22 : Nat) (w23 : Nat) (w24 : Nat) (w25 : Nat) (w26 : Nat) (w27 : Nat) (w28 : Nat) (w29 : Nat) (w30 : Nat) (w31 : Nat) (w32 : Nat) (w33 : Nat) (w34 : Nat) (w35 : Nat) (w36 : Nat) (w37 : Nat) (x : Int32) (y : Int32) (z : Int32) (v : Int32) (Xx : Int) (Xy : Int) (Xz : Int) (Xv : Int) (kx : x.toInt = Xx) (ky : y.toInt = Xy) (kz : z.toInt = Xz) (kv : v.toInt = Xv)  : gMi l yX10_well cX10_well 5 (some .boolean) ({ frames := 0, cells := 0, slots := 0, locals := 0 }) G cy sz [.ref h0, .int x, .int y, .int z, .int v] [(h0, .inr (10, [.int 0, .ref w0, .ref w1, .ref w2, .ref w3, .ref w4, .ref w5, .int 0, .ref w6, .int 0, .int 0, .int 0, .int 0, .int 0, .int 0, .int 0, .int 0, .long 0, .int 0, .int 0, .ref w7, .ref w8, .ref w9, .ref w10, .ref w11, .ref w12, .ref w13, .ref w14, .int 0, .int 0, .int 0, .ref w15, .ref w16, .ref w17, .ref w18, .ref w19, .ref w20, .int 0, .ref w21, .ref w22, .ref w23, .ref w24, .ref w25, .ref w26, .ref w27, .ref w28, .ref w29, .ref w30, .ref w31, .ref w32, .ref w33, .ref w34, .ref w35, .ref w36, .ref w37, .int (-1), .int 0, .int 0, .int 0])), (w0, .inl (cy 2, 6, .inl (fun _ => 0))), (w1, .inl (cy 0, 6, .inl (fun _ => 0))), (w2, .inl (cy 0, 6, .inl (fun _ => 0))), (w3, .inl (cy 0, 6, .inl (fun _ => 0))), (w4, .inl (cy 0, 6, .inl (fun _ => 0)))] (fun (r : Int32) (u : Unit) => (r = 1 ∧ (0 ≤ Xx ∧ Xx < 6 ∧ 1 ≤ Xy ∧ Xy ≤ 1000 ∧ 0 ≤ Xz ∧ Xz ≤ 200 ∧ 0 ≤ Xv ∧ Xv ≤ Xy)) ∨ (r = 0 ∧ (¬ (0 ≤ Xx ∧ Xx < 6 ∧ 1 ≤ Xy ∧ Xy ≤ 1000 ∧ 0 ≤ Xz ∧ Xz ≤ 200 ∧ 0 ≤ Xv ∧ Xv ≤ Xy)))) (fun (u : Unit) => []) := by
  refine gz_start (fun A => gQi G cy _ _ A) (by decide) (Nat.le_of_ble_eq_true rfl) ?_
  intro p e s m below meth c A ls H hx hb hr hml hlocks hin hown hts hK hov hsz hP hD hS hA hl
  have hl : lv_has ls 5 [(0, .ref h0), (1, .int x), (2, .int y), (3, .int z), (4, .int v)] := hl
  refine lv_aload_n hx hb dX10_well_0 rfl (lv_at hl 0 rfl) ?_
  refine lv_iconst (v := 0) hx hb dX10_well_1 (by decide) ?_
  refine va_put (ci := 10) (v := .int 0) (ty := .int) (C := RX10) (T := TX10) (N := 59) hx hb hts inX10 tyX10 tyX10_ok nmX10 hown hK hP hD hS 0 rfl rfl 0 (by decide) (hts _ gm_901) (fun _ h9 => h9) rfl (by decide +kernel) rfl rfl (Nat.le_of_ble_eq_true rfl) dX10_well_2 (fun H locs hP hD hS => ?_)
  have hP : va_P G vwCl [(h0, .inr (10, [.int 0, .ref w0, .ref w1, .ref w2, .ref w3, .ref w4, .ref w5, .int 0, .ref w6, .int 0, .int 0, .int 0, .int 0, .int 0, .int 0, .int 0, .int 0, .long 0, .int 0, .int 0, .ref w7, .ref w8, .ref w9, .ref w10, .ref w11, .ref w12, .ref w13, .ref w14, .int 0, .int 0, .int 0, .ref w15, .ref w16, .ref w17, .ref w18, .ref w19, .ref w20, .int 0, .ref w21, .ref w22, .ref w23, .ref w24, .ref w25, .ref w26, .ref w27, .ref w28, .ref w29, .ref w30, .ref w31, .ref w32, .ref w33, .ref w34, .ref w35, .ref w36, .ref w37, .int (-1), .int 0, .int 0, .int 0])), (w0, .inl (cy 2, 6, .inl (fun _ => 0))), (w1, .inl (cy 0, 6, .inl (fun _ => 0))), (w2, .inl (cy 0, 6, .inl (fun _ => 0))), (w3, .inl (cy 0, 6, .inl (fun _ => 0))), (w4, .inl (cy 0, 6, .inl (fun _ => 0)))] H := hP
  have hD : va_D A [(h0, .inr (10, [.int 0, .ref w0, .ref w1, .ref w2, .ref w3, .ref w4, .ref w5, .int 0, .ref w6, .int 0, .int 0, .int 0, .int 0, .int 0, .int 0, .int 0, .int 0, .long 0, .int 0, .int 0, .ref w7, .ref w8, .ref w9, .ref w10, .ref w11, .ref w12, .ref w13, .ref w14, .int 0, .int 0, .int 0, .ref w15, .ref w16, .ref w17, .ref w18, .ref w19, .ref w20, .int 0, .ref w21, .ref w22, .ref w23, .ref w24, .ref w25, .ref w26, .ref w27, .ref w28, .ref w29, .ref w30, .ref w31, .ref w32, .ref w33, .ref w34, .ref w35, .ref w36, .ref w37, .int (-1), .int 0, .int 0, .int 0])), (w0, .inl (cy 2, 6, .inl (fun _ => 0))), (w1, .inl (cy 0, 6, .inl (fun _ => 0))), (w2, .inl (cy 0, 6, .inl (fun _ => 0))), (w3, .inl (cy 0, 6, .inl (fun _ => 0))), (w4, .inl (cy 0, 6, .inl (fun _ => 0)))] := hD
  refine lv_iload_n hx hb dX10_well_5 rfl (lv_at hl 1 rfl) ?_
  refine lv_if_lt (tgt := 58) hx hb dX10_well_6 (by decide) (fun c_1 => ?_) (fun c_1 => ?_)
  · have ic_1 := gz_lt (rfl : x.toInt = x.toInt) (by decide : (0 : Int32).toInt = 0) c_1
    refine lv_iconst (v := 0) hx hb dX10_well_58 (by decide) ?_
    exact gz_iret (p := p) (l := l) (e := e) (s := s) (m := m) (below := below) (meth := meth) (c := c) (H := H) (cells := 0) (slots := 0) (mc := 0) (ms := 0) (cf := (fun (u : Unit) => [])) (post := (fun (r : Int32) (u : Unit) => (r = 1 ∧ (0 ≤ Xx ∧ Xx < 6 ∧ 1 ≤ Xy ∧ Xy ≤ 1000 ∧ 0 ≤ Xz ∧ Xz ≤ 200 ∧ 0 ≤ Xv ∧ Xv ≤ Xy)) ∨ (r = 0 ∧ (¬ (0 ≤ Xx ∧ Xx < 6 ∧ 1 ≤ Xy ∧ Xy ≤ 1000 ∧ 0 ≤ Xz ∧ Xz ≤ 200 ∧ 0 ≤ Xv ∧ Xv ≤ Xy))))) hx hb hr hlocks hK hP hD hS () [] (by decide) (Or.inr (⟨rfl, by omega⟩)) (by decide) rfl (by exact Nat.le_of_ble_eq_true rfl) (by exact Nat.le_of_ble_eq_true rfl) dX10_well_59
  · have ic_1 := gz_nlt (rfl : x.toInt = x.toInt) (by decide : (0 : Int32).toInt = 0) c_1
    refine lv_iload_n hx hb dX10_well_9 rfl (lv_at hl 1 rfl) ?_
    refine lv_bipush (v := 6) hx hb dX10_well_10 (by decide) ?_
    refine lv_icmp_ge (tgt := 58) hx hb dX10_well_12 (by decide) (fun c_2 => ?_) (fun c_2 => ?_)
    · have ic_2 := gz_le (by decide : (6 : Int32).toInt = 6) (rfl : x.toInt = x.toInt) c_2
      refine lv_iconst (v := 0) hx hb dX10_well_58 (by decide) ?_
      exact gz_iret (p := p) (l := l) (e := e) (s := s) (m := m) (below := below) (meth := meth) (c := c) (H := H) (cells := 0) (slots := 0) (mc := 0) (ms := 0) (cf := (fun (u : Unit) => [])) (post := (fun (r : Int32) (u : Unit) => (r = 1 ∧ (0 ≤ Xx ∧ Xx < 6 ∧ 1 ≤ Xy ∧ Xy ≤ 1000 ∧ 0 ≤ Xz ∧ Xz ≤ 200 ∧ 0 ≤ Xv ∧ Xv ≤ Xy)) ∨ (r = 0 ∧ (¬ (0 ≤ Xx ∧ Xx < 6 ∧ 1 ≤ Xy ∧ Xy ≤ 1000 ∧ 0 ≤ Xz ∧ Xz ≤ 200 ∧ 0 ≤ Xv ∧ Xv ≤ Xy))))) hx hb hr hlocks hK hP hD hS () [] (by decide) (Or.inr (⟨rfl, by omega⟩)) (by decide) rfl (by exact Nat.le_of_ble_eq_true rfl) (by exact Nat.le_of_ble_eq_true rfl) dX10_well_59
    · have ic_2 := gz_nle (by decide : (6 : Int32).toInt = 6) (rfl : x.toInt = x.toInt) c_2
      refine lv_aload_n hx hb dX10_well_15 rfl (lv_at hl 0 rfl) ?_
      refine va_get (ci := 10) (v := .ref w0) (C := RX10) (T := TX10) (N := 59) hx hb hts inX10 hown hK hP 0 rfl rfl 1 (by decide) (hts _ gm_902) (fun _ h9 => h9) rfl dX10_well_16 ?_
      refine lv_iload_n hx hb dX10_well_19 rfl (lv_at hl 1 rfl) ?_
      refine va_zald hx hb hK hP 1 2 rfl rfl (vp_in_iff.mpr ⟨by omega, by omega⟩) dX10_well_20 ?_
      refine lv_topi (fun x_3 ex_3 => ?_)
      obtain rfl : x_3 = (0 : Int32) := ex_3
      refine lv_if_ne (tgt := 58) hx hb dX10_well_21 (by decide) (fun h9 => absurd (by decide) h9) (fun _ => ?_)
      refine lv_iload_n hx hb dX10_well_24 rfl (lv_at hl 2 rfl) ?_
      refine lv_iconst (v := 1) hx hb dX10_well_25 (by decide) ?_
      refine lv_icmp_lt (tgt := 58) hx hb dX10_well_26 (by decide) (fun c_4 => ?_) (fun c_4 => ?_)
      · have ic_4 := gz_lt (rfl : y.toInt = y.toInt) (by decide : (1 : Int32).toInt = 1) c_4
        refine lv_iconst (v := 0) hx hb dX10_well_58 (by decide) ?_
        exact gz_iret (p := p) (l := l) (e := e) (s := s) (m := m) (below := below) (meth := meth) (c := c) (H := H) (cells := 0) (slots := 0) (mc := 0) (ms := 0) (cf := (fun (u : Unit) => [])) (post := (fun (r : Int32) (u : Unit) => (r = 1 ∧ (0 ≤ Xx ∧ Xx < 6 ∧ 1 ≤ Xy ∧ Xy ≤ 1000 ∧ 0 ≤ Xz ∧ Xz ≤ 200 ∧ 0 ≤ Xv ∧ Xv ≤ Xy)) ∨ (r = 0 ∧ (¬ (0 ≤ Xx ∧ Xx < 6 ∧ 1 ≤ Xy ∧ Xy ≤ 1000 ∧ 0 ≤ Xz ∧ Xz ≤ 200 ∧ 0 ≤ Xv ∧ Xv ≤ Xy))))) hx hb hr hlocks hK hP hD hS () [] (by decide) (Or.inr (⟨rfl, by omega⟩)) (by decide) rfl (by exact Nat.le_of_ble_eq_true rfl) (by exact Nat.le_of_ble_eq_true rfl) dX10_well_59
      · have ic_4 := gz_nlt (rfl : y.toInt = y.toInt) (by decide : (1 : Int32).toInt = 1) c_4
        refine lv_iload_n hx hb dX10_well_29 rfl (lv_at hl 2 rfl) ?_
        refine lv_sipush (v := 1000) hx hb dX10_well_30 (by decide) ?_
        refine lv_icmp_gt (tgt := 58) hx hb dX10_well_33 (by decide) (fun c_5 => ?_) (fun c_5 => ?_)
        · have ic_5 := gz_lt (by decide : (1000 : Int32).toInt = 1000) (rfl : y.toInt = y.toInt) c_5
          refine lv_iconst (v := 0) hx hb dX10_well_58 (by decide) ?_
          exact gz_iret (p := p) (l := l) (e := e) (s := s) (m := m) (below := below) (meth := meth) (c := c) (H := H) (cells := 0) (slots := 0) (mc := 0) (ms := 0) (cf := (fun (u : Unit) => [])) (post := (fun (r : Int32) (u : Unit) => (r = 1 ∧ (0 ≤ Xx ∧ Xx < 6 ∧ 1 ≤ Xy ∧ Xy ≤ 1000 ∧ 0 ≤ Xz ∧ Xz ≤ 200 ∧ 0 ≤ Xv ∧ Xv ≤ Xy)) ∨ (r = 0 ∧ (¬ (0 ≤ Xx ∧ Xx < 6 ∧ 1 ≤ Xy ∧ Xy ≤ 1000 ∧ 0 ≤ Xz ∧ Xz ≤ 200 ∧ 0 ≤ Xv ∧ Xv ≤ Xy))))) hx hb hr hlocks hK hP hD hS () [] (by decide) (Or.inr (⟨rfl, by omega⟩)) (by decide) rfl (by exact Nat.le_of_ble_eq_true rfl) (by exact Nat.le_of_ble_eq_true rfl) dX10_well_59
        · have ic_5 := gz_nlt (by decide : (1000 : Int32).toInt = 1000) (rfl : y.toInt = y.toInt) c_5
          refine lv_iload_n hx hb dX10_well_36 rfl (lv_at hl 3 rfl) ?_
          refine lv_if_lt (tgt := 58) hx hb dX10_well_37 (by decide) (fun c_6 => ?_) (fun c_6 => ?_)
          · have ic_6 := gz_lt (rfl : z.toInt = z.toInt) (by decide : (0 : Int32).toInt = 0) c_6
            refine lv_iconst (v := 0) hx hb dX10_well_58 (by decide) ?_
            exact gz_iret (p := p) (l := l) (e := e) (s := s) (m := m) (below := below) (meth := meth) (c := c) (H := H) (cells := 0) (slots := 0) (mc := 0) (ms := 0) (cf := (fun (u : Unit) => [])) (post := (fun (r : Int32) (u : Unit) => (r = 1 ∧ (0 ≤ Xx ∧ Xx < 6 ∧ 1 ≤ Xy ∧ Xy ≤ 1000 ∧ 0 ≤ Xz ∧ Xz ≤ 200 ∧ 0 ≤ Xv ∧ Xv ≤ Xy)) ∨ (r = 0 ∧ (¬ (0 ≤ Xx ∧ Xx < 6 ∧ 1 ≤ Xy ∧ Xy ≤ 1000 ∧ 0 ≤ Xz ∧ Xz ≤ 200 ∧ 0 ≤ Xv ∧ Xv ≤ Xy))))) hx hb hr hlocks hK hP hD hS () [] (by decide) (Or.inr (⟨rfl, by omega⟩)) (by decide) rfl (by exact Nat.le_of_ble_eq_true rfl) (by exact Nat.le_of_ble_eq_true rfl) dX10_well_59
          · have ic_6 := gz_nlt (rfl : z.toInt = z.toInt) (by decide : (0 : Int32).toInt = 0) c_6
            refine lv_iload_n hx hb dX10_well_40 rfl (lv_at hl 3 rfl) ?_
            refine lv_sipush (v := 200) hx hb dX10_well_41 (by decide) ?_
            refine lv_icmp_gt (tgt := 58) hx hb dX10_well_44 (by decide) (fun c_7 => ?_) (fun c_7 => ?_)
            · have ic_7 := gz_lt (by decide : (200 : Int32).toInt = 200) (rfl : z.toInt = z.toInt) c_7
              refine lv_iconst (v := 0) hx hb dX10_well_58 (by decide) ?_
              exact gz_iret (p := p) (l := l) (e := e) (s := s) (m := m) (below := below) (meth := meth) (c := c) (H := H) (cells := 0) (slots := 0) (mc := 0) (ms := 0) (cf := (fun (u : Unit) => [])) (post := (fun (r : Int32) (u : Unit) => (r = 1 ∧ (0 ≤ Xx ∧ Xx < 6 ∧ 1 ≤ Xy ∧ Xy ≤ 1000 ∧ 0 ≤ Xz ∧ Xz ≤ 200 ∧ 0 ≤ Xv ∧ Xv ≤ Xy)) ∨ (r = 0 ∧ (¬ (0 ≤ Xx ∧ Xx < 6 ∧ 1 ≤ Xy ∧ Xy ≤ 1000 ∧ 0 ≤ Xz ∧ Xz ≤ 200 ∧ 0 ≤ Xv ∧ Xv ≤ Xy))))) hx hb hr hlocks hK hP hD hS () [] (by decide) (Or.inr (⟨rfl, by omega⟩)) (by decide) rfl (by exact Nat.le_of_ble_eq_true rfl) (by exact Nat.le_of_ble_eq_true rfl) dX10_well_59
            · have ic_7 := gz_nlt (by decide : (200 : Int32).toInt = 200) (rfl : z.toInt = z.toInt) c_7
              refine lv_iload hx hb dX10_well_47 (lv_at hl 4 rfl) ?_
              refine lv_if_lt (tgt := 58) hx hb dX10_well_49 (by decide) (fun c_8 => ?_) (fun c_8 => ?_)
              · have ic_8 := gz_lt (rfl : v.toInt = v.toInt) (by decide : (0 : Int32).toInt = 0) c_8
                refine lv_iconst (v := 0) hx hb dX10_well_58 (by decide) ?_
                exact gz_iret (p := p) (l := l) (e := e) (s := s) (m := m) (below := below) (meth := meth) (c := c) (H := H) (cells := 0) (slots := 0) (mc := 0) (ms := 0) (cf := (fun (u : Unit) => [])) (post := (fun (r : Int32) (u : Unit) => (r = 1 ∧ (0 ≤ Xx ∧ Xx < 6 ∧ 1 ≤ Xy ∧ Xy ≤ 1000 ∧ 0 ≤ Xz ∧ Xz ≤ 200 ∧ 0 ≤ Xv ∧ Xv ≤ Xy)) ∨ (r = 0 ∧ (¬ (0 ≤ Xx ∧ Xx < 6 ∧ 1 ≤ Xy ∧ Xy ≤ 1000 ∧ 0 ≤ Xz ∧ Xz ≤ 200 ∧ 0 ≤ Xv ∧ Xv ≤ Xy))))) hx hb hr hlocks hK hP hD hS () [] (by decide) (Or.inr (⟨rfl, by omega⟩)) (by decide) rfl (by exact Nat.le_of_ble_eq_true rfl) (by exact Nat.le_of_ble_eq_true rfl) dX10_well_59
              · have ic_8 := gz_nlt (rfl : v.toInt = v.toInt) (by decide : (0 : Int32).toInt = 0) c_8
                refine lv_iload hx hb dX10_well_52 (lv_at hl 4 rfl) ?_
                refine lv_iload_n hx hb dX10_well_54 rfl (lv_at hl 2 rfl) ?_
                refine lv_icmp_le (tgt := 60) hx hb dX10_well_55 (by decide) (fun c_9 => ?_) (fun c_9 => ?_)
                · have ic_9 := gz_le (rfl : v.toInt = v.toInt) (rfl : y.toInt = y.toInt) c_9
                  refine lv_aload_n hx hb dX10_well_60 rfl (lv_at hl 0 rfl) ?_
                  refine va_get (ci := 10) (v := .ref w0) (C := RX10) (T := TX10) (N := 59) hx hb hts inX10 hown hK hP 0 rfl rfl 1 (by decide) (hts _ gm_902) (fun _ h9 => h9) rfl dX10_well_61 ?_
                  refine lv_iload_n hx hb dX10_well_64 rfl (lv_at hl 1 rfl) ?_
                  refine lv_iconst (v := 1) hx hb dX10_well_65 (by decide) ?_
                  refine va_zast hx hb hK hP hD hS 1 2 rfl rfl (vp_in_iff.mpr ⟨by omega, by omega⟩) dX10_well_66 (fun H locs hP hD hS => ?_)
                  obtain ⟨f_10, ef_10⟩ : ∃ g : Nat → Int32, g = upd (fun _ => 0) (x : Int32).toNatClampNeg (vp_nar .boolean 1) := ⟨_, rfl⟩
                  have hP : va_P G vwCl [(h0, .inr (10, [.int 0, .ref w0, .ref w1, .ref w2, .ref w3, .ref w4, .ref w5, .int 0, .ref w6, .int 0, .int 0, .int 0, .int 0, .int 0, .int 0, .int 0, .int 0, .long 0, .int 0, .int 0, .ref w7, .ref w8, .ref w9, .ref w10, .ref w11, .ref w12, .ref w13, .ref w14, .int 0, .int 0, .int 0, .ref w15, .ref w16, .ref w17, .ref w18, .ref w19, .ref w20, .int 0, .ref w21, .ref w22, .ref w23, .ref w24, .ref w25, .ref w26, .ref w27, .ref w28, .ref w29, .ref w30, .ref w31, .ref w32, .ref w33, .ref w34, .ref w35, .ref w36, .ref w37, .int (-1), .int 0, .int 0, .int 0])), (w0, .inl (cy 2, 6, .inl f_10)), (w1, .inl (cy 0, 6, .inl (fun _ => 0))), (w2, .inl (cy 0, 6, .inl (fun _ => 0))), (w3, .inl (cy 0, 6, .inl (fun _ => 0))), (w4, .inl (cy 0, 6, .inl (fun _ => 0)))] H := ef_10 ▸ hP
                  have hD : va_D A [(h0, .inr (10, [.int 0, .ref w0, .ref w1, .ref w2, .ref w3, .ref w4, .ref w5, .int 0, .ref w6, .int 0, .int 0, .int 0, .int 0, .int 0, .int 0, .int 0, .int 0, .long 0, .int 0, .int 0, .ref w7, .ref w8, .ref w9, .ref w10, .ref w11, .ref w12, .ref w13, .ref w14, .int 0, .int 0, .int 0, .ref w15, .ref w16, .ref w17, .ref w18, .ref w19, .ref w20, .int 0, .ref w21, .ref w22, .ref w23, .ref w24, .ref w25, .ref w26, .ref w27, .ref w28, .ref w29, .ref w30, .ref w31, .ref w32, .ref w33, .ref w34, .ref w35, .ref w36, .ref w37, .int (-1), .int 0, .int 0, .int 0])), (w0, .inl (cy 2, 6, .inl f_10)), (w1, .inl (cy 0, 6, .inl (fun _ => 0))), (w2, .inl (cy 0, 6, .inl (fun _ => 0))), (w3, .inl (cy 0, 6, .inl (fun _ => 0))), (w4, .inl (cy 0, 6, .inl (fun _ => 0)))] := ef_10 ▸ hD
                  refine lv_aload_n hx hb dX10_well_67 rfl (lv_at hl 0 rfl) ?_
                  refine va_get (ci := 10) (v := .ref w1) (C := RX10) (T := TX10) (N := 59) hx hb hts inX10 hown hK hP 0 rfl rfl 2 (by decide) (hts _ gm_903) (fun _ h9 => h9) rfl dX10_well_68 ?_
                  refine lv_iload_n hx hb dX10_well_71 rfl (lv_at hl 1 rfl) ?_
                  refine lv_iload_n hx hb dX10_well_72 rfl (lv_at hl 2 rfl) ?_
                  refine va_iast hx hb hK hP hD hS 2 0 rfl rfl (vp_in_iff.mpr ⟨by omega, by omega⟩) dX10_well_73 (fun H locs hP hD hS => ?_)
                  obtain ⟨f_11, ef_11⟩ : ∃ g : Nat → Int32, g = upd (fun _ => 0) (x : Int32).toNatClampNeg y := ⟨_, rfl⟩
                  have hP : va_P G vwCl [(h0, .inr (10, [.int 0, .ref w0, .ref w1, .ref w2, .ref w3, .ref w4, .ref w5, .int 0, .ref w6, .int 0, .int 0, .int 0, .int 0, .int 0, .int 0, .int 0, .int 0, .long 0, .int 0, .int 0, .ref w7, .ref w8, .ref w9, .ref w10, .ref w11, .ref w12, .ref w13, .ref w14, .int 0, .int 0, .int 0, .ref w15, .ref w16, .ref w17, .ref w18, .ref w19, .ref w20, .int 0, .ref w21, .ref w22, .ref w23, .ref w24, .ref w25, .ref w26, .ref w27, .ref w28, .ref w29, .ref w30, .ref w31, .ref w32, .ref w33, .ref w34, .ref w35, .ref w36, .ref w37, .int (-1), .int 0, .int 0, .int 0])), (w0, .inl (cy 2, 6, .inl f_10)), (w1, .inl (cy 0, 6, .inl f_11)), (w2, .inl (cy 0, 6, .inl (fun _ => 0))), (w3, .inl (cy 0, 6, .inl (fun _ => 0))), (w4, .inl (cy 0, 6, .inl (fun _ => 0)))] H := ef_11 ▸ hP
                  have hD : va_D A [(h0, .inr (10, [.int 0, .ref w0, .ref w1, .ref w2, .ref w3, .ref w4, .ref w5, .int 0, .ref w6, .int 0, .int 0, .int 0, .int 0, .int 0, .int 0, .int 0, .int 0, .long 0, .int 0, .int 0, .ref w7, .ref w8, .ref w9, .ref w10, .ref w11, .ref w12, .ref w13, .ref w14, .int 0, .int 0, .int 0, .ref w15, .ref w16, .ref w17, .ref w18, .ref w19, .ref w20, .int 0, .ref w21, .ref w22, .ref w23, .ref w24, .ref w25, .ref w26, .ref w27, .ref w28, .ref w29, .ref w30, .ref w31, .ref w32, .ref w33, .ref w34, .ref w35, .ref w36, .ref w37, .int (-1), .int 0, .int 0, .int 0])), (w0, .inl (cy 2, 6, .inl f_10)), (w1, .inl (cy 0, 6, .inl f_11)), (w2, .inl (cy 0, 6, .inl (fun _ => 0))), (w3, .inl (cy 0, 6, .inl (fun _ => 0))), (w4, .inl (cy 0, 6, .inl (fun _ => 0)))] := ef_11 ▸ hD
                  refine lv_aload_n hx hb dX10_well_74 rfl (lv_at hl 0 rfl) ?_
                  refine va_get (ci := 10) (v := .ref w2) (C := RX10) (T := TX10) (N := 59) hx hb hts inX10 hown hK hP 0 rfl rfl 3 (by decide) (hts _ gm_904) (fun _ h9 => h9) rfl dX10_well_75 ?_
                  refine lv_iload_n hx hb dX10_well_78 rfl (lv_at hl 1 rfl) ?_
                  refine lv_iload_n hx hb dX10_well_79 rfl (lv_at hl 3 rfl) ?_
                  refine va_iast hx hb hK hP hD hS 3 0 rfl rfl (vp_in_iff.mpr ⟨by omega, by omega⟩) dX10_well_80 (fun H locs hP hD hS => ?_)
                  obtain ⟨f_12, ef_12⟩ : ∃ g : Nat → Int32, g = upd (fun _ => 0) (x : Int32).toNatClampNeg z := ⟨_, rfl⟩
                  have hP : va_P G vwCl [(h0, .inr (10, [.int 0, .ref w0, .ref w1, .ref w2, .ref w3, .ref w4, .ref w5, .int 0, .ref w6, .int 0, .int 0, .int 0, .int 0, .int 0, .int 0, .int 0, .int 0, .long 0, .int 0, .int 0, .ref w7, .ref w8, .ref w9, .ref w10, .ref w11, .ref w12, .ref w13, .ref w14, .int 0, .int 0, .int 0, .ref w15, .ref w16, .ref w17, .ref w18, .ref w19, .ref w20, .int 0, .ref w21, .ref w22, .ref w23, .ref w24, .ref w25, .ref w26, .ref w27, .ref w28, .ref w29, .ref w30, .ref w31, .ref w32, .ref w33, .ref w34, .ref w35, .ref w36, .ref w37, .int (-1), .int 0, .int 0, .int 0])), (w0, .inl (cy 2, 6, .inl f_10)), (w1, .inl (cy 0, 6, .inl f_11)), (w2, .inl (cy 0, 6, .inl f_12)), (w3, .inl (cy 0, 6, .inl (fun _ => 0))), (w4, .inl (cy 0, 6, .inl (fun _ => 0)))] H := ef_12 ▸ hP
                  have hD : va_D A [(h0, .inr (10, [.int 0, .ref w0, .ref w1, .ref w2, .ref w3, .ref w4, .ref w5, .int 0, .ref w6, .int 0, .int 0, .int 0, .int 0, .int 0, .int 0, .int 0, .int 0, .long 0, .int 0, .int 0, .ref w7, .ref w8, .ref w9, .ref w10, .ref w11, .ref w12, .ref w13, .ref w14, .int 0, .int 0, .int 0, .ref w15, .ref w16, .ref w17, .ref w18, .ref w19, .ref w20, .int 0, .ref w21, .ref w22, .ref w23, .ref w24, .ref w25, .ref w26, .ref w27, .ref w28, .ref w29, .ref w30, .ref w31, .ref w32, .ref w33, .ref w34, .ref w35, .ref w36, .ref w37, .int (-1), .int 0, .int 0, .int 0])), (w0, .inl (cy 2, 6, .inl f_10)), (w1, .inl (cy 0, 6, .inl f_11)), (w2, .inl (cy 0, 6, .inl f_12)), (w3, .inl (cy 0, 6, .inl (fun _ => 0))), (w4, .inl (cy 0, 6, .inl (fun _ => 0)))] := ef_12 ▸ hD
                  refine lv_aload_n hx hb dX10_well_81 rfl (lv_at hl 0 rfl) ?_
                  refine va_get (ci := 10) (v := .ref w3) (C := RX10) (T := TX10) (N := 59) hx hb hts inX10 hown hK hP 0 rfl rfl 4 (by decide) (hts _ gm_905) (fun _ h9 => h9) rfl dX10_well_82 ?_
                  refine lv_iload_n hx hb dX10_well_85 rfl (lv_at hl 1 rfl) ?_
                  refine lv_iload hx hb dX10_well_86 (lv_at hl 4 rfl) ?_
                  refine va_iast hx hb hK hP hD hS 4 0 rfl rfl (vp_in_iff.mpr ⟨by omega, by omega⟩) dX10_well_88 (fun H locs hP hD hS => ?_)
                  obtain ⟨f_13, ef_13⟩ : ∃ g : Nat → Int32, g = upd (fun _ => 0) (x : Int32).toNatClampNeg v := ⟨_, rfl⟩
                  have hP : va_P G vwCl [(h0, .inr (10, [.int 0, .ref w0, .ref w1, .ref w2, .ref w3, .ref w4, .ref w5, .int 0, .ref w6, .int 0, .int 0, .int 0, .int 0, .int 0, .int 0, .int 0, .int 0, .long 0, .int 0, .int 0, .ref w7, .ref w8, .ref w9, .ref w10, .ref w11, .ref w12, .ref w13, .ref w14, .int 0, .int 0, .int 0, .ref w15, .ref w16, .ref w17, .ref w18, .ref w19, .ref w20, .int 0, .ref w21, .ref w22, .ref w23, .ref w24, .ref w25, .ref w26, .ref w27, .ref w28, .ref w29, .ref w30, .ref w31, .ref w32, .ref w33, .ref w34, .ref w35, .ref w36, .ref w37, .int (-1), .int 0, .int 0, .int 0])), (w0, .inl (cy 2, 6, .inl f_10)), (w1, .inl (cy 0, 6, .inl f_11)), (w2, .inl (cy 0, 6, .inl f_12)), (w3, .inl (cy 0, 6, .inl f_13)), (w4, .inl (cy 0, 6, .inl (fun _ => 0)))] H := ef_13 ▸ hP
                  have hD : va_D A [(h0, .inr (10, [.int 0, .ref w0, .ref w1, .ref w2, .ref w3, .ref w4, .ref w5, .int 0, .ref w6, .int 0, .int 0, .int 0, .int 0, .int 0, .int 0, .int 0, .int 0, .long 0, .int 0, .int 0, .ref w7, .ref w8, .ref w9, .ref w10, .ref w11, .ref w12, .ref w13, .ref w14, .int 0, .int 0, .int 0, .ref w15, .ref w16, .ref w17, .ref w18, .ref w19, .ref w20, .int 0, .ref w21, .ref w22, .ref w23, .ref w24, .ref w25, .ref w26, .ref w27, .ref w28, .ref w29, .ref w30, .ref w31, .ref w32, .ref w33, .ref w34, .ref w35, .ref w36, .ref w37, .int (-1), .int 0, .int 0, .int 0])), (w0, .inl (cy 2, 6, .inl f_10)), (w1, .inl (cy 0, 6, .inl f_11)), (w2, .inl (cy 0, 6, .inl f_12)), (w3, .inl (cy 0, 6, .inl f_13)), (w4, .inl (cy 0, 6, .inl (fun _ => 0)))] := ef_13 ▸ hD
                  refine lv_aload_n hx hb dX10_well_89 rfl (lv_at hl 0 rfl) ?_
                  refine va_get (ci := 10) (v := .ref w4) (C := RX10) (T := TX10) (N := 59) hx hb hts inX10 hown hK hP 0 rfl rfl 5 (by decide) (hts _ gm_906) (fun _ h9 => h9) rfl dX10_well_90 ?_
                  refine lv_iload_n hx hb dX10_well_93 rfl (lv_at hl 1 rfl) ?_
                  refine lv_iload hx hb dX10_well_94 (lv_at hl 4 rfl) ?_
                  refine va_iast hx hb hK hP hD hS 5 0 rfl rfl (vp_in_iff.mpr ⟨by omega, by omega⟩) dX10_well_96 (fun H locs hP hD hS => ?_)
                  obtain ⟨f_14, ef_14⟩ : ∃ g : Nat → Int32, g = upd (fun _ => 0) (x : Int32).toNatClampNeg v := ⟨_, rfl⟩
                  have hP : va_P G vwCl [(h0, .inr (10, [.int 0, .ref w0, .ref w1, .ref w2, .ref w3, .ref w4, .ref w5, .int 0, .ref w6, .int 0, .int 0, .int 0, .int 0, .int 0, .int 0, .int 0, .int 0, .long 0, .int 0, .int 0, .ref w7, .ref w8, .ref w9, .ref w10, .ref w11, .ref w12, .ref w13, .ref w14, .int 0, .int 0, .int 0, .ref w15, .ref w16, .ref w17, .ref w18, .ref w19, .ref w20, .int 0, .ref w21, .ref w22, .ref w23, .ref w24, .ref w25, .ref w26, .ref w27, .ref w28, .ref w29, .ref w30, .ref w31, .ref w32, .ref w33, .ref w34, .ref w35, .ref w36, .ref w37, .int (-1), .int 0, .int 0, .int 0])), (w0, .inl (cy 2, 6, .inl f_10)), (w1, .inl (cy 0, 6, .inl f_11)), (w2, .inl (cy 0, 6, .inl f_12)), (w3, .inl (cy 0, 6, .inl f_13)), (w4, .inl (cy 0, 6, .inl f_14))] H := ef_14 ▸ hP
                  have hD : va_D A [(h0, .inr (10, [.int 0, .ref w0, .ref w1, .ref w2, .ref w3, .ref w4, .ref w5, .int 0, .ref w6, .int 0, .int 0, .int 0, .int 0, .int 0, .int 0, .int 0, .int 0, .long 0, .int 0, .int 0, .ref w7, .ref w8, .ref w9, .ref w10, .ref w11, .ref w12, .ref w13, .ref w14, .int 0, .int 0, .int 0, .ref w15, .ref w16, .ref w17, .ref w18, .ref w19, .ref w20, .int 0, .ref w21, .ref w22, .ref w23, .ref w24, .ref w25, .ref w26, .ref w27, .ref w28, .ref w29, .ref w30, .ref w31, .ref w32, .ref w33, .ref w34, .ref w35, .ref w36, .ref w37, .int (-1), .int 0, .int 0, .int 0])), (w0, .inl (cy 2, 6, .inl f_10)), (w1, .inl (cy 0, 6, .inl f_11)), (w2, .inl (cy 0, 6, .inl f_12)), (w3, .inl (cy 0, 6, .inl f_13)), (w4, .inl (cy 0, 6, .inl f_14))] := ef_14 ▸ hD
                  refine lv_iconst (v := 1) hx hb dX10_well_97 (by decide) ?_
                  exact gz_iret (p := p) (l := l) (e := e) (s := s) (m := m) (below := below) (meth := meth) (c := c) (H := H) (cells := 0) (slots := 0) (mc := 0) (ms := 0) (cf := (fun (u : Unit) => [])) (post := (fun (r : Int32) (u : Unit) => (r = 1 ∧ (0 ≤ Xx ∧ Xx < 6 ∧ 1 ≤ Xy ∧ Xy ≤ 1000 ∧ 0 ≤ Xz ∧ Xz ≤ 200 ∧ 0 ≤ Xv ∧ Xv ≤ Xy)) ∨ (r = 0 ∧ (¬ (0 ≤ Xx ∧ Xx < 6 ∧ 1 ≤ Xy ∧ Xy ≤ 1000 ∧ 0 ≤ Xz ∧ Xz ≤ 200 ∧ 0 ≤ Xv ∧ Xv ≤ Xy))))) hx hb hr hlocks hK hP hD hS () [] (by decide) (Or.inl (⟨rfl, by omega⟩)) (by decide) rfl (by exact Nat.le_of_ble_eq_true rfl) (by exact Nat.le_of_ble_eq_true rfl) dX10_well_98
                · have ic_9 := gz_nle (rfl : v.toInt = v.toInt) (rfl : y.toInt = y.toInt) c_9
                  refine lv_iconst (v := 0) hx hb dX10_well_58 (by decide) ?_
                  exact gz_iret (p := p) (l := l) (e := e) (s := s) (m := m) (below := below) (meth := meth) (c := c) (H := H) (cells := 0) (slots := 0) (mc := 0) (ms := 0) (cf := (fun (u : Unit) => [])) (post := (fun (r : Int32) (u : Unit) => (r = 1 ∧ (0 ≤ Xx ∧ Xx < 6 ∧ 1 ≤ Xy ∧ Xy ≤ 1000 ∧ 0 ≤ Xz ∧ Xz ≤ 200 ∧ 0 ≤ Xv ∧ Xv ≤ Xy)) ∨ (r = 0 ∧ (¬ (0 ≤ Xx ∧ Xx < 6 ∧ 1 ≤ Xy ∧ Xy ≤ 1000 ∧ 0 ≤ Xz ∧ Xz ≤ 200 ∧ 0 ≤ Xv ∧ Xv ≤ Xy))))) hx hb hr hlocks hK hP hD hS () [] (by decide) (Or.inr (⟨rfl, by omega⟩)) (by decide) rfl (by exact Nat.le_of_ble_eq_true rfl) (by exact Nat.le_of_ble_eq_true rfl) dX10_well_59

set_option maxHeartbeats 4000000 in
set_option maxRecDepth 100000 in
/-- WellCourtModel.peek -/
theorem m_peek (l : Launch) (G : va_G) (cy : Nat → ClassId) (sz : Nat) (h0 : Nat) (w0 : Nat) (w1 : Nat) (w2 : Nat) (w3 : Nat) (w4 : Nat) (w5 : Nat) (w6 : Nat) (w7 : Nat) (w8 : Nat) (w9 : Nat) (w10 : Nat) (w11 : Nat) (w12 : Nat) (w13 : Nat) (w14 : Nat) (w15 : Nat) (w16 : Nat) (w17 : Nat) (w18 : Nat) (w19 : Nat) (w20 : Nat) (w21 : Nat) (w22 : Nat) (w23 : Nat) (w24 : Nat) (w25 : Nat) (w26 : Nat) (w27 : Nat) (w28 : Nat) (w29 : Nat) (w30 : Nat) (w31 : Nat) (w32 : Nat) (w33 : Nat) (w34 : Nat) (w35 : Nat) (w36 : Nat) (w37 : Nat) (zb : Int32)   : gMi l yX10_peek cX10_peek 1 (some .int) ({ frames := 0, cells := 0, slots := 0, locals := 0 }) G cy sz [.ref h0] [(h0, .inr (10, [.int 0, .ref w0, .ref w1, .ref w2, .ref w3, .ref w4, .ref w5, .int 0, .ref w6, .int 0, .int 0, .int 0, .int 0, .int 0, .int 0, .int 0, .int 0, .long 0, .int 0, .int 0, .ref w7, .ref w8, .ref w9, .ref w10, .ref w11, .ref w12, .ref w13, .ref w14, .int zb, .int 0, .int 0, .ref w15, .ref w16, .ref w17, .ref w18, .ref w19, .ref w20, .int 0, .ref w21, .ref w22, .ref w23, .ref w24, .ref w25, .ref w26, .ref w27, .ref w28, .ref w29, .ref w30, .ref w31, .ref w32, .ref w33, .ref w34, .ref w35, .ref w36, .ref w37, .int (-1), .int 0, .int 0, .int 0]))] (fun (r : Int32) (u : Unit) => r = (-1)) (fun (u : Unit) => [(h0, .inr (10, [.int 0, .ref w0, .ref w1, .ref w2, .ref w3, .ref w4, .ref w5, .int 0, .ref w6, .int 0, .int 0, .int 0, .int 0, .int 0, .int 0, .int 0, .int 0, .long 0, .int 0, .int 0, .ref w7, .ref w8, .ref w9, .ref w10, .ref w11, .ref w12, .ref w13, .ref w14, .int zb, .int 0, .int 0, .ref w15, .ref w16, .ref w17, .ref w18, .ref w19, .ref w20, .int 0, .ref w21, .ref w22, .ref w23, .ref w24, .ref w25, .ref w26, .ref w27, .ref w28, .ref w29, .ref w30, .ref w31, .ref w32, .ref w33, .ref w34, .ref w35, .ref w36, .ref w37, .int (-1), .int 0, .int 0, .int 0]))]) := by
  refine gz_start (fun A => gQi G cy _ _ A) (by decide) (Nat.le_of_ble_eq_true rfl) ?_
  intro p e s m below meth c A ls H hx hb hr hml hlocks hin hown hts hK hov hsz hP hD hS hA hl
  have hl : lv_has ls 1 [(0, .ref h0)] := hl
  refine lv_aload_n hx hb dX10_peek_0 rfl (lv_at hl 0 rfl) ?_
  refine va_get (ci := 10) (v := .int 0) (C := RX10) (T := TX10) (N := 59) hx hb hts inX10 hown hK hP 0 rfl rfl 11 (by decide) (hts _ gm_912) (fun _ h9 => h9) rfl dX10_peek_1 ?_
  refine lv_aload_n hx hb dX10_peek_4 rfl (lv_at hl 0 rfl) ?_
  refine va_get (ci := 10) (v := .int 0) (C := RX10) (T := TX10) (N := 59) hx hb hts inX10 hown hK hP 0 rfl rfl 10 (by decide) (hts _ gm_911) (fun _ h9 => h9) rfl dX10_peek_5 ?_
  refine lv_icmp_ge (tgt := 27) hx hb dX10_peek_8 (by decide) (fun _ => ?_) (fun h9 => absurd (by decide) h9)
  refine lv_iconst (v := (-1)) hx hb dX10_peek_27 (by decide) ?_
  exact gz_iret (p := p) (l := l) (e := e) (s := s) (m := m) (below := below) (meth := meth) (c := c) (H := H) (cells := 0) (slots := 0) (mc := 0) (ms := 0) (cf := (fun (u : Unit) => [(h0, .inr (10, [.int 0, .ref w0, .ref w1, .ref w2, .ref w3, .ref w4, .ref w5, .int 0, .ref w6, .int 0, .int 0, .int 0, .int 0, .int 0, .int 0, .int 0, .int 0, .long 0, .int 0, .int 0, .ref w7, .ref w8, .ref w9, .ref w10, .ref w11, .ref w12, .ref w13, .ref w14, .int zb, .int 0, .int 0, .ref w15, .ref w16, .ref w17, .ref w18, .ref w19, .ref w20, .int 0, .ref w21, .ref w22, .ref w23, .ref w24, .ref w25, .ref w26, .ref w27, .ref w28, .ref w29, .ref w30, .ref w31, .ref w32, .ref w33, .ref w34, .ref w35, .ref w36, .ref w37, .int (-1), .int 0, .int 0, .int 0]))])) (post := (fun (r : Int32) (u : Unit) => r = (-1))) hx hb hr hlocks hK hP hD hS () [0] rfl rfl (by decide) rfl (by exact Nat.le_of_ble_eq_true rfl) (by exact Nat.le_of_ble_eq_true rfl) dX10_peek_28

set_option maxHeartbeats 4000000 in
set_option maxRecDepth 100000 in
/-- WellCourtModel.next0 -/
theorem m_next0 (l : Launch) (G : va_G) (cy : Nat → ClassId) (sz : Nat) (h0 : Nat) (w0 : Nat) (w1 : Nat) (w2 : Nat) (w3 : Nat) (w4 : Nat) (w5 : Nat) (w6 : Nat) (w7 : Nat) (w8 : Nat) (w9 : Nat) (w10 : Nat) (w11 : Nat) (w12 : Nat) (w13 : Nat) (w14 : Nat) (w15 : Nat) (w16 : Nat) (w17 : Nat) (w18 : Nat) (w19 : Nat) (w20 : Nat) (w21 : Nat) (w22 : Nat) (w23 : Nat) (w24 : Nat) (w25 : Nat) (w26 : Nat) (w27 : Nat) (w28 : Nat) (w29 : Nat) (w30 : Nat) (w31 : Nat) (w32 : Nat) (w33 : Nat) (w34 : Nat) (w35 : Nat) (w36 : Nat) (w37 : Nat) (zb : Int32)  : gMv l yX10_next0 cX10_next0 5 ({ frames := 1, cells := 0, slots := 0, locals := 20 }) G cy sz [.ref h0] [(h0, .inr (10, [.int 0, .ref w0, .ref w1, .ref w2, .ref w3, .ref w4, .ref w5, .int 0, .ref w6, .int 0, .int 0, .int 0, .int 0, .int 0, .int 0, .int 0, .int 0, .long 0, .int 0, .int 0, .ref w7, .ref w8, .ref w9, .ref w10, .ref w11, .ref w12, .ref w13, .ref w14, .int zb, .int 0, .int 0, .ref w15, .ref w16, .ref w17, .ref w18, .ref w19, .ref w20, .int 0, .ref w21, .ref w22, .ref w23, .ref w24, .ref w25, .ref w26, .ref w27, .ref w28, .ref w29, .ref w30, .ref w31, .ref w32, .ref w33, .ref w34, .ref w35, .ref w36, .ref w37, .int (-1), .int 0, .int 0, .int 0]))] (fun (u : Unit) => True) (fun (u : Unit) => [(h0, .inr (10, [.int 0, .ref w0, .ref w1, .ref w2, .ref w3, .ref w4, .ref w5, .int 0, .ref w6, .int 0, .int 0, .int 0, .int 0, .int 0, .int 0, .int 0, .int 0, .long 0, .int 0, .int 0, .ref w7, .ref w8, .ref w9, .ref w10, .ref w11, .ref w12, .ref w13, .ref w14, .int zb, .int 0, .int 0, .ref w15, .ref w16, .ref w17, .ref w18, .ref w19, .ref w20, .int 0, .ref w21, .ref w22, .ref w23, .ref w24, .ref w25, .ref w26, .ref w27, .ref w28, .ref w29, .ref w30, .ref w31, .ref w32, .ref w33, .ref w34, .ref w35, .ref w36, .ref w37, .int (-1), .int 0, .int 0, .int 0]))]) := by
  refine gz_start (fun A => gQv G cy _ _ A) (by decide) (Nat.le_of_ble_eq_true rfl) ?_
  intro p e s m below meth c A ls H hx hb hr hml hlocks hin hown hts hK hov hsz hP hD hS hA hl
  have hl : lv_has ls 5 [(0, .ref h0)] := hl
  refine lv_aload_n hx hb dX10_next0_0 rfl (lv_at hl 0 rfl) ?_
  refine gz_afti (va_runV (As := []) (rest := []) ⟨hx, hb, hml, hown, hts⟩ (m_peek l G cy H.size h0 w0 w1 w2 w3 w4 w5 w6 w7 w8 w9 w10 w11 w12 w13 w14 w15 w16 w17 w18 w19 w20 w21 w22 w23 w24 w25 w26 w27 w28 w29 w30 w31 w32 w33 w34 w35 w36 w37 zb ) ⟨(gz_cb (n := 0) hts gm_1104 gm_12 gm_1107 ⟨by decide +kernel, by decide +kernel, by decide +kernel⟩ ⟨Nat.le_of_ble_eq_true rfl, Nat.le_of_ble_eq_true rfl⟩), hts _ gm_1106, hts _ gs_33⟩ (gz_preV (ci := 10) (q0 := 0) hK hov hP hD [0] (by decide) rfl rfl rfl) rfl rfl hl.1 rfl (lv_room (Nat.le_of_ble_eq_true rfl)) dX10_next0_1 ⟨Nat.le_of_ble_eq_true rfl, Nat.le_of_ble_eq_true rfl⟩) hP hD hS hA [0] [] rfl rfl (by decide) (by decide) (fun r_1 u_1 H locs hw_1 hP hD hS => ?_)
  have hP : va_P G vwCl [(h0, .inr (10, [.int 0, .ref w0, .ref w1, .ref w2, .ref w3, .ref w4, .ref w5, .int 0, .ref w6, .int 0, .int 0, .int 0, .int 0, .int 0, .int 0, .int 0, .int 0, .long 0, .int 0, .int 0, .ref w7, .ref w8, .ref w9, .ref w10, .ref w11, .ref w12, .ref w13, .ref w14, .int zb, .int 0, .int 0, .ref w15, .ref w16, .ref w17, .ref w18, .ref w19, .ref w20, .int 0, .ref w21, .ref w22, .ref w23, .ref w24, .ref w25, .ref w26, .ref w27, .ref w28, .ref w29, .ref w30, .ref w31, .ref w32, .ref w33, .ref w34, .ref w35, .ref w36, .ref w37, .int (-1), .int 0, .int 0, .int 0]))] H := hP
  have hD : va_D A [(h0, .inr (10, [.int 0, .ref w0, .ref w1, .ref w2, .ref w3, .ref w4, .ref w5, .int 0, .ref w6, .int 0, .int 0, .int 0, .int 0, .int 0, .int 0, .int 0, .int 0, .long 0, .int 0, .int 0, .ref w7, .ref w8, .ref w9, .ref w10, .ref w11, .ref w12, .ref w13, .ref w14, .int zb, .int 0, .int 0, .ref w15, .ref w16, .ref w17, .ref w18, .ref w19, .ref w20, .int 0, .ref w21, .ref w22, .ref w23, .ref w24, .ref w25, .ref w26, .ref w27, .ref w28, .ref w29, .ref w30, .ref w31, .ref w32, .ref w33, .ref w34, .ref w35, .ref w36, .ref w37, .int (-1), .int 0, .int 0, .int 0]))] := hD
  obtain rfl := hw_1
  refine lv_bipush (v := 32) hx hb dX10_next0_4 (by decide) ?_
  refine lv_icmp_eq (tgt := 18) hx hb dX10_next0_6 (by decide) (fun h9 => absurd h9 (by decide)) (fun _ => ?_)
  refine lv_aload_n hx hb dX10_next0_9 rfl (lv_at hl 0 rfl) ?_
  refine gz_afti (va_runV (As := []) (rest := []) ⟨hx, hb, hml, hown, hts⟩ (m_peek l G cy H.size h0 w0 w1 w2 w3 w4 w5 w6 w7 w8 w9 w10 w11 w12 w13 w14 w15 w16 w17 w18 w19 w20 w21 w22 w23 w24 w25 w26 w27 w28 w29 w30 w31 w32 w33 w34 w35 w36 w37 zb ) ⟨(gz_cb (n := 0) hts gm_1104 gm_12 gm_1107 ⟨by decide +kernel, by decide +kernel, by decide +kernel⟩ ⟨Nat.le_of_ble_eq_true rfl, Nat.le_of_ble_eq_true rfl⟩), hts _ gm_1106, hts _ gs_33⟩ (gz_preV (ci := 10) (q0 := 0) hK hov hP hD [0] (by decide) rfl rfl rfl) rfl rfl hl.1 rfl (lv_room (Nat.le_of_ble_eq_true rfl)) dX10_next0_10 ⟨Nat.le_of_ble_eq_true rfl, Nat.le_of_ble_eq_true rfl⟩) hP hD hS hA [0] [] rfl rfl (by decide) (by decide) (fun r_2 u_2 H locs hw_2 hP hD hS => ?_)
  have hP : va_P G vwCl [(h0, .inr (10, [.int 0, .ref w0, .ref w1, .ref w2, .ref w3, .ref w4, .ref w5, .int 0, .ref w6, .int 0, .int 0, .int 0, .int 0, .int 0, .int 0, .int 0, .int 0, .long 0, .int 0, .int 0, .ref w7, .ref w8, .ref w9, .ref w10, .ref w11, .ref w12, .ref w13, .ref w14, .int zb, .int 0, .int 0, .ref w15, .ref w16, .ref w17, .ref w18, .ref w19, .ref w20, .int 0, .ref w21, .ref w22, .ref w23, .ref w24, .ref w25, .ref w26, .ref w27, .ref w28, .ref w29, .ref w30, .ref w31, .ref w32, .ref w33, .ref w34, .ref w35, .ref w36, .ref w37, .int (-1), .int 0, .int 0, .int 0]))] H := hP
  have hD : va_D A [(h0, .inr (10, [.int 0, .ref w0, .ref w1, .ref w2, .ref w3, .ref w4, .ref w5, .int 0, .ref w6, .int 0, .int 0, .int 0, .int 0, .int 0, .int 0, .int 0, .int 0, .long 0, .int 0, .int 0, .ref w7, .ref w8, .ref w9, .ref w10, .ref w11, .ref w12, .ref w13, .ref w14, .int zb, .int 0, .int 0, .ref w15, .ref w16, .ref w17, .ref w18, .ref w19, .ref w20, .int 0, .ref w21, .ref w22, .ref w23, .ref w24, .ref w25, .ref w26, .ref w27, .ref w28, .ref w29, .ref w30, .ref w31, .ref w32, .ref w33, .ref w34, .ref w35, .ref w36, .ref w37, .int (-1), .int 0, .int 0, .int 0]))] := hD
  obtain rfl := hw_2
  refine lv_bipush (v := 10) hx hb dX10_next0_13 (by decide) ?_
  refine lv_icmp_ne (tgt := 31) hx hb dX10_next0_15 (by decide) (fun _ => ?_) (fun h9 => absurd h9 (by decide))
  refine lv_aload_n hx hb dX10_next0_31 rfl (lv_at hl 0 rfl) ?_
  refine lv_aload_n hx hb dX10_next0_32 rfl (lv_at hl 0 rfl) ?_
  refine va_get (ci := 10) (v := .int 0) (C := RX10) (T := TX10) (N := 59) hx hb hts inX10 hown hK hP 0 rfl rfl 11 (by decide) (hts _ gm_912) (fun _ h9 => h9) rfl dX10_next0_33 ?_
  refine va_put (ci := 10) (v := .int 0) (ty := .int) (C := RX10) (T := TX10) (N := 59) hx hb hts inX10 tyX10 tyX10_ok nmX10 hown hK hP hD hS 0 rfl rfl 13 (by decide) (hts _ gm_914) (fun _ h9 => h9) rfl (by decide +kernel) rfl rfl (Nat.le_of_ble_eq_true rfl) dX10_next0_36 (fun H locs hP hD hS => ?_)
  have hP : va_P G vwCl [(h0, .inr (10, [.int 0, .ref w0, .ref w1, .ref w2, .ref w3, .ref w4, .ref w5, .int 0, .ref w6, .int 0, .int 0, .int 0, .int 0, .int 0, .int 0, .int 0, .int 0, .long 0, .int 0, .int 0, .ref w7, .ref w8, .ref w9, .ref w10, .ref w11, .ref w12, .ref w13, .ref w14, .int zb, .int 0, .int 0, .ref w15, .ref w16, .ref w17, .ref w18, .ref w19, .ref w20, .int 0, .ref w21, .ref w22, .ref w23, .ref w24, .ref w25, .ref w26, .ref w27, .ref w28, .ref w29, .ref w30, .ref w31, .ref w32, .ref w33, .ref w34, .ref w35, .ref w36, .ref w37, .int (-1), .int 0, .int 0, .int 0]))] H := hP
  have hD : va_D A [(h0, .inr (10, [.int 0, .ref w0, .ref w1, .ref w2, .ref w3, .ref w4, .ref w5, .int 0, .ref w6, .int 0, .int 0, .int 0, .int 0, .int 0, .int 0, .int 0, .int 0, .long 0, .int 0, .int 0, .ref w7, .ref w8, .ref w9, .ref w10, .ref w11, .ref w12, .ref w13, .ref w14, .int zb, .int 0, .int 0, .ref w15, .ref w16, .ref w17, .ref w18, .ref w19, .ref w20, .int 0, .ref w21, .ref w22, .ref w23, .ref w24, .ref w25, .ref w26, .ref w27, .ref w28, .ref w29, .ref w30, .ref w31, .ref w32, .ref w33, .ref w34, .ref w35, .ref w36, .ref w37, .int (-1), .int 0, .int 0, .int 0]))] := hD
  refine lv_aload_n hx hb dX10_next0_39 rfl (lv_at hl 0 rfl) ?_
  refine gz_afti (va_runV (As := []) (rest := []) ⟨hx, hb, hml, hown, hts⟩ (m_peek l G cy H.size h0 w0 w1 w2 w3 w4 w5 w6 w7 w8 w9 w10 w11 w12 w13 w14 w15 w16 w17 w18 w19 w20 w21 w22 w23 w24 w25 w26 w27 w28 w29 w30 w31 w32 w33 w34 w35 w36 w37 zb ) ⟨(gz_cb (n := 0) hts gm_1104 gm_12 gm_1107 ⟨by decide +kernel, by decide +kernel, by decide +kernel⟩ ⟨Nat.le_of_ble_eq_true rfl, Nat.le_of_ble_eq_true rfl⟩), hts _ gm_1106, hts _ gs_33⟩ (gz_preV (ci := 10) (q0 := 0) hK hov hP hD [0] (by decide) rfl rfl rfl) rfl rfl hl.1 rfl (lv_room (Nat.le_of_ble_eq_true rfl)) dX10_next0_40 ⟨Nat.le_of_ble_eq_true rfl, Nat.le_of_ble_eq_true rfl⟩) hP hD hS hA [0] [] rfl rfl (by decide) (by decide) (fun r_3 u_3 H locs hw_3 hP hD hS => ?_)
  have hP : va_P G vwCl [(h0, .inr (10, [.int 0, .ref w0, .ref w1, .ref w2, .ref w3, .ref w4, .ref w5, .int 0, .ref w6, .int 0, .int 0, .int 0, .int 0, .int 0, .int 0, .int 0, .int 0, .long 0, .int 0, .int 0, .ref w7, .ref w8, .ref w9, .ref w10, .ref w11, .ref w12, .ref w13, .ref w14, .int zb, .int 0, .int 0, .ref w15, .ref w16, .ref w17, .ref w18, .ref w19, .ref w20, .int 0, .ref w21, .ref w22, .ref w23, .ref w24, .ref w25, .ref w26, .ref w27, .ref w28, .ref w29, .ref w30, .ref w31, .ref w32, .ref w33, .ref w34, .ref w35, .ref w36, .ref w37, .int (-1), .int 0, .int 0, .int 0]))] H := hP
  have hD : va_D A [(h0, .inr (10, [.int 0, .ref w0, .ref w1, .ref w2, .ref w3, .ref w4, .ref w5, .int 0, .ref w6, .int 0, .int 0, .int 0, .int 0, .int 0, .int 0, .int 0, .int 0, .long 0, .int 0, .int 0, .ref w7, .ref w8, .ref w9, .ref w10, .ref w11, .ref w12, .ref w13, .ref w14, .int zb, .int 0, .int 0, .ref w15, .ref w16, .ref w17, .ref w18, .ref w19, .ref w20, .int 0, .ref w21, .ref w22, .ref w23, .ref w24, .ref w25, .ref w26, .ref w27, .ref w28, .ref w29, .ref w30, .ref w31, .ref w32, .ref w33, .ref w34, .ref w35, .ref w36, .ref w37, .int (-1), .int 0, .int 0, .int 0]))] := hD
  obtain rfl := hw_3
  refine lv_istore_n (lv' := [(1, .int (-1)), (0, .ref h0)]) hx hb dX10_next0_43 rfl hl (by decide) rfl (fun ls hl => ?_)
  refine lv_iload_n hx hb dX10_next0_44 rfl (lv_at hl 0 rfl) ?_
  refine lv_if_ge (tgt := 56) hx hb dX10_next0_45 (by decide) (fun h9 => absurd h9 (by decide)) (fun _ => ?_)
  refine lv_aload_n hx hb dX10_next0_48 rfl (lv_at hl 1 rfl) ?_
  refine lv_iconst (v := 0) hx hb dX10_next0_49 (by decide) ?_
  refine va_put (ci := 10) (v := .int 0) (ty := .int) (C := RX10) (T := TX10) (N := 59) hx hb hts inX10 tyX10 tyX10_ok nmX10 hown hK hP hD hS 0 rfl rfl 12 (by decide) (hts _ gm_913) (fun _ h9 => h9) rfl (by decide +kernel) rfl rfl (Nat.le_of_ble_eq_true rfl) dX10_next0_50 (fun H locs hP hD hS => ?_)
  have hP : va_P G vwCl [(h0, .inr (10, [.int 0, .ref w0, .ref w1, .ref w2, .ref w3, .ref w4, .ref w5, .int 0, .ref w6, .int 0, .int 0, .int 0, .int 0, .int 0, .int 0, .int 0, .int 0, .long 0, .int 0, .int 0, .ref w7, .ref w8, .ref w9, .ref w10, .ref w11, .ref w12, .ref w13, .ref w14, .int zb, .int 0, .int 0, .ref w15, .ref w16, .ref w17, .ref w18, .ref w19, .ref w20, .int 0, .ref w21, .ref w22, .ref w23, .ref w24, .ref w25, .ref w26, .ref w27, .ref w28, .ref w29, .ref w30, .ref w31, .ref w32, .ref w33, .ref w34, .ref w35, .ref w36, .ref w37, .int (-1), .int 0, .int 0, .int 0]))] H := hP
  have hD : va_D A [(h0, .inr (10, [.int 0, .ref w0, .ref w1, .ref w2, .ref w3, .ref w4, .ref w5, .int 0, .ref w6, .int 0, .int 0, .int 0, .int 0, .int 0, .int 0, .int 0, .int 0, .long 0, .int 0, .int 0, .ref w7, .ref w8, .ref w9, .ref w10, .ref w11, .ref w12, .ref w13, .ref w14, .int zb, .int 0, .int 0, .ref w15, .ref w16, .ref w17, .ref w18, .ref w19, .ref w20, .int 0, .ref w21, .ref w22, .ref w23, .ref w24, .ref w25, .ref w26, .ref w27, .ref w28, .ref w29, .ref w30, .ref w31, .ref w32, .ref w33, .ref w34, .ref w35, .ref w36, .ref w37, .int (-1), .int 0, .int 0, .int 0]))] := hD
  refine lv_goto (tgt := 288) hx hb dX10_next0_53 (by decide) ?_
  exact gz_vret (p := p) (l := l) (e := e) (s := s) (m := m) (below := below) (meth := meth) (c := c) (H := H) (cells := 0) (slots := 0) (mc := 0) (ms := 0) (cf := (fun (u : Unit) => [(h0, .inr (10, [.int 0, .ref w0, .ref w1, .ref w2, .ref w3, .ref w4, .ref w5, .int 0, .ref w6, .int 0, .int 0, .int 0, .int 0, .int 0, .int 0, .int 0, .int 0, .long 0, .int 0, .int 0, .ref w7, .ref w8, .ref w9, .ref w10, .ref w11, .ref w12, .ref w13, .ref w14, .int zb, .int 0, .int 0, .ref w15, .ref w16, .ref w17, .ref w18, .ref w19, .ref w20, .int 0, .ref w21, .ref w22, .ref w23, .ref w24, .ref w25, .ref w26, .ref w27, .ref w28, .ref w29, .ref w30, .ref w31, .ref w32, .ref w33, .ref w34, .ref w35, .ref w36, .ref w37, .int (-1), .int 0, .int 0, .int 0]))])) (post := (fun (u : Unit) => True)) hx hb hr hlocks hK hP hD hS () [0] trivial (by decide) rfl (by exact Nat.le_of_ble_eq_true rfl) (by exact Nat.le_of_ble_eq_true rfl) dX10_next0_288

set_option maxHeartbeats 4000000 in
set_option maxRecDepth 100000 in
/-- WellCourtModel.byTurns -/
theorem m_byTurns (l : Launch) (G : va_G) (cy : Nat → ClassId) (sz : Nat) (h0 : Nat) (w0 : Nat) (w1 : Nat) (w2 : Nat) (w3 : Nat) (w4 : Nat) (w5 : Nat) (w6 : Nat) (w7 : Nat) (w8 : Nat) (w9 : Nat) (w10 : Nat) (w11 : Nat) (w12 : Nat) (w13 : Nat) (w14 : Nat) (w15 : Nat) (w16 : Nat) (w17 : Nat) (w18 : Nat) (w19 : Nat) (w20 : Nat) (w21 : Nat) (w22 : Nat) (w23 : Nat) (w24 : Nat) (w25 : Nat) (w26 : Nat) (w27 : Nat) (w28 : Nat) (w29 : Nat) (w30 : Nat) (w31 : Nat) (w32 : Nat) (w33 : Nat) (w34 : Nat) (w35 : Nat) (w36 : Nat) (w37 : Nat) (x : Int32) (y : Int32) (Xx : Int) (Xy : Int) (kx : x.toInt = Xx) (ky : y.toInt = Xy)  : gMi l yX10_byTurns cX10_byTurns 7 (some .int) ({ frames := 0, cells := 0, slots := 0, locals := 0 }) G cy sz [.ref h0, .int x, .int y] [(h0, .inr (10, [.int 0, .ref w0, .ref w1, .ref w2, .ref w3, .ref w4, .ref w5, .int 0, .ref w6, .int 0, .int 0, .int 0, .int 0, .int 0, .int 0, .int 0, .int 0, .long 0, .int 0, .int 0, .ref w7, .ref w8, .ref w9, .ref w10, .ref w11, .ref w12, .ref w13, .ref w14, .int 1, .int 0, .int 0, .ref w15, .ref w16, .ref w17, .ref w18, .ref w19, .ref w20, .int 0, .ref w21, .ref w22, .ref w23, .ref w24, .ref w25, .ref w26, .ref w27, .ref w28, .ref w29, .ref w30, .ref w31, .ref w32, .ref w33, .ref w34, .ref w35, .ref w36, .ref w37, .int (-1), .int 0, .int 0, .int 0]))] (fun (r : Int32) (u : Unit) => r = (-1)) (fun (u : Unit) => [(h0, .inr (10, [.int 0, .ref w0, .ref w1, .ref w2, .ref w3, .ref w4, .ref w5, .int 0, .ref w6, .int 0, .int 0, .int 0, .int 0, .int 0, .int 0, .int 0, .int 0, .long 0, .int 0, .int 0, .ref w7, .ref w8, .ref w9, .ref w10, .ref w11, .ref w12, .ref w13, .ref w14, .int 1, .int 0, .int 0, .ref w15, .ref w16, .ref w17, .ref w18, .ref w19, .ref w20, .int 0, .ref w21, .ref w22, .ref w23, .ref w24, .ref w25, .ref w26, .ref w27, .ref w28, .ref w29, .ref w30, .ref w31, .ref w32, .ref w33, .ref w34, .ref w35, .ref w36, .ref w37, .int (-1), .int 0, .int 0, .int 0]))]) := by
  refine gz_start (fun A => gQi G cy _ _ A) (by decide) (Nat.le_of_ble_eq_true rfl) ?_
  intro p e s m below meth c A ls H hx hb hr hml hlocks hin hown hts hK hov hsz hP hD hS hA hl
  have hl : lv_has ls 7 [(0, .ref h0), (1, .int x), (2, .int y)] := hl
  refine lv_bipush (v := 24) hx hb dX10_byTurns_0 (by decide) ?_
  refine lv_aload_n hx hb dX10_byTurns_2 rfl (lv_at hl 0 rfl) ?_
  refine va_get (ci := 10) (v := .int 1) (C := RX10) (T := TX10) (N := 59) hx hb hts inX10 hown hK hP 0 rfl rfl 28 (by decide) (hts _ gm_929) (fun _ h9 => h9) rfl dX10_byTurns_3 ?_
  refine lv_imul hx hb dX10_byTurns_6 ?_
  refine lv_topi (fun x_1 ex_1 => ?_)
  obtain rfl : x_1 = (24 : Int32) := ex_1.trans (by decide)
  refine lv_istore_n (lv' := [(3, .int 24), (0, .ref h0), (1, .int x), (2, .int y)]) hx hb dX10_byTurns_7 rfl hl (by decide) rfl (fun ls hl => ?_)
  refine lv_iload_n hx hb dX10_byTurns_8 rfl (lv_at hl 0 rfl) ?_
  refine lv_bipush (v := 24) hx hb dX10_byTurns_9 (by decide) ?_
  refine lv_aload_n hx hb dX10_byTurns_11 rfl (lv_at hl 1 rfl) ?_
  refine va_get (ci := 10) (v := .int 1) (C := RX10) (T := TX10) (N := 59) hx hb hts inX10 hown hK hP 0 rfl rfl 28 (by decide) (hts _ gm_929) (fun _ h9 => h9) rfl dX10_byTurns_12 ?_
  refine lv_imul hx hb dX10_byTurns_15 ?_
  refine lv_topi (fun x_2 ex_2 => ?_)
  obtain rfl : x_2 = (24 : Int32) := ex_2.trans (by decide)
  refine lv_aload_n hx hb dX10_byTurns_16 rfl (lv_at hl 1 rfl) ?_
  refine va_get (ci := 10) (v := .int 0) (C := RX10) (T := TX10) (N := 59) hx hb hts inX10 hown hK hP 0 rfl rfl 29 (by decide) (hts _ gm_930) (fun _ h9 => h9) rfl dX10_byTurns_17 ?_
  refine lv_iadd hx hb dX10_byTurns_20 ?_
  refine lv_topi (fun x_3 ex_3 => ?_)
  obtain rfl : x_3 = (24 : Int32) := ex_3.trans (by decide)
  refine lv_icmp_ge (tgt := 165) hx hb dX10_byTurns_21 (by decide) (fun _ => ?_) (fun h9 => absurd (by decide) h9)
  refine lv_iconst (v := (-1)) hx hb dX10_byTurns_165 (by decide) ?_
  exact gz_iret (p := p) (l := l) (e := e) (s := s) (m := m) (below := below) (meth := meth) (c := c) (H := H) (cells := 0) (slots := 0) (mc := 0) (ms := 0) (cf := (fun (u : Unit) => [(h0, .inr (10, [.int 0, .ref w0, .ref w1, .ref w2, .ref w3, .ref w4, .ref w5, .int 0, .ref w6, .int 0, .int 0, .int 0, .int 0, .int 0, .int 0, .int 0, .int 0, .long 0, .int 0, .int 0, .ref w7, .ref w8, .ref w9, .ref w10, .ref w11, .ref w12, .ref w13, .ref w14, .int 1, .int 0, .int 0, .ref w15, .ref w16, .ref w17, .ref w18, .ref w19, .ref w20, .int 0, .ref w21, .ref w22, .ref w23, .ref w24, .ref w25, .ref w26, .ref w27, .ref w28, .ref w29, .ref w30, .ref w31, .ref w32, .ref w33, .ref w34, .ref w35, .ref w36, .ref w37, .int (-1), .int 0, .int 0, .int 0]))])) (post := (fun (r : Int32) (u : Unit) => r = (-1))) hx hb hr hlocks hK hP hD hS () [0] rfl rfl (by decide) rfl (by exact Nat.le_of_ble_eq_true rfl) (by exact Nat.le_of_ble_eq_true rfl) dX10_byTurns_166

set_option maxHeartbeats 4000000 in
set_option maxRecDepth 100000 in
/-- WellCourtModel.droughts -/
theorem m_droughts (l : Launch) (G : va_G) (cy : Nat → ClassId) (sz : Nat) (h0 : Nat) (w0 : Nat) (w1 : Nat) (w2 : Nat) (w3 : Nat) (w4 : Nat) (w5 : Nat) (w6 : Nat) (w7 : Nat) (w8 : Nat) (w9 : Nat) (w10 : Nat) (w11 : Nat) (w12 : Nat) (w13 : Nat) (w14 : Nat) (w15 : Nat) (w16 : Nat) (w17 : Nat) (w18 : Nat) (w19 : Nat) (w20 : Nat) (w21 : Nat) (w22 : Nat) (w23 : Nat) (w24 : Nat) (w25 : Nat) (w26 : Nat) (w27 : Nat) (w28 : Nat) (w29 : Nat) (w30 : Nat) (w31 : Nat) (w32 : Nat) (w33 : Nat) (w34 : Nat) (w35 : Nat) (w36 : Nat) (w37 : Nat) (zb : Int32) (zd : Int32)  : gMv l yX10_droughts cX10_droughts 3 ({ frames := 0, cells := 0, slots := 0, locals := 0 }) G cy sz [.ref h0] [(h0, .inr (10, [.int 0, .ref w0, .ref w1, .ref w2, .ref w3, .ref w4, .ref w5, .int zd, .ref w6, .int 0, .int 0, .int 0, .int 0, .int 0, .int 0, .int 0, .int 0, .long 0, .int 0, .int 0, .ref w7, .ref w8, .ref w9, .ref w10, .ref w11, .ref w12, .ref w13, .ref w14, .int zb, .int 0, .int 0, .ref w15, .ref w16, .ref w17, .ref w18, .ref w19, .ref w20, .int 0, .ref w21, .ref w22, .ref w23, .ref w24, .ref w25, .ref w26, .ref w27, .ref w28, .ref w29, .ref w30, .ref w31, .ref w32, .ref w33, .ref w34, .ref w35, .ref w36, .ref w37, .int (-1), .int 0, .int 0, .int 0])), (w0, .inl (cy 2, 6, .inl (fun _ => 0)))] (fun (u : Unit) => True) (fun (u : Unit) => [(h0, .inr (10, [.int 0, .ref w0, .ref w1, .ref w2, .ref w3, .ref w4, .ref w5, .int zd, .ref w6, .int 0, .int 0, .int 0, .int 0, .int 0, .int 0, .int 0, .int 0, .long 0, .int 0, .int 0, .ref w7, .ref w8, .ref w9, .ref w10, .ref w11, .ref w12, .ref w13, .ref w14, .int zb, .int 0, .int 0, .ref w15, .ref w16, .ref w17, .ref w18, .ref w19, .ref w20, .int 0, .ref w21, .ref w22, .ref w23, .ref w24, .ref w25, .ref w26, .ref w27, .ref w28, .ref w29, .ref w30, .ref w31, .ref w32, .ref w33, .ref w34, .ref w35, .ref w36, .ref w37, .int (-1), .int 0, .int 0, .int 0])), (w0, .inl (cy 2, 6, .inl (fun _ => 0)))]) := by
  refine gz_start (fun A => gQv G cy _ _ A) (by decide) (Nat.le_of_ble_eq_true rfl) ?_
  intro p e s m below meth c A ls H hx hb hr hml hlocks hin hown hts hK hov hsz hP hD hS hA hl
  have hl : lv_has ls 3 [(0, .ref h0)] := hl
  refine lv_iconst (v := 0) hx hb dX10_droughts_0 (by decide) ?_
  refine lv_istore_n (lv' := [(1, .int 0), (0, .ref h0)]) hx hb dX10_droughts_1 rfl hl (by decide) rfl (fun ls hl => ?_)
  refine lv_iload_n hx hb dX10_droughts_2 rfl (lv_at hl 0 rfl) ?_
  refine lv_bipush (v := 6) hx hb dX10_droughts_3 (by decide) ?_
  refine lv_icmp_ge (tgt := 59) hx hb dX10_droughts_5 (by decide) (fun h9 => absurd h9 (by decide)) (fun _ => ?_)
  refine lv_aload_n hx hb dX10_droughts_8 rfl (lv_at hl 1 rfl) ?_
  refine va_get (ci := 10) (v := .ref w0) (C := RX10) (T := TX10) (N := 59) hx hb hts inX10 hown hK hP 0 rfl rfl 1 (by decide) (hts _ gm_902) (fun _ h9 => h9) rfl dX10_droughts_9 ?_
  refine lv_iload_n hx hb dX10_droughts_12 rfl (lv_at hl 0 rfl) ?_
  refine va_zald hx hb hK hP 1 2 rfl rfl (vp_in_iff.mpr (by decide)) dX10_droughts_13 ?_
  refine lv_topi (fun x_1 ex_1 => ?_)
  obtain rfl : x_1 = (0 : Int32) := ex_1
  refine lv_if_eq (tgt := 31) hx hb dX10_droughts_14 (by decide) (fun _ => ?_) (fun h9 => absurd (by decide) h9)
  refine lv_iconst (v := (-1)) hx hb dX10_droughts_31 (by decide) ?_
  refine lv_istore_n (lv' := [(2, .int (-1)), (1, .int 0), (0, .ref h0)]) hx hb dX10_droughts_32 rfl hl (by decide) rfl (fun ls hl => ?_)
  refine lv_iload_n hx hb dX10_droughts_33 rfl (lv_at hl 0 rfl) ?_
  refine lv_if_lt (tgt := 53) hx hb dX10_droughts_34 (by decide) (fun _ => ?_) (fun h9 => absurd (by decide) h9)
  refine lv_iinc (v := (1)) (lv' := [(1, .int 1), (2, .int (-1)), (0, .ref h0)]) hx hb dX10_droughts_53 hl (k := 1) rfl (by decide) (by decide) rfl (fun ls hl => ?_)
  refine lv_goto (tgt := 2) hx hb dX10_droughts_56 (by decide) ?_
  refine lv_iload_n hx hb dX10_droughts_2 rfl (lv_at hl 0 rfl) ?_
  refine lv_bipush (v := 6) hx hb dX10_droughts_3 (by decide) ?_
  refine lv_icmp_ge (tgt := 59) hx hb dX10_droughts_5 (by decide) (fun h9 => absurd h9 (by decide)) (fun _ => ?_)
  refine lv_aload_n hx hb dX10_droughts_8 rfl (lv_at hl 2 rfl) ?_
  refine va_get (ci := 10) (v := .ref w0) (C := RX10) (T := TX10) (N := 59) hx hb hts inX10 hown hK hP 0 rfl rfl 1 (by decide) (hts _ gm_902) (fun _ h9 => h9) rfl dX10_droughts_9 ?_
  refine lv_iload_n hx hb dX10_droughts_12 rfl (lv_at hl 0 rfl) ?_
  refine va_zald hx hb hK hP 1 2 rfl rfl (vp_in_iff.mpr (by decide)) dX10_droughts_13 ?_
  refine lv_topi (fun x_2 ex_2 => ?_)
  obtain rfl : x_2 = (0 : Int32) := ex_2
  refine lv_if_eq (tgt := 31) hx hb dX10_droughts_14 (by decide) (fun _ => ?_) (fun h9 => absurd (by decide) h9)
  refine lv_iconst (v := (-1)) hx hb dX10_droughts_31 (by decide) ?_
  refine lv_istore_n (lv' := [(2, .int (-1)), (1, .int 1), (0, .ref h0)]) hx hb dX10_droughts_32 rfl hl (by decide) rfl (fun ls hl => ?_)
  refine lv_iload_n hx hb dX10_droughts_33 rfl (lv_at hl 0 rfl) ?_
  refine lv_if_lt (tgt := 53) hx hb dX10_droughts_34 (by decide) (fun _ => ?_) (fun h9 => absurd (by decide) h9)
  refine lv_iinc (v := (2)) (lv' := [(1, .int 2), (2, .int (-1)), (0, .ref h0)]) hx hb dX10_droughts_53 hl (k := 1) rfl (by decide) (by decide) rfl (fun ls hl => ?_)
  refine lv_goto (tgt := 2) hx hb dX10_droughts_56 (by decide) ?_
  refine lv_iload_n hx hb dX10_droughts_2 rfl (lv_at hl 0 rfl) ?_
  refine lv_bipush (v := 6) hx hb dX10_droughts_3 (by decide) ?_
  refine lv_icmp_ge (tgt := 59) hx hb dX10_droughts_5 (by decide) (fun h9 => absurd h9 (by decide)) (fun _ => ?_)
  refine lv_aload_n hx hb dX10_droughts_8 rfl (lv_at hl 2 rfl) ?_
  refine va_get (ci := 10) (v := .ref w0) (C := RX10) (T := TX10) (N := 59) hx hb hts inX10 hown hK hP 0 rfl rfl 1 (by decide) (hts _ gm_902) (fun _ h9 => h9) rfl dX10_droughts_9 ?_
  refine lv_iload_n hx hb dX10_droughts_12 rfl (lv_at hl 0 rfl) ?_
  refine va_zald hx hb hK hP 1 2 rfl rfl (vp_in_iff.mpr (by decide)) dX10_droughts_13 ?_
  refine lv_topi (fun x_3 ex_3 => ?_)
  obtain rfl : x_3 = (0 : Int32) := ex_3
  refine lv_if_eq (tgt := 31) hx hb dX10_droughts_14 (by decide) (fun _ => ?_) (fun h9 => absurd (by decide) h9)
  refine lv_iconst (v := (-1)) hx hb dX10_droughts_31 (by decide) ?_
  refine lv_istore_n (lv' := [(2, .int (-1)), (1, .int 2), (0, .ref h0)]) hx hb dX10_droughts_32 rfl hl (by decide) rfl (fun ls hl => ?_)
  refine lv_iload_n hx hb dX10_droughts_33 rfl (lv_at hl 0 rfl) ?_
  refine lv_if_lt (tgt := 53) hx hb dX10_droughts_34 (by decide) (fun _ => ?_) (fun h9 => absurd (by decide) h9)
  refine lv_iinc (v := (3)) (lv' := [(1, .int 3), (2, .int (-1)), (0, .ref h0)]) hx hb dX10_droughts_53 hl (k := 1) rfl (by decide) (by decide) rfl (fun ls hl => ?_)
  refine lv_goto (tgt := 2) hx hb dX10_droughts_56 (by decide) ?_
  refine lv_iload_n hx hb dX10_droughts_2 rfl (lv_at hl 0 rfl) ?_
  refine lv_bipush (v := 6) hx hb dX10_droughts_3 (by decide) ?_
  refine lv_icmp_ge (tgt := 59) hx hb dX10_droughts_5 (by decide) (fun h9 => absurd h9 (by decide)) (fun _ => ?_)
  refine lv_aload_n hx hb dX10_droughts_8 rfl (lv_at hl 2 rfl) ?_
  refine va_get (ci := 10) (v := .ref w0) (C := RX10) (T := TX10) (N := 59) hx hb hts inX10 hown hK hP 0 rfl rfl 1 (by decide) (hts _ gm_902) (fun _ h9 => h9) rfl dX10_droughts_9 ?_
  refine lv_iload_n hx hb dX10_droughts_12 rfl (lv_at hl 0 rfl) ?_
  refine va_zald hx hb hK hP 1 2 rfl rfl (vp_in_iff.mpr (by decide)) dX10_droughts_13 ?_
  refine lv_topi (fun x_4 ex_4 => ?_)
  obtain rfl : x_4 = (0 : Int32) := ex_4
  refine lv_if_eq (tgt := 31) hx hb dX10_droughts_14 (by decide) (fun _ => ?_) (fun h9 => absurd (by decide) h9)
  refine lv_iconst (v := (-1)) hx hb dX10_droughts_31 (by decide) ?_
  refine lv_istore_n (lv' := [(2, .int (-1)), (1, .int 3), (0, .ref h0)]) hx hb dX10_droughts_32 rfl hl (by decide) rfl (fun ls hl => ?_)
  refine lv_iload_n hx hb dX10_droughts_33 rfl (lv_at hl 0 rfl) ?_
  refine lv_if_lt (tgt := 53) hx hb dX10_droughts_34 (by decide) (fun _ => ?_) (fun h9 => absurd (by decide) h9)
  refine lv_iinc (v := (4)) (lv' := [(1, .int 4), (2, .int (-1)), (0, .ref h0)]) hx hb dX10_droughts_53 hl (k := 1) rfl (by decide) (by decide) rfl (fun ls hl => ?_)
  refine lv_goto (tgt := 2) hx hb dX10_droughts_56 (by decide) ?_
  refine lv_iload_n hx hb dX10_droughts_2 rfl (lv_at hl 0 rfl) ?_
  refine lv_bipush (v := 6) hx hb dX10_droughts_3 (by decide) ?_
  refine lv_icmp_ge (tgt := 59) hx hb dX10_droughts_5 (by decide) (fun h9 => absurd h9 (by decide)) (fun _ => ?_)
  refine lv_aload_n hx hb dX10_droughts_8 rfl (lv_at hl 2 rfl) ?_
  refine va_get (ci := 10) (v := .ref w0) (C := RX10) (T := TX10) (N := 59) hx hb hts inX10 hown hK hP 0 rfl rfl 1 (by decide) (hts _ gm_902) (fun _ h9 => h9) rfl dX10_droughts_9 ?_
  refine lv_iload_n hx hb dX10_droughts_12 rfl (lv_at hl 0 rfl) ?_
  refine va_zald hx hb hK hP 1 2 rfl rfl (vp_in_iff.mpr (by decide)) dX10_droughts_13 ?_
  refine lv_topi (fun x_5 ex_5 => ?_)
  obtain rfl : x_5 = (0 : Int32) := ex_5
  refine lv_if_eq (tgt := 31) hx hb dX10_droughts_14 (by decide) (fun _ => ?_) (fun h9 => absurd (by decide) h9)
  refine lv_iconst (v := (-1)) hx hb dX10_droughts_31 (by decide) ?_
  refine lv_istore_n (lv' := [(2, .int (-1)), (1, .int 4), (0, .ref h0)]) hx hb dX10_droughts_32 rfl hl (by decide) rfl (fun ls hl => ?_)
  refine lv_iload_n hx hb dX10_droughts_33 rfl (lv_at hl 0 rfl) ?_
  refine lv_if_lt (tgt := 53) hx hb dX10_droughts_34 (by decide) (fun _ => ?_) (fun h9 => absurd (by decide) h9)
  refine lv_iinc (v := (5)) (lv' := [(1, .int 5), (2, .int (-1)), (0, .ref h0)]) hx hb dX10_droughts_53 hl (k := 1) rfl (by decide) (by decide) rfl (fun ls hl => ?_)
  refine lv_goto (tgt := 2) hx hb dX10_droughts_56 (by decide) ?_
  refine lv_iload_n hx hb dX10_droughts_2 rfl (lv_at hl 0 rfl) ?_
  refine lv_bipush (v := 6) hx hb dX10_droughts_3 (by decide) ?_
  refine lv_icmp_ge (tgt := 59) hx hb dX10_droughts_5 (by decide) (fun h9 => absurd h9 (by decide)) (fun _ => ?_)
  refine lv_aload_n hx hb dX10_droughts_8 rfl (lv_at hl 2 rfl) ?_
  refine va_get (ci := 10) (v := .ref w0) (C := RX10) (T := TX10) (N := 59) hx hb hts inX10 hown hK hP 0 rfl rfl 1 (by decide) (hts _ gm_902) (fun _ h9 => h9) rfl dX10_droughts_9 ?_
  refine lv_iload_n hx hb dX10_droughts_12 rfl (lv_at hl 0 rfl) ?_
  refine va_zald hx hb hK hP 1 2 rfl rfl (vp_in_iff.mpr (by decide)) dX10_droughts_13 ?_
  refine lv_topi (fun x_6 ex_6 => ?_)
  obtain rfl : x_6 = (0 : Int32) := ex_6
  refine lv_if_eq (tgt := 31) hx hb dX10_droughts_14 (by decide) (fun _ => ?_) (fun h9 => absurd (by decide) h9)
  refine lv_iconst (v := (-1)) hx hb dX10_droughts_31 (by decide) ?_
  refine lv_istore_n (lv' := [(2, .int (-1)), (1, .int 5), (0, .ref h0)]) hx hb dX10_droughts_32 rfl hl (by decide) rfl (fun ls hl => ?_)
  refine lv_iload_n hx hb dX10_droughts_33 rfl (lv_at hl 0 rfl) ?_
  refine lv_if_lt (tgt := 53) hx hb dX10_droughts_34 (by decide) (fun _ => ?_) (fun h9 => absurd (by decide) h9)
  refine lv_iinc (v := (6)) (lv' := [(1, .int 6), (2, .int (-1)), (0, .ref h0)]) hx hb dX10_droughts_53 hl (k := 1) rfl (by decide) (by decide) rfl (fun ls hl => ?_)
  refine lv_goto (tgt := 2) hx hb dX10_droughts_56 (by decide) ?_
  refine lv_iload_n hx hb dX10_droughts_2 rfl (lv_at hl 0 rfl) ?_
  refine lv_bipush (v := 6) hx hb dX10_droughts_3 (by decide) ?_
  refine lv_icmp_ge (tgt := 59) hx hb dX10_droughts_5 (by decide) (fun _ => ?_) (fun h9 => absurd (by decide) h9)
  exact gz_vret (p := p) (l := l) (e := e) (s := s) (m := m) (below := below) (meth := meth) (c := c) (H := H) (cells := 0) (slots := 0) (mc := 0) (ms := 0) (cf := (fun (u : Unit) => [(h0, .inr (10, [.int 0, .ref w0, .ref w1, .ref w2, .ref w3, .ref w4, .ref w5, .int zd, .ref w6, .int 0, .int 0, .int 0, .int 0, .int 0, .int 0, .int 0, .int 0, .long 0, .int 0, .int 0, .ref w7, .ref w8, .ref w9, .ref w10, .ref w11, .ref w12, .ref w13, .ref w14, .int zb, .int 0, .int 0, .ref w15, .ref w16, .ref w17, .ref w18, .ref w19, .ref w20, .int 0, .ref w21, .ref w22, .ref w23, .ref w24, .ref w25, .ref w26, .ref w27, .ref w28, .ref w29, .ref w30, .ref w31, .ref w32, .ref w33, .ref w34, .ref w35, .ref w36, .ref w37, .int (-1), .int 0, .int 0, .int 0])), (w0, .inl (cy 2, 6, .inl (fun _ => 0)))])) (post := (fun (u : Unit) => True)) hx hb hr hlocks hK hP hD hS () [0, 1] trivial (by decide) rfl (by exact Nat.le_of_ble_eq_true rfl) (by exact Nat.le_of_ble_eq_true rfl) dX10_droughts_59

set_option maxHeartbeats 4000000 in
set_option maxRecDepth 100000 in
/-- WellCourtModel.rights -/
theorem m_rights (l : Launch) (G : va_G) (cy : Nat → ClassId) (sz : Nat) (h0 : Nat) (w0 : Nat) (w1 : Nat) (w2 : Nat) (w3 : Nat) (w4 : Nat) (w5 : Nat) (w6 : Nat) (w7 : Nat) (w8 : Nat) (w9 : Nat) (w10 : Nat) (w11 : Nat) (w12 : Nat) (w13 : Nat) (w14 : Nat) (w15 : Nat) (w16 : Nat) (w17 : Nat) (w18 : Nat) (w19 : Nat) (w20 : Nat) (w21 : Nat) (w22 : Nat) (w23 : Nat) (w24 : Nat) (w25 : Nat) (w26 : Nat) (w27 : Nat) (w28 : Nat) (w29 : Nat) (w30 : Nat) (w31 : Nat) (w32 : Nat) (w33 : Nat) (w34 : Nat) (w35 : Nat) (w36 : Nat) (w37 : Nat)   : gMi l yX10_rights cX10_rights 5 (some .int) ({ frames := 2, cells := 0, slots := 0, locals := 44 }) G cy sz [.ref h0] [(h0, .inr (10, [.int 0, .ref w0, .ref w1, .ref w2, .ref w3, .ref w4, .ref w5, .int 0, .ref w6, .int 0, .int 0, .int 0, .int 0, .int 0, .int 0, .int 0, .int 0, .long 0, .int 0, .int 0, .ref w7, .ref w8, .ref w9, .ref w10, .ref w11, .ref w12, .ref w13, .ref w14, .int 0, .int 0, .int 0, .ref w15, .ref w16, .ref w17, .ref w18, .ref w19, .ref w20, .int 0, .ref w21, .ref w22, .ref w23, .ref w24, .ref w25, .ref w26, .ref w27, .ref w28, .ref w29, .ref w30, .ref w31, .ref w32, .ref w33, .ref w34, .ref w35, .ref w36, .ref w37, .int (-1), .int 0, .int 0, .int 0])), (w0, .inl (cy 2, 6, .inl (fun _ => 0))), (w5, .inl (cy 0, 1200, .inl (fun _ => (-1))))] (fun (r : Int32) (u : Unit) => r = 0) (fun (u : Unit) => []) := by
  refine gz_start (fun A => gQi G cy _ _ A) (by decide) (Nat.le_of_ble_eq_true rfl) ?_
  intro p e s m below meth c A ls H hx hb hr hml hlocks hin hown hts hK hov hsz hP hD hS hA hl
  have hl : lv_has ls 5 [(0, .ref h0)] := hl
  generalize hQe : MQ below _ _ s _ _ A = Q
  refine lv_aload_n hx hb dX10_rights_0 rfl (lv_at hl 0 rfl) ?_
  refine lv_iconst (v := 0) hx hb dX10_rights_1 (by decide) ?_
  refine va_put (ci := 10) (v := .int 0) (ty := .int) (C := RX10) (T := TX10) (N := 59) hx hb hts inX10 tyX10 tyX10_ok nmX10 hown hK hP hD hS 0 rfl rfl 0 (by decide) (hts _ gm_901) (fun _ h9 => h9) rfl (by decide +kernel) rfl rfl (Nat.le_of_ble_eq_true rfl) dX10_rights_2 (fun H locs hP hD hS => ?_)
  have hP : va_P G vwCl [(h0, .inr (10, [.int 0, .ref w0, .ref w1, .ref w2, .ref w3, .ref w4, .ref w5, .int 0, .ref w6, .int 0, .int 0, .int 0, .int 0, .int 0, .int 0, .int 0, .int 0, .long 0, .int 0, .int 0, .ref w7, .ref w8, .ref w9, .ref w10, .ref w11, .ref w12, .ref w13, .ref w14, .int 0, .int 0, .int 0, .ref w15, .ref w16, .ref w17, .ref w18, .ref w19, .ref w20, .int 0, .ref w21, .ref w22, .ref w23, .ref w24, .ref w25, .ref w26, .ref w27, .ref w28, .ref w29, .ref w30, .ref w31, .ref w32, .ref w33, .ref w34, .ref w35, .ref w36, .ref w37, .int (-1), .int 0, .int 0, .int 0])), (w0, .inl (cy 2, 6, .inl (fun _ => 0))), (w5, .inl (cy 0, 1200, .inl (fun _ => (-1))))] H := hP
  have hD : va_D A [(h0, .inr (10, [.int 0, .ref w0, .ref w1, .ref w2, .ref w3, .ref w4, .ref w5, .int 0, .ref w6, .int 0, .int 0, .int 0, .int 0, .int 0, .int 0, .int 0, .int 0, .long 0, .int 0, .int 0, .ref w7, .ref w8, .ref w9, .ref w10, .ref w11, .ref w12, .ref w13, .ref w14, .int 0, .int 0, .int 0, .ref w15, .ref w16, .ref w17, .ref w18, .ref w19, .ref w20, .int 0, .ref w21, .ref w22, .ref w23, .ref w24, .ref w25, .ref w26, .ref w27, .ref w28, .ref w29, .ref w30, .ref w31, .ref w32, .ref w33, .ref w34, .ref w35, .ref w36, .ref w37, .int (-1), .int 0, .int 0, .int 0])), (w0, .inl (cy 2, 6, .inl (fun _ => 0))), (w5, .inl (cy 0, 1200, .inl (fun _ => (-1))))] := hD
  refine lv_aload_n hx hb dX10_rights_5 rfl (lv_at hl 0 rfl) ?_
  refine lv_aload_n hx hb dX10_rights_6 rfl (lv_at hl 0 rfl) ?_
  refine va_get (ci := 10) (v := .int 0) (C := RX10) (T := TX10) (N := 59) hx hb hts inX10 hown hK hP 0 rfl rfl 9 (by decide) (hts _ gm_910) (fun _ h9 => h9) rfl dX10_rights_7 ?_
  refine va_put (ci := 10) (v := .int 0) (ty := .int) (C := RX10) (T := TX10) (N := 59) hx hb hts inX10 tyX10 tyX10_ok nmX10 hown hK hP hD hS 0 rfl rfl 10 (by decide) (hts _ gm_911) (fun _ h9 => h9) rfl (by decide +kernel) rfl rfl (Nat.le_of_ble_eq_true rfl) dX10_rights_10 (fun H locs hP hD hS => ?_)
  have hP : va_P G vwCl [(h0, .inr (10, [.int 0, .ref w0, .ref w1, .ref w2, .ref w3, .ref w4, .ref w5, .int 0, .ref w6, .int 0, .int 0, .int 0, .int 0, .int 0, .int 0, .int 0, .int 0, .long 0, .int 0, .int 0, .ref w7, .ref w8, .ref w9, .ref w10, .ref w11, .ref w12, .ref w13, .ref w14, .int 0, .int 0, .int 0, .ref w15, .ref w16, .ref w17, .ref w18, .ref w19, .ref w20, .int 0, .ref w21, .ref w22, .ref w23, .ref w24, .ref w25, .ref w26, .ref w27, .ref w28, .ref w29, .ref w30, .ref w31, .ref w32, .ref w33, .ref w34, .ref w35, .ref w36, .ref w37, .int (-1), .int 0, .int 0, .int 0])), (w0, .inl (cy 2, 6, .inl (fun _ => 0))), (w5, .inl (cy 0, 1200, .inl (fun _ => (-1))))] H := hP
  have hD : va_D A [(h0, .inr (10, [.int 0, .ref w0, .ref w1, .ref w2, .ref w3, .ref w4, .ref w5, .int 0, .ref w6, .int 0, .int 0, .int 0, .int 0, .int 0, .int 0, .int 0, .int 0, .long 0, .int 0, .int 0, .ref w7, .ref w8, .ref w9, .ref w10, .ref w11, .ref w12, .ref w13, .ref w14, .int 0, .int 0, .int 0, .ref w15, .ref w16, .ref w17, .ref w18, .ref w19, .ref w20, .int 0, .ref w21, .ref w22, .ref w23, .ref w24, .ref w25, .ref w26, .ref w27, .ref w28, .ref w29, .ref w30, .ref w31, .ref w32, .ref w33, .ref w34, .ref w35, .ref w36, .ref w37, .int (-1), .int 0, .int 0, .int 0])), (w0, .inl (cy 2, 6, .inl (fun _ => 0))), (w5, .inl (cy 0, 1200, .inl (fun _ => (-1))))] := hD
  refine lv_aload_n hx hb dX10_rights_13 rfl (lv_at hl 0 rfl) ?_
  refine lv_iconst (v := 0) hx hb dX10_rights_14 (by decide) ?_
  refine va_put (ci := 10) (v := .int 0) (ty := .int) (C := RX10) (T := TX10) (N := 59) hx hb hts inX10 tyX10 tyX10_ok nmX10 hown hK hP hD hS 0 rfl rfl 9 (by decide) (hts _ gm_910) (fun _ h9 => h9) rfl (by decide +kernel) rfl rfl (Nat.le_of_ble_eq_true rfl) dX10_rights_15 (fun H locs hP hD hS => ?_)
  have hP : va_P G vwCl [(h0, .inr (10, [.int 0, .ref w0, .ref w1, .ref w2, .ref w3, .ref w4, .ref w5, .int 0, .ref w6, .int 0, .int 0, .int 0, .int 0, .int 0, .int 0, .int 0, .int 0, .long 0, .int 0, .int 0, .ref w7, .ref w8, .ref w9, .ref w10, .ref w11, .ref w12, .ref w13, .ref w14, .int 0, .int 0, .int 0, .ref w15, .ref w16, .ref w17, .ref w18, .ref w19, .ref w20, .int 0, .ref w21, .ref w22, .ref w23, .ref w24, .ref w25, .ref w26, .ref w27, .ref w28, .ref w29, .ref w30, .ref w31, .ref w32, .ref w33, .ref w34, .ref w35, .ref w36, .ref w37, .int (-1), .int 0, .int 0, .int 0])), (w0, .inl (cy 2, 6, .inl (fun _ => 0))), (w5, .inl (cy 0, 1200, .inl (fun _ => (-1))))] H := hP
  have hD : va_D A [(h0, .inr (10, [.int 0, .ref w0, .ref w1, .ref w2, .ref w3, .ref w4, .ref w5, .int 0, .ref w6, .int 0, .int 0, .int 0, .int 0, .int 0, .int 0, .int 0, .int 0, .long 0, .int 0, .int 0, .ref w7, .ref w8, .ref w9, .ref w10, .ref w11, .ref w12, .ref w13, .ref w14, .int 0, .int 0, .int 0, .ref w15, .ref w16, .ref w17, .ref w18, .ref w19, .ref w20, .int 0, .ref w21, .ref w22, .ref w23, .ref w24, .ref w25, .ref w26, .ref w27, .ref w28, .ref w29, .ref w30, .ref w31, .ref w32, .ref w33, .ref w34, .ref w35, .ref w36, .ref w37, .int (-1), .int 0, .int 0, .int 0])), (w0, .inl (cy 2, 6, .inl (fun _ => 0))), (w5, .inl (cy 0, 1200, .inl (fun _ => (-1))))] := hD
  refine lv_aload_n hx hb dX10_rights_18 rfl (lv_at hl 0 rfl) ?_
  refine lv_iconst (v := 0) hx hb dX10_rights_19 (by decide) ?_
  refine va_put (ci := 10) (v := .int 0) (ty := .int) (C := RX10) (T := TX10) (N := 59) hx hb hts inX10 tyX10 tyX10_ok nmX10 hown hK hP hD hS 0 rfl rfl 11 (by decide) (hts _ gm_912) (fun _ h9 => h9) rfl (by decide +kernel) rfl rfl (Nat.le_of_ble_eq_true rfl) dX10_rights_20 (fun H locs hP hD hS => ?_)
  have hP : va_P G vwCl [(h0, .inr (10, [.int 0, .ref w0, .ref w1, .ref w2, .ref w3, .ref w4, .ref w5, .int 0, .ref w6, .int 0, .int 0, .int 0, .int 0, .int 0, .int 0, .int 0, .int 0, .long 0, .int 0, .int 0, .ref w7, .ref w8, .ref w9, .ref w10, .ref w11, .ref w12, .ref w13, .ref w14, .int 0, .int 0, .int 0, .ref w15, .ref w16, .ref w17, .ref w18, .ref w19, .ref w20, .int 0, .ref w21, .ref w22, .ref w23, .ref w24, .ref w25, .ref w26, .ref w27, .ref w28, .ref w29, .ref w30, .ref w31, .ref w32, .ref w33, .ref w34, .ref w35, .ref w36, .ref w37, .int (-1), .int 0, .int 0, .int 0])), (w0, .inl (cy 2, 6, .inl (fun _ => 0))), (w5, .inl (cy 0, 1200, .inl (fun _ => (-1))))] H := hP
  have hD : va_D A [(h0, .inr (10, [.int 0, .ref w0, .ref w1, .ref w2, .ref w3, .ref w4, .ref w5, .int 0, .ref w6, .int 0, .int 0, .int 0, .int 0, .int 0, .int 0, .int 0, .int 0, .long 0, .int 0, .int 0, .ref w7, .ref w8, .ref w9, .ref w10, .ref w11, .ref w12, .ref w13, .ref w14, .int 0, .int 0, .int 0, .ref w15, .ref w16, .ref w17, .ref w18, .ref w19, .ref w20, .int 0, .ref w21, .ref w22, .ref w23, .ref w24, .ref w25, .ref w26, .ref w27, .ref w28, .ref w29, .ref w30, .ref w31, .ref w32, .ref w33, .ref w34, .ref w35, .ref w36, .ref w37, .int (-1), .int 0, .int 0, .int 0])), (w0, .inl (cy 2, 6, .inl (fun _ => 0))), (w5, .inl (cy 0, 1200, .inl (fun _ => (-1))))] := hD
  refine lv_aload_n hx hb dX10_rights_23 rfl (lv_at hl 0 rfl) ?_
  refine lv_iconst (v := 0) hx hb dX10_rights_24 (by decide) ?_
  refine va_put (ci := 10) (v := .int 0) (ty := .int) (C := RX10) (T := TX10) (N := 59) hx hb hts inX10 tyX10 tyX10_ok nmX10 hown hK hP hD hS 0 rfl rfl 15 (by decide) (hts _ gm_916) (fun _ h9 => h9) rfl (by decide +kernel) rfl rfl (Nat.le_of_ble_eq_true rfl) dX10_rights_25 (fun H locs hP hD hS => ?_)
  have hP : va_P G vwCl [(h0, .inr (10, [.int 0, .ref w0, .ref w1, .ref w2, .ref w3, .ref w4, .ref w5, .int 0, .ref w6, .int 0, .int 0, .int 0, .int 0, .int 0, .int 0, .int 0, .int 0, .long 0, .int 0, .int 0, .ref w7, .ref w8, .ref w9, .ref w10, .ref w11, .ref w12, .ref w13, .ref w14, .int 0, .int 0, .int 0, .ref w15, .ref w16, .ref w17, .ref w18, .ref w19, .ref w20, .int 0, .ref w21, .ref w22, .ref w23, .ref w24, .ref w25, .ref w26, .ref w27, .ref w28, .ref w29, .ref w30, .ref w31, .ref w32, .ref w33, .ref w34, .ref w35, .ref w36, .ref w37, .int (-1), .int 0, .int 0, .int 0])), (w0, .inl (cy 2, 6, .inl (fun _ => 0))), (w5, .inl (cy 0, 1200, .inl (fun _ => (-1))))] H := hP
  have hD : va_D A [(h0, .inr (10, [.int 0, .ref w0, .ref w1, .ref w2, .ref w3, .ref w4, .ref w5, .int 0, .ref w6, .int 0, .int 0, .int 0, .int 0, .int 0, .int 0, .int 0, .int 0, .long 0, .int 0, .int 0, .ref w7, .ref w8, .ref w9, .ref w10, .ref w11, .ref w12, .ref w13, .ref w14, .int 0, .int 0, .int 0, .ref w15, .ref w16, .ref w17, .ref w18, .ref w19, .ref w20, .int 0, .ref w21, .ref w22, .ref w23, .ref w24, .ref w25, .ref w26, .ref w27, .ref w28, .ref w29, .ref w30, .ref w31, .ref w32, .ref w33, .ref w34, .ref w35, .ref w36, .ref w37, .int (-1), .int 0, .int 0, .int 0])), (w0, .inl (cy 2, 6, .inl (fun _ => 0))), (w5, .inl (cy 0, 1200, .inl (fun _ => (-1))))] := hD
  refine lv_aload_n hx hb dX10_rights_28 rfl (lv_at hl 0 rfl) ?_
  refine va_get (ci := 10) (v := .int 0) (C := RX10) (T := TX10) (N := 59) hx hb hts inX10 hown hK hP 0 rfl rfl 28 (by decide) (hts _ gm_929) (fun _ h9 => h9) rfl dX10_rights_29 ?_
  refine lv_istore_n (lv' := [(1, .int 0), (0, .ref h0)]) hx hb dX10_rights_32 rfl hl (by decide) rfl (fun ls hl => ?_)
  refine lv_aload_n hx hb dX10_rights_33 rfl (lv_at hl 1 rfl) ?_
  refine lv_iconst (v := 1) hx hb dX10_rights_34 (by decide) ?_
  refine lv_aload_n hx hb dX10_rights_35 rfl (lv_at hl 1 rfl) ?_
  refine va_get (ci := 10) (v := .int 0) (C := RX10) (T := TX10) (N := 59) hx hb hts inX10 hown hK hP 0 rfl rfl 28 (by decide) (hts _ gm_929) (fun _ h9 => h9) rfl dX10_rights_36 ?_
  refine lv_isub hx hb dX10_rights_39 ?_
  refine lv_topi (fun x_1 ex_1 => ?_)
  obtain rfl : x_1 = (1 : Int32) := ex_1.trans (by decide)
  refine va_put (ci := 10) (v := .int 1) (ty := .int) (C := RX10) (T := TX10) (N := 59) hx hb hts inX10 tyX10 tyX10_ok nmX10 hown hK hP hD hS 0 rfl rfl 28 (by decide) (hts _ gm_929) (fun _ h9 => h9) rfl (by decide +kernel) rfl rfl (Nat.le_of_ble_eq_true rfl) dX10_rights_40 (fun H locs hP hD hS => ?_)
  have hP : va_P G vwCl [(h0, .inr (10, [.int 0, .ref w0, .ref w1, .ref w2, .ref w3, .ref w4, .ref w5, .int 0, .ref w6, .int 0, .int 0, .int 0, .int 0, .int 0, .int 0, .int 0, .int 0, .long 0, .int 0, .int 0, .ref w7, .ref w8, .ref w9, .ref w10, .ref w11, .ref w12, .ref w13, .ref w14, .int 1, .int 0, .int 0, .ref w15, .ref w16, .ref w17, .ref w18, .ref w19, .ref w20, .int 0, .ref w21, .ref w22, .ref w23, .ref w24, .ref w25, .ref w26, .ref w27, .ref w28, .ref w29, .ref w30, .ref w31, .ref w32, .ref w33, .ref w34, .ref w35, .ref w36, .ref w37, .int (-1), .int 0, .int 0, .int 0])), (w0, .inl (cy 2, 6, .inl (fun _ => 0))), (w5, .inl (cy 0, 1200, .inl (fun _ => (-1))))] H := hP
  have hD : va_D A [(h0, .inr (10, [.int 0, .ref w0, .ref w1, .ref w2, .ref w3, .ref w4, .ref w5, .int 0, .ref w6, .int 0, .int 0, .int 0, .int 0, .int 0, .int 0, .int 0, .int 0, .long 0, .int 0, .int 0, .ref w7, .ref w8, .ref w9, .ref w10, .ref w11, .ref w12, .ref w13, .ref w14, .int 1, .int 0, .int 0, .ref w15, .ref w16, .ref w17, .ref w18, .ref w19, .ref w20, .int 0, .ref w21, .ref w22, .ref w23, .ref w24, .ref w25, .ref w26, .ref w27, .ref w28, .ref w29, .ref w30, .ref w31, .ref w32, .ref w33, .ref w34, .ref w35, .ref w36, .ref w37, .int (-1), .int 0, .int 0, .int 0])), (w0, .inl (cy 2, 6, .inl (fun _ => 0))), (w5, .inl (cy 0, 1200, .inl (fun _ => (-1))))] := hD
  refine lv_aload_n hx hb dX10_rights_43 rfl (lv_at hl 1 rfl) ?_
  refine lv_iconst (v := 0) hx hb dX10_rights_44 (by decide) ?_
  refine va_put (ci := 10) (v := .int 0) (ty := .int) (C := RX10) (T := TX10) (N := 59) hx hb hts inX10 tyX10 tyX10_ok nmX10 hown hK hP hD hS 0 rfl rfl 30 (by decide) (hts _ gm_931) (fun _ h9 => h9) rfl (by decide +kernel) rfl rfl (Nat.le_of_ble_eq_true rfl) dX10_rights_45 (fun H locs hP hD hS => ?_)
  have hP : va_P G vwCl [(h0, .inr (10, [.int 0, .ref w0, .ref w1, .ref w2, .ref w3, .ref w4, .ref w5, .int 0, .ref w6, .int 0, .int 0, .int 0, .int 0, .int 0, .int 0, .int 0, .int 0, .long 0, .int 0, .int 0, .ref w7, .ref w8, .ref w9, .ref w10, .ref w11, .ref w12, .ref w13, .ref w14, .int 1, .int 0, .int 0, .ref w15, .ref w16, .ref w17, .ref w18, .ref w19, .ref w20, .int 0, .ref w21, .ref w22, .ref w23, .ref w24, .ref w25, .ref w26, .ref w27, .ref w28, .ref w29, .ref w30, .ref w31, .ref w32, .ref w33, .ref w34, .ref w35, .ref w36, .ref w37, .int (-1), .int 0, .int 0, .int 0])), (w0, .inl (cy 2, 6, .inl (fun _ => 0))), (w5, .inl (cy 0, 1200, .inl (fun _ => (-1))))] H := hP
  have hD : va_D A [(h0, .inr (10, [.int 0, .ref w0, .ref w1, .ref w2, .ref w3, .ref w4, .ref w5, .int 0, .ref w6, .int 0, .int 0, .int 0, .int 0, .int 0, .int 0, .int 0, .int 0, .long 0, .int 0, .int 0, .ref w7, .ref w8, .ref w9, .ref w10, .ref w11, .ref w12, .ref w13, .ref w14, .int 1, .int 0, .int 0, .ref w15, .ref w16, .ref w17, .ref w18, .ref w19, .ref w20, .int 0, .ref w21, .ref w22, .ref w23, .ref w24, .ref w25, .ref w26, .ref w27, .ref w28, .ref w29, .ref w30, .ref w31, .ref w32, .ref w33, .ref w34, .ref w35, .ref w36, .ref w37, .int (-1), .int 0, .int 0, .int 0])), (w0, .inl (cy 2, 6, .inl (fun _ => 0))), (w5, .inl (cy 0, 1200, .inl (fun _ => (-1))))] := hD
  refine lv_aload_n hx hb dX10_rights_48 rfl (lv_at hl 1 rfl) ?_
  refine gz_aftv (va_runV (As := []) (rest := []) ⟨hx, hb, hml, hown, hts⟩ (m_next0 l G cy H.size h0 w0 w1 w2 w3 w4 w5 w6 w7 w8 w9 w10 w11 w12 w13 w14 w15 w16 w17 w18 w19 w20 w21 w22 w23 w24 w25 w26 w27 w28 w29 w30 w31 w32 w33 w34 w35 w36 w37 1 ) ⟨(gz_cb (n := 0) hts gm_1100 gm_12 gm_1103 ⟨by decide +kernel, by decide +kernel, by decide +kernel⟩ ⟨Nat.le_of_ble_eq_true rfl, Nat.le_of_ble_eq_true rfl⟩), hts _ gm_1102, hts _ gs_32⟩ (gz_preV (ci := 10) (q0 := 0) hK hov hP hD [0] (by decide) rfl rfl rfl) rfl rfl hl.1 rfl (lv_room (Nat.le_of_ble_eq_true rfl)) dX10_rights_49 ⟨Nat.le_of_ble_eq_true rfl, Nat.le_of_ble_eq_true rfl⟩) hP hD hS hA [0] [1, 2] rfl rfl (by decide) (by decide) (fun u_2 H locs hw_2 hP hD hS => ?_)
  have hP : va_P G vwCl [(w0, .inl (cy 2, 6, .inl (fun _ => 0))), (w5, .inl (cy 0, 1200, .inl (fun _ => (-1)))), (h0, .inr (10, [.int 0, .ref w0, .ref w1, .ref w2, .ref w3, .ref w4, .ref w5, .int 0, .ref w6, .int 0, .int 0, .int 0, .int 0, .int 0, .int 0, .int 0, .int 0, .long 0, .int 0, .int 0, .ref w7, .ref w8, .ref w9, .ref w10, .ref w11, .ref w12, .ref w13, .ref w14, .int 1, .int 0, .int 0, .ref w15, .ref w16, .ref w17, .ref w18, .ref w19, .ref w20, .int 0, .ref w21, .ref w22, .ref w23, .ref w24, .ref w25, .ref w26, .ref w27, .ref w28, .ref w29, .ref w30, .ref w31, .ref w32, .ref w33, .ref w34, .ref w35, .ref w36, .ref w37, .int (-1), .int 0, .int 0, .int 0]))] H := hP
  have hD : va_D A [(w0, .inl (cy 2, 6, .inl (fun _ => 0))), (w5, .inl (cy 0, 1200, .inl (fun _ => (-1)))), (h0, .inr (10, [.int 0, .ref w0, .ref w1, .ref w2, .ref w3, .ref w4, .ref w5, .int 0, .ref w6, .int 0, .int 0, .int 0, .int 0, .int 0, .int 0, .int 0, .int 0, .long 0, .int 0, .int 0, .ref w7, .ref w8, .ref w9, .ref w10, .ref w11, .ref w12, .ref w13, .ref w14, .int 1, .int 0, .int 0, .ref w15, .ref w16, .ref w17, .ref w18, .ref w19, .ref w20, .int 0, .ref w21, .ref w22, .ref w23, .ref w24, .ref w25, .ref w26, .ref w27, .ref w28, .ref w29, .ref w30, .ref w31, .ref w32, .ref w33, .ref w34, .ref w35, .ref w36, .ref w37, .int (-1), .int 0, .int 0, .int 0]))] := hD
  refine lv_iconst (v := 1) hx hb dX10_rights_52 (by decide) ?_
  refine lv_istore_n (lv' := [(2, .int 1), (1, .int 0), (0, .ref h0)]) hx hb dX10_rights_53 rfl hl (by decide) rfl (fun ls hl => ?_)
  refine lv_iload_n hx hb dX10_rights_54 rfl (lv_at hl 0 rfl) ?_
  refine lv_if_eq (tgt := 73) hx hb dX10_rights_55 (by decide) (fun h9 => absurd h9 (by decide)) (fun _ => ?_)
  refine lv_aload_n hx hb dX10_rights_58 rfl (lv_at hl 2 rfl) ?_
  refine va_get (ci := 10) (v := .int 0) (C := RX10) (T := TX10) (N := 59) hx hb hts inX10 hown hK hP 2 rfl rfl 12 (by decide) (hts _ gm_913) (fun _ h9 => h9) rfl dX10_rights_59 ?_
  refine lv_if_eq (tgt := 73) hx hb dX10_rights_62 (by decide) (fun _ => ?_) (fun h9 => absurd (by decide) h9)
  refine lv_iload_n hx hb dX10_rights_73 rfl (lv_at hl 0 rfl) ?_
  refine lv_if_ne (tgt := 89) hx hb dX10_rights_74 (by decide) (fun _ => ?_) (fun h9 => absurd h9 (by decide))
  refine lv_aload_n hx hb dX10_rights_89 rfl (lv_at hl 2 rfl) ?_
  refine lv_aload_n hx hb dX10_rights_90 rfl (lv_at hl 2 rfl) ?_
  refine va_get (ci := 10) (v := .int 0) (C := RX10) (T := TX10) (N := 59) hx hb hts inX10 hown hK hP 2 rfl rfl 30 (by decide) (hts _ gm_931) (fun _ h9 => h9) rfl dX10_rights_91 ?_
  refine va_put (ci := 10) (v := .int 0) (ty := .int) (C := RX10) (T := TX10) (N := 59) hx hb hts inX10 tyX10 tyX10_ok nmX10 hown hK hP hD hS 2 rfl rfl 29 (by decide) (hts _ gm_930) (fun _ h9 => h9) rfl (by decide +kernel) rfl rfl (Nat.le_of_ble_eq_true rfl) dX10_rights_94 (fun H locs hP hD hS => ?_)
  have hP : va_P G vwCl [(w0, .inl (cy 2, 6, .inl (fun _ => 0))), (w5, .inl (cy 0, 1200, .inl (fun _ => (-1)))), (h0, .inr (10, [.int 0, .ref w0, .ref w1, .ref w2, .ref w3, .ref w4, .ref w5, .int 0, .ref w6, .int 0, .int 0, .int 0, .int 0, .int 0, .int 0, .int 0, .int 0, .long 0, .int 0, .int 0, .ref w7, .ref w8, .ref w9, .ref w10, .ref w11, .ref w12, .ref w13, .ref w14, .int 1, .int 0, .int 0, .ref w15, .ref w16, .ref w17, .ref w18, .ref w19, .ref w20, .int 0, .ref w21, .ref w22, .ref w23, .ref w24, .ref w25, .ref w26, .ref w27, .ref w28, .ref w29, .ref w30, .ref w31, .ref w32, .ref w33, .ref w34, .ref w35, .ref w36, .ref w37, .int (-1), .int 0, .int 0, .int 0]))] H := hP
  have hD : va_D A [(w0, .inl (cy 2, 6, .inl (fun _ => 0))), (w5, .inl (cy 0, 1200, .inl (fun _ => (-1)))), (h0, .inr (10, [.int 0, .ref w0, .ref w1, .ref w2, .ref w3, .ref w4, .ref w5, .int 0, .ref w6, .int 0, .int 0, .int 0, .int 0, .int 0, .int 0, .int 0, .int 0, .long 0, .int 0, .int 0, .ref w7, .ref w8, .ref w9, .ref w10, .ref w11, .ref w12, .ref w13, .ref w14, .int 1, .int 0, .int 0, .ref w15, .ref w16, .ref w17, .ref w18, .ref w19, .ref w20, .int 0, .ref w21, .ref w22, .ref w23, .ref w24, .ref w25, .ref w26, .ref w27, .ref w28, .ref w29, .ref w30, .ref w31, .ref w32, .ref w33, .ref w34, .ref w35, .ref w36, .ref w37, .int (-1), .int 0, .int 0, .int 0]))] := hD
  refine lv_iconst (v := 0) hx hb dX10_rights_97 (by decide) ?_
  refine lv_istore_n (lv' := [(3, .int 0), (2, .int 1), (1, .int 0), (0, .ref h0)]) hx hb dX10_rights_98 rfl hl (by decide) rfl (fun ls hl => ?_)
  refine lv_iload_n hx hb dX10_rights_99 rfl (lv_at hl 0 rfl) ?_
  refine lv_bipush (v := 6) hx hb dX10_rights_100 (by decide) ?_
  refine lv_icmp_ge (tgt := 151) hx hb dX10_rights_102 (by decide) (fun h9 => absurd h9 (by decide)) (fun _ => ?_)
  refine lv_aload_n hx hb dX10_rights_105 rfl (lv_at hl 3 rfl) ?_
  refine va_get (ci := 10) (v := .int 0) (C := RX10) (T := TX10) (N := 59) hx hb hts inX10 hown hK hP 2 rfl rfl 7 (by decide) (hts _ gm_908) (fun _ h9 => h9) rfl dX10_rights_106 ?_
  refine lv_istore (lv' := [(4, .int 0), (3, .int 0), (2, .int 1), (1, .int 0), (0, .ref h0)]) hx hb dX10_rights_109 hl (by decide) rfl (fun ls hl => ?_)
  have lp_3 : ∀ (n_3 i_3 : Nat), i_3 + n_3 = 200 → ∀ (g_3_0 : Nat → Int32) (H : Heap) (locs : List Loc) (ls : Array Slot), (∀ j, j < 1200 → g_3_0 j = (-1)) → va_P G vwCl [(w0, .inl (cy 2, 6, .inl (fun _ => 0))), (w5, .inl (cy 0, 1200, .inl g_3_0)), (h0, .inr (10, [.int 0, .ref w0, .ref w1, .ref w2, .ref w3, .ref w4, .ref w5, .int 0, .ref w6, .int 0, .int 0, .int 0, .int 0, .int 0, .int 0, .int 0, .int 0, .long 0, .int 0, .int 0, .ref w7, .ref w8, .ref w9, .ref w10, .ref w11, .ref w12, .ref w13, .ref w14, .int 1, .int 0, .int 0, .ref w15, .ref w16, .ref w17, .ref w18, .ref w19, .ref w20, .int 0, .ref w21, .ref w22, .ref w23, .ref w24, .ref w25, .ref w26, .ref w27, .ref w28, .ref w29, .ref w30, .ref w31, .ref w32, .ref w33, .ref w34, .ref w35, .ref w36, .ref w37, .int (-1), .int 0, .int 0, .int 0]))] H → va_D A [(w0, .inl (cy 2, 6, .inl (fun _ => 0))), (w5, .inl (cy 0, 1200, .inl g_3_0)), (h0, .inr (10, [.int 0, .ref w0, .ref w1, .ref w2, .ref w3, .ref w4, .ref w5, .int 0, .ref w6, .int 0, .int 0, .int 0, .int 0, .int 0, .int 0, .int 0, .int 0, .long 0, .int 0, .int 0, .ref w7, .ref w8, .ref w9, .ref w10, .ref w11, .ref w12, .ref w13, .ref w14, .int 1, .int 0, .int 0, .ref w15, .ref w16, .ref w17, .ref w18, .ref w19, .ref w20, .int 0, .ref w21, .ref w22, .ref w23, .ref w24, .ref w25, .ref w26, .ref w27, .ref w28, .ref w29, .ref w30, .ref w31, .ref w32, .ref w33, .ref w34, .ref w35, .ref w36, .ref w37, .int (-1), .int 0, .int 0, .int 0]))] → va_S A s.heap H locs → lv_has ls 5 [(4, .int (nI i_3)), (3, .int 0), (2, .int 1), (1, .int 0), (0, .ref h0)] → W p l e ({ frames := 2, cells := 0, slots := 0, locals := 44 } : Room) s m [.ref h0].toArray below meth c H locs 0 0 Q (F0 m 111 ls []) := by
    intro n_3
    induction n_3 with
    | zero =>
      intro i_3 hi_3 g_3_0 H locs ls hg_3_0 hP hD hS hl
      obtain rfl : i_3 = 200 := by omega
      have hP := gz_arr (k := 1) (g := (fun _ => (-1))) hg_3_0 hP rfl
      have hD := va_D.set (p := 1) (e := .inl (cy 0, 1200, .inl (fun _ => (-1)))) hD rfl
      have hP : va_P G vwCl [(w0, .inl (cy 2, 6, .inl (fun _ => 0))), (w5, .inl (cy 0, 1200, .inl (fun _ => (-1)))), (h0, .inr (10, [.int 0, .ref w0, .ref w1, .ref w2, .ref w3, .ref w4, .ref w5, .int 0, .ref w6, .int 0, .int 0, .int 0, .int 0, .int 0, .int 0, .int 0, .int 0, .long 0, .int 0, .int 0, .ref w7, .ref w8, .ref w9, .ref w10, .ref w11, .ref w12, .ref w13, .ref w14, .int 1, .int 0, .int 0, .ref w15, .ref w16, .ref w17, .ref w18, .ref w19, .ref w20, .int 0, .ref w21, .ref w22, .ref w23, .ref w24, .ref w25, .ref w26, .ref w27, .ref w28, .ref w29, .ref w30, .ref w31, .ref w32, .ref w33, .ref w34, .ref w35, .ref w36, .ref w37, .int (-1), .int 0, .int 0, .int 0]))] H := hP
      have hD : va_D A [(w0, .inl (cy 2, 6, .inl (fun _ => 0))), (w5, .inl (cy 0, 1200, .inl (fun _ => (-1)))), (h0, .inr (10, [.int 0, .ref w0, .ref w1, .ref w2, .ref w3, .ref w4, .ref w5, .int 0, .ref w6, .int 0, .int 0, .int 0, .int 0, .int 0, .int 0, .int 0, .int 0, .long 0, .int 0, .int 0, .ref w7, .ref w8, .ref w9, .ref w10, .ref w11, .ref w12, .ref w13, .ref w14, .int 1, .int 0, .int 0, .ref w15, .ref w16, .ref w17, .ref w18, .ref w19, .ref w20, .int 0, .ref w21, .ref w22, .ref w23, .ref w24, .ref w25, .ref w26, .ref w27, .ref w28, .ref w29, .ref w30, .ref w31, .ref w32, .ref w33, .ref w34, .ref w35, .ref w36, .ref w37, .int (-1), .int 0, .int 0, .int 0]))] := hD
      refine lv_iload hx hb dX10_rights_111 (lv_at hl 0 rfl) ?_
      refine lv_sipush (v := 199) hx hb dX10_rights_113 (by decide) ?_
      refine lv_icmp_gt (tgt := 145) hx hb dX10_rights_116 (by decide) (fun _ => ?_) (fun h9 => absurd (by decide) h9)
      refine lv_iinc (v := (1)) (lv' := [(3, .int 1), (4, .int (nI 200)), (2, .int 1), (1, .int 0), (0, .ref h0)]) hx hb dX10_rights_145 hl (k := 1) rfl (by decide) (by decide) rfl (fun ls hl => ?_)
      refine lv_goto (tgt := 99) hx hb dX10_rights_148 (by decide) ?_
      refine lv_iload_n hx hb dX10_rights_99 rfl (lv_at hl 0 rfl) ?_
      refine lv_bipush (v := 6) hx hb dX10_rights_100 (by decide) ?_
      refine lv_icmp_ge (tgt := 151) hx hb dX10_rights_102 (by decide) (fun h9 => absurd h9 (by decide)) (fun _ => ?_)
      refine lv_aload_n hx hb dX10_rights_105 rfl (lv_at hl 4 rfl) ?_
      refine va_get (ci := 10) (v := .int 0) (C := RX10) (T := TX10) (N := 59) hx hb hts inX10 hown hK hP 2 rfl rfl 7 (by decide) (hts _ gm_908) (fun _ h9 => h9) rfl dX10_rights_106 ?_
      refine lv_istore (lv' := [(4, .int 0), (3, .int 1), (2, .int 1), (1, .int 0), (0, .ref h0)]) hx hb dX10_rights_109 hl (by decide) rfl (fun ls hl => ?_)
      have lp_4 : ∀ (n_4 i_4 : Nat), i_4 + n_4 = 200 → ∀ (g_4_0 : Nat → Int32) (H : Heap) (locs : List Loc) (ls : Array Slot), (∀ j, j < 1200 → g_4_0 j = (-1)) → va_P G vwCl [(w0, .inl (cy 2, 6, .inl (fun _ => 0))), (w5, .inl (cy 0, 1200, .inl g_4_0)), (h0, .inr (10, [.int 0, .ref w0, .ref w1, .ref w2, .ref w3, .ref w4, .ref w5, .int 0, .ref w6, .int 0, .int 0, .int 0, .int 0, .int 0, .int 0, .int 0, .int 0, .long 0, .int 0, .int 0, .ref w7, .ref w8, .ref w9, .ref w10, .ref w11, .ref w12, .ref w13, .ref w14, .int 1, .int 0, .int 0, .ref w15, .ref w16, .ref w17, .ref w18, .ref w19, .ref w20, .int 0, .ref w21, .ref w22, .ref w23, .ref w24, .ref w25, .ref w26, .ref w27, .ref w28, .ref w29, .ref w30, .ref w31, .ref w32, .ref w33, .ref w34, .ref w35, .ref w36, .ref w37, .int (-1), .int 0, .int 0, .int 0]))] H → va_D A [(w0, .inl (cy 2, 6, .inl (fun _ => 0))), (w5, .inl (cy 0, 1200, .inl g_4_0)), (h0, .inr (10, [.int 0, .ref w0, .ref w1, .ref w2, .ref w3, .ref w4, .ref w5, .int 0, .ref w6, .int 0, .int 0, .int 0, .int 0, .int 0, .int 0, .int 0, .int 0, .long 0, .int 0, .int 0, .ref w7, .ref w8, .ref w9, .ref w10, .ref w11, .ref w12, .ref w13, .ref w14, .int 1, .int 0, .int 0, .ref w15, .ref w16, .ref w17, .ref w18, .ref w19, .ref w20, .int 0, .ref w21, .ref w22, .ref w23, .ref w24, .ref w25, .ref w26, .ref w27, .ref w28, .ref w29, .ref w30, .ref w31, .ref w32, .ref w33, .ref w34, .ref w35, .ref w36, .ref w37, .int (-1), .int 0, .int 0, .int 0]))] → va_S A s.heap H locs → lv_has ls 5 [(4, .int (nI i_4)), (3, .int 1), (2, .int 1), (1, .int 0), (0, .ref h0)] → W p l e ({ frames := 2, cells := 0, slots := 0, locals := 44 } : Room) s m [.ref h0].toArray below meth c H locs 0 0 Q (F0 m 111 ls []) := by
        intro n_4
        induction n_4 with
        | zero =>
          intro i_4 hi_4 g_4_0 H locs ls hg_4_0 hP hD hS hl
          obtain rfl : i_4 = 200 := by omega
          have hP := gz_arr (k := 1) (g := (fun _ => (-1))) hg_4_0 hP rfl
          have hD := va_D.set (p := 1) (e := .inl (cy 0, 1200, .inl (fun _ => (-1)))) hD rfl
          have hP : va_P G vwCl [(w0, .inl (cy 2, 6, .inl (fun _ => 0))), (w5, .inl (cy 0, 1200, .inl (fun _ => (-1)))), (h0, .inr (10, [.int 0, .ref w0, .ref w1, .ref w2, .ref w3, .ref w4, .ref w5, .int 0, .ref w6, .int 0, .int 0, .int 0, .int 0, .int 0, .int 0, .int 0, .int 0, .long 0, .int 0, .int 0, .ref w7, .ref w8, .ref w9, .ref w10, .ref w11, .ref w12, .ref w13, .ref w14, .int 1, .int 0, .int 0, .ref w15, .ref w16, .ref w17, .ref w18, .ref w19, .ref w20, .int 0, .ref w21, .ref w22, .ref w23, .ref w24, .ref w25, .ref w26, .ref w27, .ref w28, .ref w29, .ref w30, .ref w31, .ref w32, .ref w33, .ref w34, .ref w35, .ref w36, .ref w37, .int (-1), .int 0, .int 0, .int 0]))] H := hP
          have hD : va_D A [(w0, .inl (cy 2, 6, .inl (fun _ => 0))), (w5, .inl (cy 0, 1200, .inl (fun _ => (-1)))), (h0, .inr (10, [.int 0, .ref w0, .ref w1, .ref w2, .ref w3, .ref w4, .ref w5, .int 0, .ref w6, .int 0, .int 0, .int 0, .int 0, .int 0, .int 0, .int 0, .int 0, .long 0, .int 0, .int 0, .ref w7, .ref w8, .ref w9, .ref w10, .ref w11, .ref w12, .ref w13, .ref w14, .int 1, .int 0, .int 0, .ref w15, .ref w16, .ref w17, .ref w18, .ref w19, .ref w20, .int 0, .ref w21, .ref w22, .ref w23, .ref w24, .ref w25, .ref w26, .ref w27, .ref w28, .ref w29, .ref w30, .ref w31, .ref w32, .ref w33, .ref w34, .ref w35, .ref w36, .ref w37, .int (-1), .int 0, .int 0, .int 0]))] := hD
          refine lv_iload hx hb dX10_rights_111 (lv_at hl 0 rfl) ?_
          refine lv_sipush (v := 199) hx hb dX10_rights_113 (by decide) ?_
          refine lv_icmp_gt (tgt := 145) hx hb dX10_rights_116 (by decide) (fun _ => ?_) (fun h9 => absurd (by decide) h9)
          refine lv_iinc (v := (2)) (lv' := [(3, .int 2), (4, .int (nI 200)), (2, .int 1), (1, .int 0), (0, .ref h0)]) hx hb dX10_rights_145 hl (k := 1) rfl (by decide) (by decide) rfl (fun ls hl => ?_)
          refine lv_goto (tgt := 99) hx hb dX10_rights_148 (by decide) ?_
          refine lv_iload_n hx hb dX10_rights_99 rfl (lv_at hl 0 rfl) ?_
          refine lv_bipush (v := 6) hx hb dX10_rights_100 (by decide) ?_
          refine lv_icmp_ge (tgt := 151) hx hb dX10_rights_102 (by decide) (fun h9 => absurd h9 (by decide)) (fun _ => ?_)
          refine lv_aload_n hx hb dX10_rights_105 rfl (lv_at hl 4 rfl) ?_
          refine va_get (ci := 10) (v := .int 0) (C := RX10) (T := TX10) (N := 59) hx hb hts inX10 hown hK hP 2 rfl rfl 7 (by decide) (hts _ gm_908) (fun _ h9 => h9) rfl dX10_rights_106 ?_
          refine lv_istore (lv' := [(4, .int 0), (3, .int 2), (2, .int 1), (1, .int 0), (0, .ref h0)]) hx hb dX10_rights_109 hl (by decide) rfl (fun ls hl => ?_)
          have lp_5 : ∀ (n_5 i_5 : Nat), i_5 + n_5 = 200 → ∀ (g_5_0 : Nat → Int32) (H : Heap) (locs : List Loc) (ls : Array Slot), (∀ j, j < 1200 → g_5_0 j = (-1)) → va_P G vwCl [(w0, .inl (cy 2, 6, .inl (fun _ => 0))), (w5, .inl (cy 0, 1200, .inl g_5_0)), (h0, .inr (10, [.int 0, .ref w0, .ref w1, .ref w2, .ref w3, .ref w4, .ref w5, .int 0, .ref w6, .int 0, .int 0, .int 0, .int 0, .int 0, .int 0, .int 0, .int 0, .long 0, .int 0, .int 0, .ref w7, .ref w8, .ref w9, .ref w10, .ref w11, .ref w12, .ref w13, .ref w14, .int 1, .int 0, .int 0, .ref w15, .ref w16, .ref w17, .ref w18, .ref w19, .ref w20, .int 0, .ref w21, .ref w22, .ref w23, .ref w24, .ref w25, .ref w26, .ref w27, .ref w28, .ref w29, .ref w30, .ref w31, .ref w32, .ref w33, .ref w34, .ref w35, .ref w36, .ref w37, .int (-1), .int 0, .int 0, .int 0]))] H → va_D A [(w0, .inl (cy 2, 6, .inl (fun _ => 0))), (w5, .inl (cy 0, 1200, .inl g_5_0)), (h0, .inr (10, [.int 0, .ref w0, .ref w1, .ref w2, .ref w3, .ref w4, .ref w5, .int 0, .ref w6, .int 0, .int 0, .int 0, .int 0, .int 0, .int 0, .int 0, .int 0, .long 0, .int 0, .int 0, .ref w7, .ref w8, .ref w9, .ref w10, .ref w11, .ref w12, .ref w13, .ref w14, .int 1, .int 0, .int 0, .ref w15, .ref w16, .ref w17, .ref w18, .ref w19, .ref w20, .int 0, .ref w21, .ref w22, .ref w23, .ref w24, .ref w25, .ref w26, .ref w27, .ref w28, .ref w29, .ref w30, .ref w31, .ref w32, .ref w33, .ref w34, .ref w35, .ref w36, .ref w37, .int (-1), .int 0, .int 0, .int 0]))] → va_S A s.heap H locs → lv_has ls 5 [(4, .int (nI i_5)), (3, .int 2), (2, .int 1), (1, .int 0), (0, .ref h0)] → W p l e ({ frames := 2, cells := 0, slots := 0, locals := 44 } : Room) s m [.ref h0].toArray below meth c H locs 0 0 Q (F0 m 111 ls []) := by
            intro n_5
            induction n_5 with
            | zero =>
              intro i_5 hi_5 g_5_0 H locs ls hg_5_0 hP hD hS hl
              obtain rfl : i_5 = 200 := by omega
              have hP := gz_arr (k := 1) (g := (fun _ => (-1))) hg_5_0 hP rfl
              have hD := va_D.set (p := 1) (e := .inl (cy 0, 1200, .inl (fun _ => (-1)))) hD rfl
              have hP : va_P G vwCl [(w0, .inl (cy 2, 6, .inl (fun _ => 0))), (w5, .inl (cy 0, 1200, .inl (fun _ => (-1)))), (h0, .inr (10, [.int 0, .ref w0, .ref w1, .ref w2, .ref w3, .ref w4, .ref w5, .int 0, .ref w6, .int 0, .int 0, .int 0, .int 0, .int 0, .int 0, .int 0, .int 0, .long 0, .int 0, .int 0, .ref w7, .ref w8, .ref w9, .ref w10, .ref w11, .ref w12, .ref w13, .ref w14, .int 1, .int 0, .int 0, .ref w15, .ref w16, .ref w17, .ref w18, .ref w19, .ref w20, .int 0, .ref w21, .ref w22, .ref w23, .ref w24, .ref w25, .ref w26, .ref w27, .ref w28, .ref w29, .ref w30, .ref w31, .ref w32, .ref w33, .ref w34, .ref w35, .ref w36, .ref w37, .int (-1), .int 0, .int 0, .int 0]))] H := hP
              have hD : va_D A [(w0, .inl (cy 2, 6, .inl (fun _ => 0))), (w5, .inl (cy 0, 1200, .inl (fun _ => (-1)))), (h0, .inr (10, [.int 0, .ref w0, .ref w1, .ref w2, .ref w3, .ref w4, .ref w5, .int 0, .ref w6, .int 0, .int 0, .int 0, .int 0, .int 0, .int 0, .int 0, .int 0, .long 0, .int 0, .int 0, .ref w7, .ref w8, .ref w9, .ref w10, .ref w11, .ref w12, .ref w13, .ref w14, .int 1, .int 0, .int 0, .ref w15, .ref w16, .ref w17, .ref w18, .ref w19, .ref w20, .int 0, .ref w21, .ref w22, .ref w23, .ref w24, .ref w25, .ref w26, .ref w27, .ref w28, .ref w29, .ref w30, .ref w31, .ref w32, .ref w33, .ref w34, .ref w35, .ref w36, .ref w37, .int (-1), .int 0, .int 0, .int 0]))] := hD
              refine lv_iload hx hb dX10_rights_111 (lv_at hl 0 rfl) ?_
              refine lv_sipush (v := 199) hx hb dX10_rights_113 (by decide) ?_
              refine lv_icmp_gt (tgt := 145) hx hb dX10_rights_116 (by decide) (fun _ => ?_) (fun h9 => absurd (by decide) h9)
              refine lv_iinc (v := (3)) (lv' := [(3, .int 3), (4, .int (nI 200)), (2, .int 1), (1, .int 0), (0, .ref h0)]) hx hb dX10_rights_145 hl (k := 1) rfl (by decide) (by decide) rfl (fun ls hl => ?_)
              refine lv_goto (tgt := 99) hx hb dX10_rights_148 (by decide) ?_
              refine lv_iload_n hx hb dX10_rights_99 rfl (lv_at hl 0 rfl) ?_
              refine lv_bipush (v := 6) hx hb dX10_rights_100 (by decide) ?_
              refine lv_icmp_ge (tgt := 151) hx hb dX10_rights_102 (by decide) (fun h9 => absurd h9 (by decide)) (fun _ => ?_)
              refine lv_aload_n hx hb dX10_rights_105 rfl (lv_at hl 4 rfl) ?_
              refine va_get (ci := 10) (v := .int 0) (C := RX10) (T := TX10) (N := 59) hx hb hts inX10 hown hK hP 2 rfl rfl 7 (by decide) (hts _ gm_908) (fun _ h9 => h9) rfl dX10_rights_106 ?_
              refine lv_istore (lv' := [(4, .int 0), (3, .int 3), (2, .int 1), (1, .int 0), (0, .ref h0)]) hx hb dX10_rights_109 hl (by decide) rfl (fun ls hl => ?_)
              have lp_6 : ∀ (n_6 i_6 : Nat), i_6 + n_6 = 200 → ∀ (g_6_0 : Nat → Int32) (H : Heap) (locs : List Loc) (ls : Array Slot), (∀ j, j < 1200 → g_6_0 j = (-1)) → va_P G vwCl [(w0, .inl (cy 2, 6, .inl (fun _ => 0))), (w5, .inl (cy 0, 1200, .inl g_6_0)), (h0, .inr (10, [.int 0, .ref w0, .ref w1, .ref w2, .ref w3, .ref w4, .ref w5, .int 0, .ref w6, .int 0, .int 0, .int 0, .int 0, .int 0, .int 0, .int 0, .int 0, .long 0, .int 0, .int 0, .ref w7, .ref w8, .ref w9, .ref w10, .ref w11, .ref w12, .ref w13, .ref w14, .int 1, .int 0, .int 0, .ref w15, .ref w16, .ref w17, .ref w18, .ref w19, .ref w20, .int 0, .ref w21, .ref w22, .ref w23, .ref w24, .ref w25, .ref w26, .ref w27, .ref w28, .ref w29, .ref w30, .ref w31, .ref w32, .ref w33, .ref w34, .ref w35, .ref w36, .ref w37, .int (-1), .int 0, .int 0, .int 0]))] H → va_D A [(w0, .inl (cy 2, 6, .inl (fun _ => 0))), (w5, .inl (cy 0, 1200, .inl g_6_0)), (h0, .inr (10, [.int 0, .ref w0, .ref w1, .ref w2, .ref w3, .ref w4, .ref w5, .int 0, .ref w6, .int 0, .int 0, .int 0, .int 0, .int 0, .int 0, .int 0, .int 0, .long 0, .int 0, .int 0, .ref w7, .ref w8, .ref w9, .ref w10, .ref w11, .ref w12, .ref w13, .ref w14, .int 1, .int 0, .int 0, .ref w15, .ref w16, .ref w17, .ref w18, .ref w19, .ref w20, .int 0, .ref w21, .ref w22, .ref w23, .ref w24, .ref w25, .ref w26, .ref w27, .ref w28, .ref w29, .ref w30, .ref w31, .ref w32, .ref w33, .ref w34, .ref w35, .ref w36, .ref w37, .int (-1), .int 0, .int 0, .int 0]))] → va_S A s.heap H locs → lv_has ls 5 [(4, .int (nI i_6)), (3, .int 3), (2, .int 1), (1, .int 0), (0, .ref h0)] → W p l e ({ frames := 2, cells := 0, slots := 0, locals := 44 } : Room) s m [.ref h0].toArray below meth c H locs 0 0 Q (F0 m 111 ls []) := by
                intro n_6
                induction n_6 with
                | zero =>
                  intro i_6 hi_6 g_6_0 H locs ls hg_6_0 hP hD hS hl
                  obtain rfl : i_6 = 200 := by omega
                  have hP := gz_arr (k := 1) (g := (fun _ => (-1))) hg_6_0 hP rfl
                  have hD := va_D.set (p := 1) (e := .inl (cy 0, 1200, .inl (fun _ => (-1)))) hD rfl
                  have hP : va_P G vwCl [(w0, .inl (cy 2, 6, .inl (fun _ => 0))), (w5, .inl (cy 0, 1200, .inl (fun _ => (-1)))), (h0, .inr (10, [.int 0, .ref w0, .ref w1, .ref w2, .ref w3, .ref w4, .ref w5, .int 0, .ref w6, .int 0, .int 0, .int 0, .int 0, .int 0, .int 0, .int 0, .int 0, .long 0, .int 0, .int 0, .ref w7, .ref w8, .ref w9, .ref w10, .ref w11, .ref w12, .ref w13, .ref w14, .int 1, .int 0, .int 0, .ref w15, .ref w16, .ref w17, .ref w18, .ref w19, .ref w20, .int 0, .ref w21, .ref w22, .ref w23, .ref w24, .ref w25, .ref w26, .ref w27, .ref w28, .ref w29, .ref w30, .ref w31, .ref w32, .ref w33, .ref w34, .ref w35, .ref w36, .ref w37, .int (-1), .int 0, .int 0, .int 0]))] H := hP
                  have hD : va_D A [(w0, .inl (cy 2, 6, .inl (fun _ => 0))), (w5, .inl (cy 0, 1200, .inl (fun _ => (-1)))), (h0, .inr (10, [.int 0, .ref w0, .ref w1, .ref w2, .ref w3, .ref w4, .ref w5, .int 0, .ref w6, .int 0, .int 0, .int 0, .int 0, .int 0, .int 0, .int 0, .int 0, .long 0, .int 0, .int 0, .ref w7, .ref w8, .ref w9, .ref w10, .ref w11, .ref w12, .ref w13, .ref w14, .int 1, .int 0, .int 0, .ref w15, .ref w16, .ref w17, .ref w18, .ref w19, .ref w20, .int 0, .ref w21, .ref w22, .ref w23, .ref w24, .ref w25, .ref w26, .ref w27, .ref w28, .ref w29, .ref w30, .ref w31, .ref w32, .ref w33, .ref w34, .ref w35, .ref w36, .ref w37, .int (-1), .int 0, .int 0, .int 0]))] := hD
                  refine lv_iload hx hb dX10_rights_111 (lv_at hl 0 rfl) ?_
                  refine lv_sipush (v := 199) hx hb dX10_rights_113 (by decide) ?_
                  refine lv_icmp_gt (tgt := 145) hx hb dX10_rights_116 (by decide) (fun _ => ?_) (fun h9 => absurd (by decide) h9)
                  refine lv_iinc (v := (4)) (lv' := [(3, .int 4), (4, .int (nI 200)), (2, .int 1), (1, .int 0), (0, .ref h0)]) hx hb dX10_rights_145 hl (k := 1) rfl (by decide) (by decide) rfl (fun ls hl => ?_)
                  refine lv_goto (tgt := 99) hx hb dX10_rights_148 (by decide) ?_
                  refine lv_iload_n hx hb dX10_rights_99 rfl (lv_at hl 0 rfl) ?_
                  refine lv_bipush (v := 6) hx hb dX10_rights_100 (by decide) ?_
                  refine lv_icmp_ge (tgt := 151) hx hb dX10_rights_102 (by decide) (fun h9 => absurd h9 (by decide)) (fun _ => ?_)
                  refine lv_aload_n hx hb dX10_rights_105 rfl (lv_at hl 4 rfl) ?_
                  refine va_get (ci := 10) (v := .int 0) (C := RX10) (T := TX10) (N := 59) hx hb hts inX10 hown hK hP 2 rfl rfl 7 (by decide) (hts _ gm_908) (fun _ h9 => h9) rfl dX10_rights_106 ?_
                  refine lv_istore (lv' := [(4, .int 0), (3, .int 4), (2, .int 1), (1, .int 0), (0, .ref h0)]) hx hb dX10_rights_109 hl (by decide) rfl (fun ls hl => ?_)
                  have lp_7 : ∀ (n_7 i_7 : Nat), i_7 + n_7 = 200 → ∀ (g_7_0 : Nat → Int32) (H : Heap) (locs : List Loc) (ls : Array Slot), (∀ j, j < 1200 → g_7_0 j = (-1)) → va_P G vwCl [(w0, .inl (cy 2, 6, .inl (fun _ => 0))), (w5, .inl (cy 0, 1200, .inl g_7_0)), (h0, .inr (10, [.int 0, .ref w0, .ref w1, .ref w2, .ref w3, .ref w4, .ref w5, .int 0, .ref w6, .int 0, .int 0, .int 0, .int 0, .int 0, .int 0, .int 0, .int 0, .long 0, .int 0, .int 0, .ref w7, .ref w8, .ref w9, .ref w10, .ref w11, .ref w12, .ref w13, .ref w14, .int 1, .int 0, .int 0, .ref w15, .ref w16, .ref w17, .ref w18, .ref w19, .ref w20, .int 0, .ref w21, .ref w22, .ref w23, .ref w24, .ref w25, .ref w26, .ref w27, .ref w28, .ref w29, .ref w30, .ref w31, .ref w32, .ref w33, .ref w34, .ref w35, .ref w36, .ref w37, .int (-1), .int 0, .int 0, .int 0]))] H → va_D A [(w0, .inl (cy 2, 6, .inl (fun _ => 0))), (w5, .inl (cy 0, 1200, .inl g_7_0)), (h0, .inr (10, [.int 0, .ref w0, .ref w1, .ref w2, .ref w3, .ref w4, .ref w5, .int 0, .ref w6, .int 0, .int 0, .int 0, .int 0, .int 0, .int 0, .int 0, .int 0, .long 0, .int 0, .int 0, .ref w7, .ref w8, .ref w9, .ref w10, .ref w11, .ref w12, .ref w13, .ref w14, .int 1, .int 0, .int 0, .ref w15, .ref w16, .ref w17, .ref w18, .ref w19, .ref w20, .int 0, .ref w21, .ref w22, .ref w23, .ref w24, .ref w25, .ref w26, .ref w27, .ref w28, .ref w29, .ref w30, .ref w31, .ref w32, .ref w33, .ref w34, .ref w35, .ref w36, .ref w37, .int (-1), .int 0, .int 0, .int 0]))] → va_S A s.heap H locs → lv_has ls 5 [(4, .int (nI i_7)), (3, .int 4), (2, .int 1), (1, .int 0), (0, .ref h0)] → W p l e ({ frames := 2, cells := 0, slots := 0, locals := 44 } : Room) s m [.ref h0].toArray below meth c H locs 0 0 Q (F0 m 111 ls []) := by
                    intro n_7
                    induction n_7 with
                    | zero =>
                      intro i_7 hi_7 g_7_0 H locs ls hg_7_0 hP hD hS hl
                      obtain rfl : i_7 = 200 := by omega
                      have hP := gz_arr (k := 1) (g := (fun _ => (-1))) hg_7_0 hP rfl
                      have hD := va_D.set (p := 1) (e := .inl (cy 0, 1200, .inl (fun _ => (-1)))) hD rfl
                      have hP : va_P G vwCl [(w0, .inl (cy 2, 6, .inl (fun _ => 0))), (w5, .inl (cy 0, 1200, .inl (fun _ => (-1)))), (h0, .inr (10, [.int 0, .ref w0, .ref w1, .ref w2, .ref w3, .ref w4, .ref w5, .int 0, .ref w6, .int 0, .int 0, .int 0, .int 0, .int 0, .int 0, .int 0, .int 0, .long 0, .int 0, .int 0, .ref w7, .ref w8, .ref w9, .ref w10, .ref w11, .ref w12, .ref w13, .ref w14, .int 1, .int 0, .int 0, .ref w15, .ref w16, .ref w17, .ref w18, .ref w19, .ref w20, .int 0, .ref w21, .ref w22, .ref w23, .ref w24, .ref w25, .ref w26, .ref w27, .ref w28, .ref w29, .ref w30, .ref w31, .ref w32, .ref w33, .ref w34, .ref w35, .ref w36, .ref w37, .int (-1), .int 0, .int 0, .int 0]))] H := hP
                      have hD : va_D A [(w0, .inl (cy 2, 6, .inl (fun _ => 0))), (w5, .inl (cy 0, 1200, .inl (fun _ => (-1)))), (h0, .inr (10, [.int 0, .ref w0, .ref w1, .ref w2, .ref w3, .ref w4, .ref w5, .int 0, .ref w6, .int 0, .int 0, .int 0, .int 0, .int 0, .int 0, .int 0, .int 0, .long 0, .int 0, .int 0, .ref w7, .ref w8, .ref w9, .ref w10, .ref w11, .ref w12, .ref w13, .ref w14, .int 1, .int 0, .int 0, .ref w15, .ref w16, .ref w17, .ref w18, .ref w19, .ref w20, .int 0, .ref w21, .ref w22, .ref w23, .ref w24, .ref w25, .ref w26, .ref w27, .ref w28, .ref w29, .ref w30, .ref w31, .ref w32, .ref w33, .ref w34, .ref w35, .ref w36, .ref w37, .int (-1), .int 0, .int 0, .int 0]))] := hD
                      refine lv_iload hx hb dX10_rights_111 (lv_at hl 0 rfl) ?_
                      refine lv_sipush (v := 199) hx hb dX10_rights_113 (by decide) ?_
                      refine lv_icmp_gt (tgt := 145) hx hb dX10_rights_116 (by decide) (fun _ => ?_) (fun h9 => absurd (by decide) h9)
                      refine lv_iinc (v := (5)) (lv' := [(3, .int 5), (4, .int (nI 200)), (2, .int 1), (1, .int 0), (0, .ref h0)]) hx hb dX10_rights_145 hl (k := 1) rfl (by decide) (by decide) rfl (fun ls hl => ?_)
                      refine lv_goto (tgt := 99) hx hb dX10_rights_148 (by decide) ?_
                      refine lv_iload_n hx hb dX10_rights_99 rfl (lv_at hl 0 rfl) ?_
                      refine lv_bipush (v := 6) hx hb dX10_rights_100 (by decide) ?_
                      refine lv_icmp_ge (tgt := 151) hx hb dX10_rights_102 (by decide) (fun h9 => absurd h9 (by decide)) (fun _ => ?_)
                      refine lv_aload_n hx hb dX10_rights_105 rfl (lv_at hl 4 rfl) ?_
                      refine va_get (ci := 10) (v := .int 0) (C := RX10) (T := TX10) (N := 59) hx hb hts inX10 hown hK hP 2 rfl rfl 7 (by decide) (hts _ gm_908) (fun _ h9 => h9) rfl dX10_rights_106 ?_
                      refine lv_istore (lv' := [(4, .int 0), (3, .int 5), (2, .int 1), (1, .int 0), (0, .ref h0)]) hx hb dX10_rights_109 hl (by decide) rfl (fun ls hl => ?_)
                      have lp_8 : ∀ (n_8 i_8 : Nat), i_8 + n_8 = 200 → ∀ (g_8_0 : Nat → Int32) (H : Heap) (locs : List Loc) (ls : Array Slot), (∀ j, j < 1200 → g_8_0 j = (-1)) → va_P G vwCl [(w0, .inl (cy 2, 6, .inl (fun _ => 0))), (w5, .inl (cy 0, 1200, .inl g_8_0)), (h0, .inr (10, [.int 0, .ref w0, .ref w1, .ref w2, .ref w3, .ref w4, .ref w5, .int 0, .ref w6, .int 0, .int 0, .int 0, .int 0, .int 0, .int 0, .int 0, .int 0, .long 0, .int 0, .int 0, .ref w7, .ref w8, .ref w9, .ref w10, .ref w11, .ref w12, .ref w13, .ref w14, .int 1, .int 0, .int 0, .ref w15, .ref w16, .ref w17, .ref w18, .ref w19, .ref w20, .int 0, .ref w21, .ref w22, .ref w23, .ref w24, .ref w25, .ref w26, .ref w27, .ref w28, .ref w29, .ref w30, .ref w31, .ref w32, .ref w33, .ref w34, .ref w35, .ref w36, .ref w37, .int (-1), .int 0, .int 0, .int 0]))] H → va_D A [(w0, .inl (cy 2, 6, .inl (fun _ => 0))), (w5, .inl (cy 0, 1200, .inl g_8_0)), (h0, .inr (10, [.int 0, .ref w0, .ref w1, .ref w2, .ref w3, .ref w4, .ref w5, .int 0, .ref w6, .int 0, .int 0, .int 0, .int 0, .int 0, .int 0, .int 0, .int 0, .long 0, .int 0, .int 0, .ref w7, .ref w8, .ref w9, .ref w10, .ref w11, .ref w12, .ref w13, .ref w14, .int 1, .int 0, .int 0, .ref w15, .ref w16, .ref w17, .ref w18, .ref w19, .ref w20, .int 0, .ref w21, .ref w22, .ref w23, .ref w24, .ref w25, .ref w26, .ref w27, .ref w28, .ref w29, .ref w30, .ref w31, .ref w32, .ref w33, .ref w34, .ref w35, .ref w36, .ref w37, .int (-1), .int 0, .int 0, .int 0]))] → va_S A s.heap H locs → lv_has ls 5 [(4, .int (nI i_8)), (3, .int 5), (2, .int 1), (1, .int 0), (0, .ref h0)] → W p l e ({ frames := 2, cells := 0, slots := 0, locals := 44 } : Room) s m [.ref h0].toArray below meth c H locs 0 0 Q (F0 m 111 ls []) := by
                        intro n_8
                        induction n_8 with
                        | zero =>
                          intro i_8 hi_8 g_8_0 H locs ls hg_8_0 hP hD hS hl
                          obtain rfl : i_8 = 200 := by omega
                          have hP := gz_arr (k := 1) (g := (fun _ => (-1))) hg_8_0 hP rfl
                          have hD := va_D.set (p := 1) (e := .inl (cy 0, 1200, .inl (fun _ => (-1)))) hD rfl
                          have hP : va_P G vwCl [(w0, .inl (cy 2, 6, .inl (fun _ => 0))), (w5, .inl (cy 0, 1200, .inl (fun _ => (-1)))), (h0, .inr (10, [.int 0, .ref w0, .ref w1, .ref w2, .ref w3, .ref w4, .ref w5, .int 0, .ref w6, .int 0, .int 0, .int 0, .int 0, .int 0, .int 0, .int 0, .int 0, .long 0, .int 0, .int 0, .ref w7, .ref w8, .ref w9, .ref w10, .ref w11, .ref w12, .ref w13, .ref w14, .int 1, .int 0, .int 0, .ref w15, .ref w16, .ref w17, .ref w18, .ref w19, .ref w20, .int 0, .ref w21, .ref w22, .ref w23, .ref w24, .ref w25, .ref w26, .ref w27, .ref w28, .ref w29, .ref w30, .ref w31, .ref w32, .ref w33, .ref w34, .ref w35, .ref w36, .ref w37, .int (-1), .int 0, .int 0, .int 0]))] H := hP
                          have hD : va_D A [(w0, .inl (cy 2, 6, .inl (fun _ => 0))), (w5, .inl (cy 0, 1200, .inl (fun _ => (-1)))), (h0, .inr (10, [.int 0, .ref w0, .ref w1, .ref w2, .ref w3, .ref w4, .ref w5, .int 0, .ref w6, .int 0, .int 0, .int 0, .int 0, .int 0, .int 0, .int 0, .int 0, .long 0, .int 0, .int 0, .ref w7, .ref w8, .ref w9, .ref w10, .ref w11, .ref w12, .ref w13, .ref w14, .int 1, .int 0, .int 0, .ref w15, .ref w16, .ref w17, .ref w18, .ref w19, .ref w20, .int 0, .ref w21, .ref w22, .ref w23, .ref w24, .ref w25, .ref w26, .ref w27, .ref w28, .ref w29, .ref w30, .ref w31, .ref w32, .ref w33, .ref w34, .ref w35, .ref w36, .ref w37, .int (-1), .int 0, .int 0, .int 0]))] := hD
                          refine lv_iload hx hb dX10_rights_111 (lv_at hl 0 rfl) ?_
                          refine lv_sipush (v := 199) hx hb dX10_rights_113 (by decide) ?_
                          refine lv_icmp_gt (tgt := 145) hx hb dX10_rights_116 (by decide) (fun _ => ?_) (fun h9 => absurd (by decide) h9)
                          refine lv_iinc (v := (6)) (lv' := [(3, .int 6), (4, .int (nI 200)), (2, .int 1), (1, .int 0), (0, .ref h0)]) hx hb dX10_rights_145 hl (k := 1) rfl (by decide) (by decide) rfl (fun ls hl => ?_)
                          refine lv_goto (tgt := 99) hx hb dX10_rights_148 (by decide) ?_
                          refine lv_iload_n hx hb dX10_rights_99 rfl (lv_at hl 0 rfl) ?_
                          refine lv_bipush (v := 6) hx hb dX10_rights_100 (by decide) ?_
                          refine lv_icmp_ge (tgt := 151) hx hb dX10_rights_102 (by decide) (fun _ => ?_) (fun h9 => absurd (by decide) h9)
                          refine lv_aload_n hx hb dX10_rights_151 rfl (lv_at hl 4 rfl) ?_
                          refine gz_aftv (va_runV (As := []) (rest := []) ⟨hx, hb, hml, hown, hts⟩ (m_droughts l G cy H.size h0 w0 w1 w2 w3 w4 w5 w6 w7 w8 w9 w10 w11 w12 w13 w14 w15 w16 w17 w18 w19 w20 w21 w22 w23 w24 w25 w26 w27 w28 w29 w30 w31 w32 w33 w34 w35 w36 w37 1 0 ) ⟨(gz_cb (n := 0) hts gm_1181 gm_12 gm_1184 ⟨by decide +kernel, by decide +kernel, by decide +kernel⟩ ⟨Nat.le_of_ble_eq_true rfl, Nat.le_of_ble_eq_true rfl⟩), hts _ gm_1183, hts _ gs_48⟩ (gz_preV (ci := 10) (q0 := 0) hK hov hP hD [2, 0] (by decide) rfl rfl rfl) rfl rfl hl.1 rfl (lv_room (Nat.le_of_ble_eq_true rfl)) dX10_rights_152 ⟨Nat.le_of_ble_eq_true rfl, Nat.le_of_ble_eq_true rfl⟩) hP hD hS hA [2, 0] [1] rfl rfl (by decide) (by decide) (fun u_9 H locs hw_9 hP hD hS => ?_)
                          have hP : va_P G vwCl [(w5, .inl (cy 0, 1200, .inl (fun _ => (-1)))), (h0, .inr (10, [.int 0, .ref w0, .ref w1, .ref w2, .ref w3, .ref w4, .ref w5, .int 0, .ref w6, .int 0, .int 0, .int 0, .int 0, .int 0, .int 0, .int 0, .int 0, .long 0, .int 0, .int 0, .ref w7, .ref w8, .ref w9, .ref w10, .ref w11, .ref w12, .ref w13, .ref w14, .int 1, .int 0, .int 0, .ref w15, .ref w16, .ref w17, .ref w18, .ref w19, .ref w20, .int 0, .ref w21, .ref w22, .ref w23, .ref w24, .ref w25, .ref w26, .ref w27, .ref w28, .ref w29, .ref w30, .ref w31, .ref w32, .ref w33, .ref w34, .ref w35, .ref w36, .ref w37, .int (-1), .int 0, .int 0, .int 0])), (w0, .inl (cy 2, 6, .inl (fun _ => 0)))] H := hP
                          have hD : va_D A [(w5, .inl (cy 0, 1200, .inl (fun _ => (-1)))), (h0, .inr (10, [.int 0, .ref w0, .ref w1, .ref w2, .ref w3, .ref w4, .ref w5, .int 0, .ref w6, .int 0, .int 0, .int 0, .int 0, .int 0, .int 0, .int 0, .int 0, .long 0, .int 0, .int 0, .ref w7, .ref w8, .ref w9, .ref w10, .ref w11, .ref w12, .ref w13, .ref w14, .int 1, .int 0, .int 0, .ref w15, .ref w16, .ref w17, .ref w18, .ref w19, .ref w20, .int 0, .ref w21, .ref w22, .ref w23, .ref w24, .ref w25, .ref w26, .ref w27, .ref w28, .ref w29, .ref w30, .ref w31, .ref w32, .ref w33, .ref w34, .ref w35, .ref w36, .ref w37, .int (-1), .int 0, .int 0, .int 0])), (w0, .inl (cy 2, 6, .inl (fun _ => 0)))] := hD
                          refine lv_aload_n hx hb dX10_rights_155 rfl (lv_at hl 4 rfl) ?_
                          refine va_get (ci := 10) (v := .int 0) (C := RX10) (T := TX10) (N := 59) hx hb hts inX10 hown hK hP 1 rfl rfl 29 (by decide) (hts _ gm_930) (fun _ h9 => h9) rfl dX10_rights_156 ?_
                          rw [← hQe]
                          exact gz_iret (p := p) (l := l) (e := e) (s := s) (m := m) (below := below) (meth := meth) (c := c) (H := H) (cells := 0) (slots := 0) (mc := 0) (ms := 0) (cf := (fun (u : Unit) => [])) (post := (fun (r : Int32) (u : Unit) => r = 0)) hx hb hr hlocks hK hP hD hS () [] rfl rfl (by decide) rfl (by exact Nat.le_of_ble_eq_true rfl) (by exact Nat.le_of_ble_eq_true rfl) dX10_rights_159
                        | succ n_8 ih =>
                          intro i_8 hi_8 g_8_0 H locs ls hg_8_0 hP hD hS hl
                          refine lv_iload hx hb dX10_rights_111 (lv_at hl 0 rfl) ?_
                          refine lv_sipush (v := 199) hx hb dX10_rights_113 (by decide) ?_
                          refine lv_icmp_gt (tgt := 145) hx hb dX10_rights_116 (by decide) (fun h9 => absurd h9 (nI_nlt (a := 199) (by omega) (by decide))) (fun _ => ?_)
                          refine lv_aload_n hx hb dX10_rights_119 rfl (lv_at hl 4 rfl) ?_
                          refine va_get (ci := 10) (v := .ref w5) (C := RX10) (T := TX10) (N := 59) hx hb hts inX10 hown hK hP 2 rfl rfl 6 (by decide) (hts _ gm_907) (fun _ h9 => h9) rfl dX10_rights_120 ?_
                          refine lv_sipush (v := 200) hx hb dX10_rights_123 (by decide) ?_
                          refine lv_iload_n hx hb dX10_rights_126 rfl (lv_at hl 1 rfl) ?_
                          refine lv_imul hx hb dX10_rights_127 ?_
                          refine lv_topi (fun x_10 ex_10 => ?_)
                          obtain rfl : x_10 = (1000 : Int32) := ex_10.trans (by decide)
                          refine lv_iload hx hb dX10_rights_128 (lv_at hl 0 rfl) ?_
                          refine lv_iadd hx hb dX10_rights_130 ?_
                          refine lv_topi (fun x_11 ex_11 => ?_)
                          obtain rfl : x_11 = nI (1000 + i_8) := ex_11.trans (nI_add 1000 i_8)
                          refine lv_aload_n hx hb dX10_rights_131 rfl (lv_at hl 4 rfl) ?_
                          refine lv_iload_n hx hb dX10_rights_132 rfl (lv_at hl 1 rfl) ?_
                          refine lv_iload hx hb dX10_rights_133 (lv_at hl 0 rfl) ?_
                          refine gz_afti (va_runV (As := [.int 5, .int (nI i_8)]) (rest := [.int (nI (1000 + i_8)), .ref w5]) ⟨hx, hb, hml, hown, hts⟩ (m_byTurns l G cy H.size h0 w0 w1 w2 w3 w4 w5 w6 w7 w8 w9 w10 w11 w12 w13 w14 w15 w16 w17 w18 w19 w20 w21 w22 w23 w24 w25 w26 w27 w28 w29 w30 w31 w32 w33 w34 w35 w36 w37 5 (nI i_8) 5 ((nI i_8).toInt) (by decide) rfl) ⟨(gz_cb (n := 2) hts gm_1177 gm_12 gm_1180 ⟨by decide +kernel, by decide +kernel, by decide +kernel⟩ ⟨Nat.le_of_ble_eq_true rfl, Nat.le_of_ble_eq_true rfl⟩), hts _ gm_1179, hts _ gs_47⟩ (gz_preV (ci := 10) (q0 := 0) hK hov hP hD [2] (by decide) rfl rfl rfl) rfl rfl hl.1 rfl (lv_room (Nat.le_of_ble_eq_true rfl)) dX10_rights_135 ⟨Nat.le_of_ble_eq_true rfl, Nat.le_of_ble_eq_true rfl⟩) hP hD hS hA [2] [0, 1] rfl rfl (by decide) (by decide) (fun r_12 u_12 H locs hw_12 hP hD hS => ?_)
                          have hP : va_P G vwCl [(w0, .inl (cy 2, 6, .inl (fun _ => 0))), (w5, .inl (cy 0, 1200, .inl g_8_0)), (h0, .inr (10, [.int 0, .ref w0, .ref w1, .ref w2, .ref w3, .ref w4, .ref w5, .int 0, .ref w6, .int 0, .int 0, .int 0, .int 0, .int 0, .int 0, .int 0, .int 0, .long 0, .int 0, .int 0, .ref w7, .ref w8, .ref w9, .ref w10, .ref w11, .ref w12, .ref w13, .ref w14, .int 1, .int 0, .int 0, .ref w15, .ref w16, .ref w17, .ref w18, .ref w19, .ref w20, .int 0, .ref w21, .ref w22, .ref w23, .ref w24, .ref w25, .ref w26, .ref w27, .ref w28, .ref w29, .ref w30, .ref w31, .ref w32, .ref w33, .ref w34, .ref w35, .ref w36, .ref w37, .int (-1), .int 0, .int 0, .int 0]))] H := hP
                          have hD : va_D A [(w0, .inl (cy 2, 6, .inl (fun _ => 0))), (w5, .inl (cy 0, 1200, .inl g_8_0)), (h0, .inr (10, [.int 0, .ref w0, .ref w1, .ref w2, .ref w3, .ref w4, .ref w5, .int 0, .ref w6, .int 0, .int 0, .int 0, .int 0, .int 0, .int 0, .int 0, .int 0, .long 0, .int 0, .int 0, .ref w7, .ref w8, .ref w9, .ref w10, .ref w11, .ref w12, .ref w13, .ref w14, .int 1, .int 0, .int 0, .ref w15, .ref w16, .ref w17, .ref w18, .ref w19, .ref w20, .int 0, .ref w21, .ref w22, .ref w23, .ref w24, .ref w25, .ref w26, .ref w27, .ref w28, .ref w29, .ref w30, .ref w31, .ref w32, .ref w33, .ref w34, .ref w35, .ref w36, .ref w37, .int (-1), .int 0, .int 0, .int 0]))] := hD
                          obtain rfl := hw_12
                          refine va_iast hx hb hK hP hD hS 1 0 rfl rfl (vp_in_nI (by omega) (by decide)) dX10_rights_138 (fun H locs hP hD hS => ?_)
                          obtain ⟨f_13, ef_13⟩ : ∃ g : Nat → Int32, g = upd g_8_0 (nI (1000 + i_8) : Int32).toNatClampNeg (-1) := ⟨_, rfl⟩
                          have hP : va_P G vwCl [(w0, .inl (cy 2, 6, .inl (fun _ => 0))), (w5, .inl (cy 0, 1200, .inl f_13)), (h0, .inr (10, [.int 0, .ref w0, .ref w1, .ref w2, .ref w3, .ref w4, .ref w5, .int 0, .ref w6, .int 0, .int 0, .int 0, .int 0, .int 0, .int 0, .int 0, .int 0, .long 0, .int 0, .int 0, .ref w7, .ref w8, .ref w9, .ref w10, .ref w11, .ref w12, .ref w13, .ref w14, .int 1, .int 0, .int 0, .ref w15, .ref w16, .ref w17, .ref w18, .ref w19, .ref w20, .int 0, .ref w21, .ref w22, .ref w23, .ref w24, .ref w25, .ref w26, .ref w27, .ref w28, .ref w29, .ref w30, .ref w31, .ref w32, .ref w33, .ref w34, .ref w35, .ref w36, .ref w37, .int (-1), .int 0, .int 0, .int 0]))] H := ef_13 ▸ hP
                          have hD : va_D A [(w0, .inl (cy 2, 6, .inl (fun _ => 0))), (w5, .inl (cy 0, 1200, .inl f_13)), (h0, .inr (10, [.int 0, .ref w0, .ref w1, .ref w2, .ref w3, .ref w4, .ref w5, .int 0, .ref w6, .int 0, .int 0, .int 0, .int 0, .int 0, .int 0, .int 0, .int 0, .long 0, .int 0, .int 0, .ref w7, .ref w8, .ref w9, .ref w10, .ref w11, .ref w12, .ref w13, .ref w14, .int 1, .int 0, .int 0, .ref w15, .ref w16, .ref w17, .ref w18, .ref w19, .ref w20, .int 0, .ref w21, .ref w22, .ref w23, .ref w24, .ref w25, .ref w26, .ref w27, .ref w28, .ref w29, .ref w30, .ref w31, .ref w32, .ref w33, .ref w34, .ref w35, .ref w36, .ref w37, .int (-1), .int 0, .int 0, .int 0]))] := ef_13 ▸ hD
                          refine lv_iinc (v := (nI (i_8 + 1))) (lv' := [(4, .int (nI (i_8 + 1))), (3, .int 5), (2, .int 1), (1, .int 0), (0, .ref h0)]) hx hb dX10_rights_139 hl (k := 0) rfl (nI_add i_8 1) (by decide) rfl (fun ls hl => ?_)
                          refine lv_goto (tgt := 111) hx hb dX10_rights_142 (by decide) ?_
                          exact ih (i_8 + 1) (by omega) f_13 H _ ls (fun j hj => by rw [ef_13]; exact gz_updc hg_8_0 j hj) hP hD hS (lv_sub hl [0, 1, 2, 3, 4] rfl)
                      exact lp_8 200 0 (by omega) (fun _ => (-1)) H _ ls (fun j hj => rfl) hP hD hS hl
                    | succ n_7 ih =>
                      intro i_7 hi_7 g_7_0 H locs ls hg_7_0 hP hD hS hl
                      refine lv_iload hx hb dX10_rights_111 (lv_at hl 0 rfl) ?_
                      refine lv_sipush (v := 199) hx hb dX10_rights_113 (by decide) ?_
                      refine lv_icmp_gt (tgt := 145) hx hb dX10_rights_116 (by decide) (fun h9 => absurd h9 (nI_nlt (a := 199) (by omega) (by decide))) (fun _ => ?_)
                      refine lv_aload_n hx hb dX10_rights_119 rfl (lv_at hl 4 rfl) ?_
                      refine va_get (ci := 10) (v := .ref w5) (C := RX10) (T := TX10) (N := 59) hx hb hts inX10 hown hK hP 2 rfl rfl 6 (by decide) (hts _ gm_907) (fun _ h9 => h9) rfl dX10_rights_120 ?_
                      refine lv_sipush (v := 200) hx hb dX10_rights_123 (by decide) ?_
                      refine lv_iload_n hx hb dX10_rights_126 rfl (lv_at hl 1 rfl) ?_
                      refine lv_imul hx hb dX10_rights_127 ?_
                      refine lv_topi (fun x_14 ex_14 => ?_)
                      obtain rfl : x_14 = (800 : Int32) := ex_14.trans (by decide)
                      refine lv_iload hx hb dX10_rights_128 (lv_at hl 0 rfl) ?_
                      refine lv_iadd hx hb dX10_rights_130 ?_
                      refine lv_topi (fun x_15 ex_15 => ?_)
                      obtain rfl : x_15 = nI (800 + i_7) := ex_15.trans (nI_add 800 i_7)
                      refine lv_aload_n hx hb dX10_rights_131 rfl (lv_at hl 4 rfl) ?_
                      refine lv_iload_n hx hb dX10_rights_132 rfl (lv_at hl 1 rfl) ?_
                      refine lv_iload hx hb dX10_rights_133 (lv_at hl 0 rfl) ?_
                      refine gz_afti (va_runV (As := [.int 4, .int (nI i_7)]) (rest := [.int (nI (800 + i_7)), .ref w5]) ⟨hx, hb, hml, hown, hts⟩ (m_byTurns l G cy H.size h0 w0 w1 w2 w3 w4 w5 w6 w7 w8 w9 w10 w11 w12 w13 w14 w15 w16 w17 w18 w19 w20 w21 w22 w23 w24 w25 w26 w27 w28 w29 w30 w31 w32 w33 w34 w35 w36 w37 4 (nI i_7) 4 ((nI i_7).toInt) (by decide) rfl) ⟨(gz_cb (n := 2) hts gm_1177 gm_12 gm_1180 ⟨by decide +kernel, by decide +kernel, by decide +kernel⟩ ⟨Nat.le_of_ble_eq_true rfl, Nat.le_of_ble_eq_true rfl⟩), hts _ gm_1179, hts _ gs_47⟩ (gz_preV (ci := 10) (q0 := 0) hK hov hP hD [2] (by decide) rfl rfl rfl) rfl rfl hl.1 rfl (lv_room (Nat.le_of_ble_eq_true rfl)) dX10_rights_135 ⟨Nat.le_of_ble_eq_true rfl, Nat.le_of_ble_eq_true rfl⟩) hP hD hS hA [2] [0, 1] rfl rfl (by decide) (by decide) (fun r_16 u_16 H locs hw_16 hP hD hS => ?_)
                      have hP : va_P G vwCl [(w0, .inl (cy 2, 6, .inl (fun _ => 0))), (w5, .inl (cy 0, 1200, .inl g_7_0)), (h0, .inr (10, [.int 0, .ref w0, .ref w1, .ref w2, .ref w3, .ref w4, .ref w5, .int 0, .ref w6, .int 0, .int 0, .int 0, .int 0, .int 0, .int 0, .int 0, .int 0, .long 0, .int 0, .int 0, .ref w7, .ref w8, .ref w9, .ref w10, .ref w11, .ref w12, .ref w13, .ref w14, .int 1, .int 0, .int 0, .ref w15, .ref w16, .ref w17, .ref w18, .ref w19, .ref w20, .int 0, .ref w21, .ref w22, .ref w23, .ref w24, .ref w25, .ref w26, .ref w27, .ref w28, .ref w29, .ref w30, .ref w31, .ref w32, .ref w33, .ref w34, .ref w35, .ref w36, .ref w37, .int (-1), .int 0, .int 0, .int 0]))] H := hP
                      have hD : va_D A [(w0, .inl (cy 2, 6, .inl (fun _ => 0))), (w5, .inl (cy 0, 1200, .inl g_7_0)), (h0, .inr (10, [.int 0, .ref w0, .ref w1, .ref w2, .ref w3, .ref w4, .ref w5, .int 0, .ref w6, .int 0, .int 0, .int 0, .int 0, .int 0, .int 0, .int 0, .int 0, .long 0, .int 0, .int 0, .ref w7, .ref w8, .ref w9, .ref w10, .ref w11, .ref w12, .ref w13, .ref w14, .int 1, .int 0, .int 0, .ref w15, .ref w16, .ref w17, .ref w18, .ref w19, .ref w20, .int 0, .ref w21, .ref w22, .ref w23, .ref w24, .ref w25, .ref w26, .ref w27, .ref w28, .ref w29, .ref w30, .ref w31, .ref w32, .ref w33, .ref w34, .ref w35, .ref w36, .ref w37, .int (-1), .int 0, .int 0, .int 0]))] := hD
                      obtain rfl := hw_16
                      refine va_iast hx hb hK hP hD hS 1 0 rfl rfl (vp_in_nI (by omega) (by decide)) dX10_rights_138 (fun H locs hP hD hS => ?_)
                      obtain ⟨f_17, ef_17⟩ : ∃ g : Nat → Int32, g = upd g_7_0 (nI (800 + i_7) : Int32).toNatClampNeg (-1) := ⟨_, rfl⟩
                      have hP : va_P G vwCl [(w0, .inl (cy 2, 6, .inl (fun _ => 0))), (w5, .inl (cy 0, 1200, .inl f_17)), (h0, .inr (10, [.int 0, .ref w0, .ref w1, .ref w2, .ref w3, .ref w4, .ref w5, .int 0, .ref w6, .int 0, .int 0, .int 0, .int 0, .int 0, .int 0, .int 0, .int 0, .long 0, .int 0, .int 0, .ref w7, .ref w8, .ref w9, .ref w10, .ref w11, .ref w12, .ref w13, .ref w14, .int 1, .int 0, .int 0, .ref w15, .ref w16, .ref w17, .ref w18, .ref w19, .ref w20, .int 0, .ref w21, .ref w22, .ref w23, .ref w24, .ref w25, .ref w26, .ref w27, .ref w28, .ref w29, .ref w30, .ref w31, .ref w32, .ref w33, .ref w34, .ref w35, .ref w36, .ref w37, .int (-1), .int 0, .int 0, .int 0]))] H := ef_17 ▸ hP
                      have hD : va_D A [(w0, .inl (cy 2, 6, .inl (fun _ => 0))), (w5, .inl (cy 0, 1200, .inl f_17)), (h0, .inr (10, [.int 0, .ref w0, .ref w1, .ref w2, .ref w3, .ref w4, .ref w5, .int 0, .ref w6, .int 0, .int 0, .int 0, .int 0, .int 0, .int 0, .int 0, .int 0, .long 0, .int 0, .int 0, .ref w7, .ref w8, .ref w9, .ref w10, .ref w11, .ref w12, .ref w13, .ref w14, .int 1, .int 0, .int 0, .ref w15, .ref w16, .ref w17, .ref w18, .ref w19, .ref w20, .int 0, .ref w21, .ref w22, .ref w23, .ref w24, .ref w25, .ref w26, .ref w27, .ref w28, .ref w29, .ref w30, .ref w31, .ref w32, .ref w33, .ref w34, .ref w35, .ref w36, .ref w37, .int (-1), .int 0, .int 0, .int 0]))] := ef_17 ▸ hD
                      refine lv_iinc (v := (nI (i_7 + 1))) (lv' := [(4, .int (nI (i_7 + 1))), (3, .int 4), (2, .int 1), (1, .int 0), (0, .ref h0)]) hx hb dX10_rights_139 hl (k := 0) rfl (nI_add i_7 1) (by decide) rfl (fun ls hl => ?_)
                      refine lv_goto (tgt := 111) hx hb dX10_rights_142 (by decide) ?_
                      exact ih (i_7 + 1) (by omega) f_17 H _ ls (fun j hj => by rw [ef_17]; exact gz_updc hg_7_0 j hj) hP hD hS (lv_sub hl [0, 1, 2, 3, 4] rfl)
                  exact lp_7 200 0 (by omega) (fun _ => (-1)) H _ ls (fun j hj => rfl) hP hD hS hl
                | succ n_6 ih =>
                  intro i_6 hi_6 g_6_0 H locs ls hg_6_0 hP hD hS hl
                  refine lv_iload hx hb dX10_rights_111 (lv_at hl 0 rfl) ?_
                  refine lv_sipush (v := 199) hx hb dX10_rights_113 (by decide) ?_
                  refine lv_icmp_gt (tgt := 145) hx hb dX10_rights_116 (by decide) (fun h9 => absurd h9 (nI_nlt (a := 199) (by omega) (by decide))) (fun _ => ?_)
                  refine lv_aload_n hx hb dX10_rights_119 rfl (lv_at hl 4 rfl) ?_
                  refine va_get (ci := 10) (v := .ref w5) (C := RX10) (T := TX10) (N := 59) hx hb hts inX10 hown hK hP 2 rfl rfl 6 (by decide) (hts _ gm_907) (fun _ h9 => h9) rfl dX10_rights_120 ?_
                  refine lv_sipush (v := 200) hx hb dX10_rights_123 (by decide) ?_
                  refine lv_iload_n hx hb dX10_rights_126 rfl (lv_at hl 1 rfl) ?_
                  refine lv_imul hx hb dX10_rights_127 ?_
                  refine lv_topi (fun x_18 ex_18 => ?_)
                  obtain rfl : x_18 = (600 : Int32) := ex_18.trans (by decide)
                  refine lv_iload hx hb dX10_rights_128 (lv_at hl 0 rfl) ?_
                  refine lv_iadd hx hb dX10_rights_130 ?_
                  refine lv_topi (fun x_19 ex_19 => ?_)
                  obtain rfl : x_19 = nI (600 + i_6) := ex_19.trans (nI_add 600 i_6)
                  refine lv_aload_n hx hb dX10_rights_131 rfl (lv_at hl 4 rfl) ?_
                  refine lv_iload_n hx hb dX10_rights_132 rfl (lv_at hl 1 rfl) ?_
                  refine lv_iload hx hb dX10_rights_133 (lv_at hl 0 rfl) ?_
                  refine gz_afti (va_runV (As := [.int 3, .int (nI i_6)]) (rest := [.int (nI (600 + i_6)), .ref w5]) ⟨hx, hb, hml, hown, hts⟩ (m_byTurns l G cy H.size h0 w0 w1 w2 w3 w4 w5 w6 w7 w8 w9 w10 w11 w12 w13 w14 w15 w16 w17 w18 w19 w20 w21 w22 w23 w24 w25 w26 w27 w28 w29 w30 w31 w32 w33 w34 w35 w36 w37 3 (nI i_6) 3 ((nI i_6).toInt) (by decide) rfl) ⟨(gz_cb (n := 2) hts gm_1177 gm_12 gm_1180 ⟨by decide +kernel, by decide +kernel, by decide +kernel⟩ ⟨Nat.le_of_ble_eq_true rfl, Nat.le_of_ble_eq_true rfl⟩), hts _ gm_1179, hts _ gs_47⟩ (gz_preV (ci := 10) (q0 := 0) hK hov hP hD [2] (by decide) rfl rfl rfl) rfl rfl hl.1 rfl (lv_room (Nat.le_of_ble_eq_true rfl)) dX10_rights_135 ⟨Nat.le_of_ble_eq_true rfl, Nat.le_of_ble_eq_true rfl⟩) hP hD hS hA [2] [0, 1] rfl rfl (by decide) (by decide) (fun r_20 u_20 H locs hw_20 hP hD hS => ?_)
                  have hP : va_P G vwCl [(w0, .inl (cy 2, 6, .inl (fun _ => 0))), (w5, .inl (cy 0, 1200, .inl g_6_0)), (h0, .inr (10, [.int 0, .ref w0, .ref w1, .ref w2, .ref w3, .ref w4, .ref w5, .int 0, .ref w6, .int 0, .int 0, .int 0, .int 0, .int 0, .int 0, .int 0, .int 0, .long 0, .int 0, .int 0, .ref w7, .ref w8, .ref w9, .ref w10, .ref w11, .ref w12, .ref w13, .ref w14, .int 1, .int 0, .int 0, .ref w15, .ref w16, .ref w17, .ref w18, .ref w19, .ref w20, .int 0, .ref w21, .ref w22, .ref w23, .ref w24, .ref w25, .ref w26, .ref w27, .ref w28, .ref w29, .ref w30, .ref w31, .ref w32, .ref w33, .ref w34, .ref w35, .ref w36, .ref w37, .int (-1), .int 0, .int 0, .int 0]))] H := hP
                  have hD : va_D A [(w0, .inl (cy 2, 6, .inl (fun _ => 0))), (w5, .inl (cy 0, 1200, .inl g_6_0)), (h0, .inr (10, [.int 0, .ref w0, .ref w1, .ref w2, .ref w3, .ref w4, .ref w5, .int 0, .ref w6, .int 0, .int 0, .int 0, .int 0, .int 0, .int 0, .int 0, .int 0, .long 0, .int 0, .int 0, .ref w7, .ref w8, .ref w9, .ref w10, .ref w11, .ref w12, .ref w13, .ref w14, .int 1, .int 0, .int 0, .ref w15, .ref w16, .ref w17, .ref w18, .ref w19, .ref w20, .int 0, .ref w21, .ref w22, .ref w23, .ref w24, .ref w25, .ref w26, .ref w27, .ref w28, .ref w29, .ref w30, .ref w31, .ref w32, .ref w33, .ref w34, .ref w35, .ref w36, .ref w37, .int (-1), .int 0, .int 0, .int 0]))] := hD
                  obtain rfl := hw_20
                  refine va_iast hx hb hK hP hD hS 1 0 rfl rfl (vp_in_nI (by omega) (by decide)) dX10_rights_138 (fun H locs hP hD hS => ?_)
                  obtain ⟨f_21, ef_21⟩ : ∃ g : Nat → Int32, g = upd g_6_0 (nI (600 + i_6) : Int32).toNatClampNeg (-1) := ⟨_, rfl⟩
                  have hP : va_P G vwCl [(w0, .inl (cy 2, 6, .inl (fun _ => 0))), (w5, .inl (cy 0, 1200, .inl f_21)), (h0, .inr (10, [.int 0, .ref w0, .ref w1, .ref w2, .ref w3, .ref w4, .ref w5, .int 0, .ref w6, .int 0, .int 0, .int 0, .int 0, .int 0, .int 0, .int 0, .int 0, .long 0, .int 0, .int 0, .ref w7, .ref w8, .ref w9, .ref w10, .ref w11, .ref w12, .ref w13, .ref w14, .int 1, .int 0, .int 0, .ref w15, .ref w16, .ref w17, .ref w18, .ref w19, .ref w20, .int 0, .ref w21, .ref w22, .ref w23, .ref w24, .ref w25, .ref w26, .ref w27, .ref w28, .ref w29, .ref w30, .ref w31, .ref w32, .ref w33, .ref w34, .ref w35, .ref w36, .ref w37, .int (-1), .int 0, .int 0, .int 0]))] H := ef_21 ▸ hP
                  have hD : va_D A [(w0, .inl (cy 2, 6, .inl (fun _ => 0))), (w5, .inl (cy 0, 1200, .inl f_21)), (h0, .inr (10, [.int 0, .ref w0, .ref w1, .ref w2, .ref w3, .ref w4, .ref w5, .int 0, .ref w6, .int 0, .int 0, .int 0, .int 0, .int 0, .int 0, .int 0, .int 0, .long 0, .int 0, .int 0, .ref w7, .ref w8, .ref w9, .ref w10, .ref w11, .ref w12, .ref w13, .ref w14, .int 1, .int 0, .int 0, .ref w15, .ref w16, .ref w17, .ref w18, .ref w19, .ref w20, .int 0, .ref w21, .ref w22, .ref w23, .ref w24, .ref w25, .ref w26, .ref w27, .ref w28, .ref w29, .ref w30, .ref w31, .ref w32, .ref w33, .ref w34, .ref w35, .ref w36, .ref w37, .int (-1), .int 0, .int 0, .int 0]))] := ef_21 ▸ hD
                  refine lv_iinc (v := (nI (i_6 + 1))) (lv' := [(4, .int (nI (i_6 + 1))), (3, .int 3), (2, .int 1), (1, .int 0), (0, .ref h0)]) hx hb dX10_rights_139 hl (k := 0) rfl (nI_add i_6 1) (by decide) rfl (fun ls hl => ?_)
                  refine lv_goto (tgt := 111) hx hb dX10_rights_142 (by decide) ?_
                  exact ih (i_6 + 1) (by omega) f_21 H _ ls (fun j hj => by rw [ef_21]; exact gz_updc hg_6_0 j hj) hP hD hS (lv_sub hl [0, 1, 2, 3, 4] rfl)
              exact lp_6 200 0 (by omega) (fun _ => (-1)) H _ ls (fun j hj => rfl) hP hD hS hl
            | succ n_5 ih =>
              intro i_5 hi_5 g_5_0 H locs ls hg_5_0 hP hD hS hl
              refine lv_iload hx hb dX10_rights_111 (lv_at hl 0 rfl) ?_
              refine lv_sipush (v := 199) hx hb dX10_rights_113 (by decide) ?_
              refine lv_icmp_gt (tgt := 145) hx hb dX10_rights_116 (by decide) (fun h9 => absurd h9 (nI_nlt (a := 199) (by omega) (by decide))) (fun _ => ?_)
              refine lv_aload_n hx hb dX10_rights_119 rfl (lv_at hl 4 rfl) ?_
              refine va_get (ci := 10) (v := .ref w5) (C := RX10) (T := TX10) (N := 59) hx hb hts inX10 hown hK hP 2 rfl rfl 6 (by decide) (hts _ gm_907) (fun _ h9 => h9) rfl dX10_rights_120 ?_
              refine lv_sipush (v := 200) hx hb dX10_rights_123 (by decide) ?_
              refine lv_iload_n hx hb dX10_rights_126 rfl (lv_at hl 1 rfl) ?_
              refine lv_imul hx hb dX10_rights_127 ?_
              refine lv_topi (fun x_22 ex_22 => ?_)
              obtain rfl : x_22 = (400 : Int32) := ex_22.trans (by decide)
              refine lv_iload hx hb dX10_rights_128 (lv_at hl 0 rfl) ?_
              refine lv_iadd hx hb dX10_rights_130 ?_
              refine lv_topi (fun x_23 ex_23 => ?_)
              obtain rfl : x_23 = nI (400 + i_5) := ex_23.trans (nI_add 400 i_5)
              refine lv_aload_n hx hb dX10_rights_131 rfl (lv_at hl 4 rfl) ?_
              refine lv_iload_n hx hb dX10_rights_132 rfl (lv_at hl 1 rfl) ?_
              refine lv_iload hx hb dX10_rights_133 (lv_at hl 0 rfl) ?_
              refine gz_afti (va_runV (As := [.int 2, .int (nI i_5)]) (rest := [.int (nI (400 + i_5)), .ref w5]) ⟨hx, hb, hml, hown, hts⟩ (m_byTurns l G cy H.size h0 w0 w1 w2 w3 w4 w5 w6 w7 w8 w9 w10 w11 w12 w13 w14 w15 w16 w17 w18 w19 w20 w21 w22 w23 w24 w25 w26 w27 w28 w29 w30 w31 w32 w33 w34 w35 w36 w37 2 (nI i_5) 2 ((nI i_5).toInt) (by decide) rfl) ⟨(gz_cb (n := 2) hts gm_1177 gm_12 gm_1180 ⟨by decide +kernel, by decide +kernel, by decide +kernel⟩ ⟨Nat.le_of_ble_eq_true rfl, Nat.le_of_ble_eq_true rfl⟩), hts _ gm_1179, hts _ gs_47⟩ (gz_preV (ci := 10) (q0 := 0) hK hov hP hD [2] (by decide) rfl rfl rfl) rfl rfl hl.1 rfl (lv_room (Nat.le_of_ble_eq_true rfl)) dX10_rights_135 ⟨Nat.le_of_ble_eq_true rfl, Nat.le_of_ble_eq_true rfl⟩) hP hD hS hA [2] [0, 1] rfl rfl (by decide) (by decide) (fun r_24 u_24 H locs hw_24 hP hD hS => ?_)
              have hP : va_P G vwCl [(w0, .inl (cy 2, 6, .inl (fun _ => 0))), (w5, .inl (cy 0, 1200, .inl g_5_0)), (h0, .inr (10, [.int 0, .ref w0, .ref w1, .ref w2, .ref w3, .ref w4, .ref w5, .int 0, .ref w6, .int 0, .int 0, .int 0, .int 0, .int 0, .int 0, .int 0, .int 0, .long 0, .int 0, .int 0, .ref w7, .ref w8, .ref w9, .ref w10, .ref w11, .ref w12, .ref w13, .ref w14, .int 1, .int 0, .int 0, .ref w15, .ref w16, .ref w17, .ref w18, .ref w19, .ref w20, .int 0, .ref w21, .ref w22, .ref w23, .ref w24, .ref w25, .ref w26, .ref w27, .ref w28, .ref w29, .ref w30, .ref w31, .ref w32, .ref w33, .ref w34, .ref w35, .ref w36, .ref w37, .int (-1), .int 0, .int 0, .int 0]))] H := hP
              have hD : va_D A [(w0, .inl (cy 2, 6, .inl (fun _ => 0))), (w5, .inl (cy 0, 1200, .inl g_5_0)), (h0, .inr (10, [.int 0, .ref w0, .ref w1, .ref w2, .ref w3, .ref w4, .ref w5, .int 0, .ref w6, .int 0, .int 0, .int 0, .int 0, .int 0, .int 0, .int 0, .int 0, .long 0, .int 0, .int 0, .ref w7, .ref w8, .ref w9, .ref w10, .ref w11, .ref w12, .ref w13, .ref w14, .int 1, .int 0, .int 0, .ref w15, .ref w16, .ref w17, .ref w18, .ref w19, .ref w20, .int 0, .ref w21, .ref w22, .ref w23, .ref w24, .ref w25, .ref w26, .ref w27, .ref w28, .ref w29, .ref w30, .ref w31, .ref w32, .ref w33, .ref w34, .ref w35, .ref w36, .ref w37, .int (-1), .int 0, .int 0, .int 0]))] := hD
              obtain rfl := hw_24
              refine va_iast hx hb hK hP hD hS 1 0 rfl rfl (vp_in_nI (by omega) (by decide)) dX10_rights_138 (fun H locs hP hD hS => ?_)
              obtain ⟨f_25, ef_25⟩ : ∃ g : Nat → Int32, g = upd g_5_0 (nI (400 + i_5) : Int32).toNatClampNeg (-1) := ⟨_, rfl⟩
              have hP : va_P G vwCl [(w0, .inl (cy 2, 6, .inl (fun _ => 0))), (w5, .inl (cy 0, 1200, .inl f_25)), (h0, .inr (10, [.int 0, .ref w0, .ref w1, .ref w2, .ref w3, .ref w4, .ref w5, .int 0, .ref w6, .int 0, .int 0, .int 0, .int 0, .int 0, .int 0, .int 0, .int 0, .long 0, .int 0, .int 0, .ref w7, .ref w8, .ref w9, .ref w10, .ref w11, .ref w12, .ref w13, .ref w14, .int 1, .int 0, .int 0, .ref w15, .ref w16, .ref w17, .ref w18, .ref w19, .ref w20, .int 0, .ref w21, .ref w22, .ref w23, .ref w24, .ref w25, .ref w26, .ref w27, .ref w28, .ref w29, .ref w30, .ref w31, .ref w32, .ref w33, .ref w34, .ref w35, .ref w36, .ref w37, .int (-1), .int 0, .int 0, .int 0]))] H := ef_25 ▸ hP
              have hD : va_D A [(w0, .inl (cy 2, 6, .inl (fun _ => 0))), (w5, .inl (cy 0, 1200, .inl f_25)), (h0, .inr (10, [.int 0, .ref w0, .ref w1, .ref w2, .ref w3, .ref w4, .ref w5, .int 0, .ref w6, .int 0, .int 0, .int 0, .int 0, .int 0, .int 0, .int 0, .int 0, .long 0, .int 0, .int 0, .ref w7, .ref w8, .ref w9, .ref w10, .ref w11, .ref w12, .ref w13, .ref w14, .int 1, .int 0, .int 0, .ref w15, .ref w16, .ref w17, .ref w18, .ref w19, .ref w20, .int 0, .ref w21, .ref w22, .ref w23, .ref w24, .ref w25, .ref w26, .ref w27, .ref w28, .ref w29, .ref w30, .ref w31, .ref w32, .ref w33, .ref w34, .ref w35, .ref w36, .ref w37, .int (-1), .int 0, .int 0, .int 0]))] := ef_25 ▸ hD
              refine lv_iinc (v := (nI (i_5 + 1))) (lv' := [(4, .int (nI (i_5 + 1))), (3, .int 2), (2, .int 1), (1, .int 0), (0, .ref h0)]) hx hb dX10_rights_139 hl (k := 0) rfl (nI_add i_5 1) (by decide) rfl (fun ls hl => ?_)
              refine lv_goto (tgt := 111) hx hb dX10_rights_142 (by decide) ?_
              exact ih (i_5 + 1) (by omega) f_25 H _ ls (fun j hj => by rw [ef_25]; exact gz_updc hg_5_0 j hj) hP hD hS (lv_sub hl [0, 1, 2, 3, 4] rfl)
          exact lp_5 200 0 (by omega) (fun _ => (-1)) H _ ls (fun j hj => rfl) hP hD hS hl
        | succ n_4 ih =>
          intro i_4 hi_4 g_4_0 H locs ls hg_4_0 hP hD hS hl
          refine lv_iload hx hb dX10_rights_111 (lv_at hl 0 rfl) ?_
          refine lv_sipush (v := 199) hx hb dX10_rights_113 (by decide) ?_
          refine lv_icmp_gt (tgt := 145) hx hb dX10_rights_116 (by decide) (fun h9 => absurd h9 (nI_nlt (a := 199) (by omega) (by decide))) (fun _ => ?_)
          refine lv_aload_n hx hb dX10_rights_119 rfl (lv_at hl 4 rfl) ?_
          refine va_get (ci := 10) (v := .ref w5) (C := RX10) (T := TX10) (N := 59) hx hb hts inX10 hown hK hP 2 rfl rfl 6 (by decide) (hts _ gm_907) (fun _ h9 => h9) rfl dX10_rights_120 ?_
          refine lv_sipush (v := 200) hx hb dX10_rights_123 (by decide) ?_
          refine lv_iload_n hx hb dX10_rights_126 rfl (lv_at hl 1 rfl) ?_
          refine lv_imul hx hb dX10_rights_127 ?_
          refine lv_topi (fun x_26 ex_26 => ?_)
          obtain rfl : x_26 = (200 : Int32) := ex_26.trans (by decide)
          refine lv_iload hx hb dX10_rights_128 (lv_at hl 0 rfl) ?_
          refine lv_iadd hx hb dX10_rights_130 ?_
          refine lv_topi (fun x_27 ex_27 => ?_)
          obtain rfl : x_27 = nI (200 + i_4) := ex_27.trans (nI_add 200 i_4)
          refine lv_aload_n hx hb dX10_rights_131 rfl (lv_at hl 4 rfl) ?_
          refine lv_iload_n hx hb dX10_rights_132 rfl (lv_at hl 1 rfl) ?_
          refine lv_iload hx hb dX10_rights_133 (lv_at hl 0 rfl) ?_
          refine gz_afti (va_runV (As := [.int 1, .int (nI i_4)]) (rest := [.int (nI (200 + i_4)), .ref w5]) ⟨hx, hb, hml, hown, hts⟩ (m_byTurns l G cy H.size h0 w0 w1 w2 w3 w4 w5 w6 w7 w8 w9 w10 w11 w12 w13 w14 w15 w16 w17 w18 w19 w20 w21 w22 w23 w24 w25 w26 w27 w28 w29 w30 w31 w32 w33 w34 w35 w36 w37 1 (nI i_4) 1 ((nI i_4).toInt) (by decide) rfl) ⟨(gz_cb (n := 2) hts gm_1177 gm_12 gm_1180 ⟨by decide +kernel, by decide +kernel, by decide +kernel⟩ ⟨Nat.le_of_ble_eq_true rfl, Nat.le_of_ble_eq_true rfl⟩), hts _ gm_1179, hts _ gs_47⟩ (gz_preV (ci := 10) (q0 := 0) hK hov hP hD [2] (by decide) rfl rfl rfl) rfl rfl hl.1 rfl (lv_room (Nat.le_of_ble_eq_true rfl)) dX10_rights_135 ⟨Nat.le_of_ble_eq_true rfl, Nat.le_of_ble_eq_true rfl⟩) hP hD hS hA [2] [0, 1] rfl rfl (by decide) (by decide) (fun r_28 u_28 H locs hw_28 hP hD hS => ?_)
          have hP : va_P G vwCl [(w0, .inl (cy 2, 6, .inl (fun _ => 0))), (w5, .inl (cy 0, 1200, .inl g_4_0)), (h0, .inr (10, [.int 0, .ref w0, .ref w1, .ref w2, .ref w3, .ref w4, .ref w5, .int 0, .ref w6, .int 0, .int 0, .int 0, .int 0, .int 0, .int 0, .int 0, .int 0, .long 0, .int 0, .int 0, .ref w7, .ref w8, .ref w9, .ref w10, .ref w11, .ref w12, .ref w13, .ref w14, .int 1, .int 0, .int 0, .ref w15, .ref w16, .ref w17, .ref w18, .ref w19, .ref w20, .int 0, .ref w21, .ref w22, .ref w23, .ref w24, .ref w25, .ref w26, .ref w27, .ref w28, .ref w29, .ref w30, .ref w31, .ref w32, .ref w33, .ref w34, .ref w35, .ref w36, .ref w37, .int (-1), .int 0, .int 0, .int 0]))] H := hP
          have hD : va_D A [(w0, .inl (cy 2, 6, .inl (fun _ => 0))), (w5, .inl (cy 0, 1200, .inl g_4_0)), (h0, .inr (10, [.int 0, .ref w0, .ref w1, .ref w2, .ref w3, .ref w4, .ref w5, .int 0, .ref w6, .int 0, .int 0, .int 0, .int 0, .int 0, .int 0, .int 0, .int 0, .long 0, .int 0, .int 0, .ref w7, .ref w8, .ref w9, .ref w10, .ref w11, .ref w12, .ref w13, .ref w14, .int 1, .int 0, .int 0, .ref w15, .ref w16, .ref w17, .ref w18, .ref w19, .ref w20, .int 0, .ref w21, .ref w22, .ref w23, .ref w24, .ref w25, .ref w26, .ref w27, .ref w28, .ref w29, .ref w30, .ref w31, .ref w32, .ref w33, .ref w34, .ref w35, .ref w36, .ref w37, .int (-1), .int 0, .int 0, .int 0]))] := hD
          obtain rfl := hw_28
          refine va_iast hx hb hK hP hD hS 1 0 rfl rfl (vp_in_nI (by omega) (by decide)) dX10_rights_138 (fun H locs hP hD hS => ?_)
          obtain ⟨f_29, ef_29⟩ : ∃ g : Nat → Int32, g = upd g_4_0 (nI (200 + i_4) : Int32).toNatClampNeg (-1) := ⟨_, rfl⟩
          have hP : va_P G vwCl [(w0, .inl (cy 2, 6, .inl (fun _ => 0))), (w5, .inl (cy 0, 1200, .inl f_29)), (h0, .inr (10, [.int 0, .ref w0, .ref w1, .ref w2, .ref w3, .ref w4, .ref w5, .int 0, .ref w6, .int 0, .int 0, .int 0, .int 0, .int 0, .int 0, .int 0, .int 0, .long 0, .int 0, .int 0, .ref w7, .ref w8, .ref w9, .ref w10, .ref w11, .ref w12, .ref w13, .ref w14, .int 1, .int 0, .int 0, .ref w15, .ref w16, .ref w17, .ref w18, .ref w19, .ref w20, .int 0, .ref w21, .ref w22, .ref w23, .ref w24, .ref w25, .ref w26, .ref w27, .ref w28, .ref w29, .ref w30, .ref w31, .ref w32, .ref w33, .ref w34, .ref w35, .ref w36, .ref w37, .int (-1), .int 0, .int 0, .int 0]))] H := ef_29 ▸ hP
          have hD : va_D A [(w0, .inl (cy 2, 6, .inl (fun _ => 0))), (w5, .inl (cy 0, 1200, .inl f_29)), (h0, .inr (10, [.int 0, .ref w0, .ref w1, .ref w2, .ref w3, .ref w4, .ref w5, .int 0, .ref w6, .int 0, .int 0, .int 0, .int 0, .int 0, .int 0, .int 0, .int 0, .long 0, .int 0, .int 0, .ref w7, .ref w8, .ref w9, .ref w10, .ref w11, .ref w12, .ref w13, .ref w14, .int 1, .int 0, .int 0, .ref w15, .ref w16, .ref w17, .ref w18, .ref w19, .ref w20, .int 0, .ref w21, .ref w22, .ref w23, .ref w24, .ref w25, .ref w26, .ref w27, .ref w28, .ref w29, .ref w30, .ref w31, .ref w32, .ref w33, .ref w34, .ref w35, .ref w36, .ref w37, .int (-1), .int 0, .int 0, .int 0]))] := ef_29 ▸ hD
          refine lv_iinc (v := (nI (i_4 + 1))) (lv' := [(4, .int (nI (i_4 + 1))), (3, .int 1), (2, .int 1), (1, .int 0), (0, .ref h0)]) hx hb dX10_rights_139 hl (k := 0) rfl (nI_add i_4 1) (by decide) rfl (fun ls hl => ?_)
          refine lv_goto (tgt := 111) hx hb dX10_rights_142 (by decide) ?_
          exact ih (i_4 + 1) (by omega) f_29 H _ ls (fun j hj => by rw [ef_29]; exact gz_updc hg_4_0 j hj) hP hD hS (lv_sub hl [0, 1, 2, 3, 4] rfl)
      exact lp_4 200 0 (by omega) (fun _ => (-1)) H _ ls (fun j hj => rfl) hP hD hS hl
    | succ n_3 ih =>
      intro i_3 hi_3 g_3_0 H locs ls hg_3_0 hP hD hS hl
      refine lv_iload hx hb dX10_rights_111 (lv_at hl 0 rfl) ?_
      refine lv_sipush (v := 199) hx hb dX10_rights_113 (by decide) ?_
      refine lv_icmp_gt (tgt := 145) hx hb dX10_rights_116 (by decide) (fun h9 => absurd h9 (nI_nlt (a := 199) (by omega) (by decide))) (fun _ => ?_)
      refine lv_aload_n hx hb dX10_rights_119 rfl (lv_at hl 4 rfl) ?_
      refine va_get (ci := 10) (v := .ref w5) (C := RX10) (T := TX10) (N := 59) hx hb hts inX10 hown hK hP 2 rfl rfl 6 (by decide) (hts _ gm_907) (fun _ h9 => h9) rfl dX10_rights_120 ?_
      refine lv_sipush (v := 200) hx hb dX10_rights_123 (by decide) ?_
      refine lv_iload_n hx hb dX10_rights_126 rfl (lv_at hl 1 rfl) ?_
      refine lv_imul hx hb dX10_rights_127 ?_
      refine lv_topi (fun x_30 ex_30 => ?_)
      obtain rfl : x_30 = (0 : Int32) := ex_30.trans (by decide)
      refine lv_iload hx hb dX10_rights_128 (lv_at hl 0 rfl) ?_
      refine lv_iadd hx hb dX10_rights_130 ?_
      refine lv_topi (fun x_31 ex_31 => ?_)
      obtain rfl : x_31 = nI (0 + i_3) := ex_31.trans (nI_add 0 i_3)
      refine lv_aload_n hx hb dX10_rights_131 rfl (lv_at hl 4 rfl) ?_
      refine lv_iload_n hx hb dX10_rights_132 rfl (lv_at hl 1 rfl) ?_
      refine lv_iload hx hb dX10_rights_133 (lv_at hl 0 rfl) ?_
      refine gz_afti (va_runV (As := [.int 0, .int (nI i_3)]) (rest := [.int (nI (0 + i_3)), .ref w5]) ⟨hx, hb, hml, hown, hts⟩ (m_byTurns l G cy H.size h0 w0 w1 w2 w3 w4 w5 w6 w7 w8 w9 w10 w11 w12 w13 w14 w15 w16 w17 w18 w19 w20 w21 w22 w23 w24 w25 w26 w27 w28 w29 w30 w31 w32 w33 w34 w35 w36 w37 0 (nI i_3) 0 ((nI i_3).toInt) (by decide) rfl) ⟨(gz_cb (n := 2) hts gm_1177 gm_12 gm_1180 ⟨by decide +kernel, by decide +kernel, by decide +kernel⟩ ⟨Nat.le_of_ble_eq_true rfl, Nat.le_of_ble_eq_true rfl⟩), hts _ gm_1179, hts _ gs_47⟩ (gz_preV (ci := 10) (q0 := 0) hK hov hP hD [2] (by decide) rfl rfl rfl) rfl rfl hl.1 rfl (lv_room (Nat.le_of_ble_eq_true rfl)) dX10_rights_135 ⟨Nat.le_of_ble_eq_true rfl, Nat.le_of_ble_eq_true rfl⟩) hP hD hS hA [2] [0, 1] rfl rfl (by decide) (by decide) (fun r_32 u_32 H locs hw_32 hP hD hS => ?_)
      have hP : va_P G vwCl [(w0, .inl (cy 2, 6, .inl (fun _ => 0))), (w5, .inl (cy 0, 1200, .inl g_3_0)), (h0, .inr (10, [.int 0, .ref w0, .ref w1, .ref w2, .ref w3, .ref w4, .ref w5, .int 0, .ref w6, .int 0, .int 0, .int 0, .int 0, .int 0, .int 0, .int 0, .int 0, .long 0, .int 0, .int 0, .ref w7, .ref w8, .ref w9, .ref w10, .ref w11, .ref w12, .ref w13, .ref w14, .int 1, .int 0, .int 0, .ref w15, .ref w16, .ref w17, .ref w18, .ref w19, .ref w20, .int 0, .ref w21, .ref w22, .ref w23, .ref w24, .ref w25, .ref w26, .ref w27, .ref w28, .ref w29, .ref w30, .ref w31, .ref w32, .ref w33, .ref w34, .ref w35, .ref w36, .ref w37, .int (-1), .int 0, .int 0, .int 0]))] H := hP
      have hD : va_D A [(w0, .inl (cy 2, 6, .inl (fun _ => 0))), (w5, .inl (cy 0, 1200, .inl g_3_0)), (h0, .inr (10, [.int 0, .ref w0, .ref w1, .ref w2, .ref w3, .ref w4, .ref w5, .int 0, .ref w6, .int 0, .int 0, .int 0, .int 0, .int 0, .int 0, .int 0, .int 0, .long 0, .int 0, .int 0, .ref w7, .ref w8, .ref w9, .ref w10, .ref w11, .ref w12, .ref w13, .ref w14, .int 1, .int 0, .int 0, .ref w15, .ref w16, .ref w17, .ref w18, .ref w19, .ref w20, .int 0, .ref w21, .ref w22, .ref w23, .ref w24, .ref w25, .ref w26, .ref w27, .ref w28, .ref w29, .ref w30, .ref w31, .ref w32, .ref w33, .ref w34, .ref w35, .ref w36, .ref w37, .int (-1), .int 0, .int 0, .int 0]))] := hD
      obtain rfl := hw_32
      refine va_iast hx hb hK hP hD hS 1 0 rfl rfl (vp_in_nI (by omega) (by decide)) dX10_rights_138 (fun H locs hP hD hS => ?_)
      obtain ⟨f_33, ef_33⟩ : ∃ g : Nat → Int32, g = upd g_3_0 (nI (0 + i_3) : Int32).toNatClampNeg (-1) := ⟨_, rfl⟩
      have hP : va_P G vwCl [(w0, .inl (cy 2, 6, .inl (fun _ => 0))), (w5, .inl (cy 0, 1200, .inl f_33)), (h0, .inr (10, [.int 0, .ref w0, .ref w1, .ref w2, .ref w3, .ref w4, .ref w5, .int 0, .ref w6, .int 0, .int 0, .int 0, .int 0, .int 0, .int 0, .int 0, .int 0, .long 0, .int 0, .int 0, .ref w7, .ref w8, .ref w9, .ref w10, .ref w11, .ref w12, .ref w13, .ref w14, .int 1, .int 0, .int 0, .ref w15, .ref w16, .ref w17, .ref w18, .ref w19, .ref w20, .int 0, .ref w21, .ref w22, .ref w23, .ref w24, .ref w25, .ref w26, .ref w27, .ref w28, .ref w29, .ref w30, .ref w31, .ref w32, .ref w33, .ref w34, .ref w35, .ref w36, .ref w37, .int (-1), .int 0, .int 0, .int 0]))] H := ef_33 ▸ hP
      have hD : va_D A [(w0, .inl (cy 2, 6, .inl (fun _ => 0))), (w5, .inl (cy 0, 1200, .inl f_33)), (h0, .inr (10, [.int 0, .ref w0, .ref w1, .ref w2, .ref w3, .ref w4, .ref w5, .int 0, .ref w6, .int 0, .int 0, .int 0, .int 0, .int 0, .int 0, .int 0, .int 0, .long 0, .int 0, .int 0, .ref w7, .ref w8, .ref w9, .ref w10, .ref w11, .ref w12, .ref w13, .ref w14, .int 1, .int 0, .int 0, .ref w15, .ref w16, .ref w17, .ref w18, .ref w19, .ref w20, .int 0, .ref w21, .ref w22, .ref w23, .ref w24, .ref w25, .ref w26, .ref w27, .ref w28, .ref w29, .ref w30, .ref w31, .ref w32, .ref w33, .ref w34, .ref w35, .ref w36, .ref w37, .int (-1), .int 0, .int 0, .int 0]))] := ef_33 ▸ hD
      refine lv_iinc (v := (nI (i_3 + 1))) (lv' := [(4, .int (nI (i_3 + 1))), (3, .int 0), (2, .int 1), (1, .int 0), (0, .ref h0)]) hx hb dX10_rights_139 hl (k := 0) rfl (nI_add i_3 1) (by decide) rfl (fun ls hl => ?_)
      refine lv_goto (tgt := 111) hx hb dX10_rights_142 (by decide) ?_
      exact ih (i_3 + 1) (by omega) f_33 H _ ls (fun j hj => by rw [ef_33]; exact gz_updc hg_3_0 j hj) hP hD hS (lv_sub hl [0, 1, 2, 3, 4] rfl)
  exact lp_3 200 0 (by omega) (fun _ => (-1)) H _ ls (fun j hj => rfl) hP hD hS hl
