theorem gm_12 : (Jvm.Cond.initialized "WellCourtModel") ∈ gz_T := gz_at 12 (by decide +kernel) rfl
theorem gm_901 : (Jvm.Cond.fieldLink "WellCourtModel" (1 : Nat) "WellCourtModel" "thrown" "I") ∈ gz_T := gz_at 901 (by decide +kernel) rfl
theorem gm_902 : (Jvm.Cond.fieldLink "WellCourtModel" (13 : Nat) "WellCourtModel" "isWell" "[Z") ∈ gz_T := gz_at 902 (by decide +kernel) rfl
theorem gm_903 : (Jvm.Cond.fieldLink "WellCourtModel" (17 : Nat) "WellCourtModel" "cap" "[I") ∈ gz_T := gz_at 903 (by decide +kernel) rfl
theorem gm_904 : (Jvm.Cond.fieldLink "WellCourtModel" (21 : Nat) "WellCourtModel" "rate" "[I") ∈ gz_T := gz_at 904 (by decide +kernel) rfl
theorem gm_905 : (Jvm.Cond.fieldLink "WellCourtModel" (24 : Nat) "WellCourtModel" "level" "[I") ∈ gz_T := gz_at 905 (by decide +kernel) rfl
theorem gm_906 : (Jvm.Cond.fieldLink "WellCourtModel" (27 : Nat) "WellCourtModel" "morning" "[I") ∈ gz_T := gz_at 906 (by decide +kernel) rfl
theorem gm_909 : (Jvm.Cond.fieldLink "WellCourtModel" (33 : Nat) "WellCourtModel" "tape" "[B") ∈ gz_T := gz_at 909 (by decide +kernel) rfl
theorem gm_910 : (Jvm.Cond.fieldLink "WellCourtModel" (133 : Nat) "WellCourtModel" "length" "I") ∈ gz_T := gz_at 910 (by decide +kernel) rfl
theorem gm_911 : (Jvm.Cond.fieldLink "WellCourtModel" (143 : Nat) "WellCourtModel" "size" "I") ∈ gz_T := gz_at 911 (by decide +kernel) rfl
theorem gm_912 : (Jvm.Cond.fieldLink "WellCourtModel" (140 : Nat) "WellCourtModel" "p" "I") ∈ gz_T := gz_at 912 (by decide +kernel) rfl
theorem gm_913 : (Jvm.Cond.fieldLink "WellCourtModel" (153 : Nat) "WellCourtModel" "token" "I") ∈ gz_T := gz_at 913 (by decide +kernel) rfl
theorem gm_914 : (Jvm.Cond.fieldLink "WellCourtModel" (150 : Nat) "WellCourtModel" "at" "I") ∈ gz_T := gz_at 914 (by decide +kernel) rfl
theorem gm_915 : (Jvm.Cond.fieldLink "WellCourtModel" (167 : Nat) "WellCourtModel" "number" "I") ∈ gz_T := gz_at 915 (by decide +kernel) rfl
theorem gm_918 : (Jvm.Cond.fieldLink "WellCourtModel" (163 : Nat) "WellCourtModel" "word" "J") ∈ gz_T := gz_at 918 (by decide +kernel) rfl
theorem gm_1088 : (Jvm.Cond.methodLink "WellCourtModel" (136 : Nat) ({ cls := "WellCourtModel", name := "four", desc := "(I)V" } : Jvm.MethodName)) ∈ gz_T := gz_at 1088 (by decide +kernel) rfl
theorem gm_1090 : (Jvm.Cond.instanceMethod ({ cls := "WellCourtModel", name := "four", desc := "(I)V" } : Jvm.MethodName)) ∈ gz_T := gz_at 1090 (by decide +kernel) rfl
theorem gm_1091 : (Jvm.Cond.code ({ cls := "WellCourtModel", name := "four", desc := "(I)V" } : Jvm.MethodName) prog_12_method_6_code (3 : Nat) (Option.none : Option Jvm.ClassFile.FieldType)) ∈ gz_T := gz_at 1091 (by decide +kernel) rfl
theorem gm_1104 : (Jvm.Cond.methodLink "WellCourtModel" (146 : Nat) ({ cls := "WellCourtModel", name := "peek", desc := "()I" } : Jvm.MethodName)) ∈ gz_T := gz_at 1104 (by decide +kernel) rfl
theorem gm_1106 : (Jvm.Cond.instanceMethod ({ cls := "WellCourtModel", name := "peek", desc := "()I" } : Jvm.MethodName)) ∈ gz_T := gz_at 1106 (by decide +kernel) rfl
theorem gm_1107 : (Jvm.Cond.code ({ cls := "WellCourtModel", name := "peek", desc := "()I" } : Jvm.MethodName) prog_12_method_8_code (1 : Nat) (Option.some Jvm.ClassFile.FieldType.int)) ∈ gz_T := gz_at 1107 (by decide +kernel) rfl
theorem gm_1108 : (Jvm.Cond.methodLink "WellCourtModel" (156 : Nat) ({ cls := "WellCourtModel", name := "isSmall", desc := "(I)Z" } : Jvm.MethodName)) ∈ gz_T := gz_at 1108 (by decide +kernel) rfl
theorem gm_1109 : (Jvm.Cond.static ({ cls := "WellCourtModel", name := "isSmall", desc := "(I)Z" } : Jvm.MethodName)) ∈ gz_T := gz_at 1109 (by decide +kernel) rfl
theorem gm_1110 : (Jvm.Cond.code ({ cls := "WellCourtModel", name := "isSmall", desc := "(I)Z" } : Jvm.MethodName) prog_12_method_9_code (1 : Nat) (Option.some Jvm.ClassFile.FieldType.boolean)) ∈ gz_T := gz_at 1110 (by decide +kernel) rfl
theorem gm_1111 : (Jvm.Cond.methodLink "WellCourtModel" (160 : Nat) ({ cls := "WellCourtModel", name := "isDigit", desc := "(I)Z" } : Jvm.MethodName)) ∈ gz_T := gz_at 1111 (by decide +kernel) rfl
theorem gm_1112 : (Jvm.Cond.static ({ cls := "WellCourtModel", name := "isDigit", desc := "(I)Z" } : Jvm.MethodName)) ∈ gz_T := gz_at 1112 (by decide +kernel) rfl
theorem gm_1113 : (Jvm.Cond.code ({ cls := "WellCourtModel", name := "isDigit", desc := "(I)Z" } : Jvm.MethodName) prog_12_method_10_code (1 : Nat) (Option.some Jvm.ClassFile.FieldType.boolean)) ∈ gz_T := gz_at 1113 (by decide +kernel) rfl
theorem gs_31 : (Jvm.Cond.selects "WellCourtModel" ({ cls := "WellCourtModel", name := "four", desc := "(I)V" } : Jvm.MethodName) ({ cls := "WellCourtModel", name := "four", desc := "(I)V" } : Jvm.MethodName)) ∈ gz_T := gz_sel 31 (by decide +kernel) rfl
theorem gs_33 : (Jvm.Cond.selects "WellCourtModel" ({ cls := "WellCourtModel", name := "peek", desc := "()I" } : Jvm.MethodName) ({ cls := "WellCourtModel", name := "peek", desc := "()I" } : Jvm.MethodName)) ∈ gz_T := gz_sel 33 (by decide +kernel) rfl
theorem inX10 : ∀ w ∈ u_ws RX10 TX10 59, w ∈ gz_T := gz_inX [960, 962, 964, 966, 968, 970, 972, 974, 976, 978, 980, 982, 984, 986, 988, 990, 992, 994, 996, 998, 1000, 1002, 1004, 1006, 1008, 1010, 1012, 1014, 1016, 1018, 1020, 1022, 1024, 1026, 1028, 1030, 1032, 1034, 1036, 1038, 1040, 1042, 1044, 1046, 1048, 1050, 1052, 1054, 1056, 1058, 1060, 1062, 1064, 1066, 1068, 1070, 1072, 1074, 1076] (by decide +kernel) (by decide +kernel)
theorem dX10_end_0 : decode cX10_end 0 = .ok (.aload_n 0, 1) := by decide +kernel
theorem dX10_end_1 : decode cX10_end 1 = .ok (.iconst 0, 1) := by decide +kernel
theorem dX10_end_2 : decode cX10_end 2 = .ok (.putfield 1, 3) := by decide +kernel
theorem dX10_end_5 : decode cX10_end 5 = .ok (.iload_n 1, 1) := by decide +kernel
theorem dX10_end_6 : decode cX10_end 6 = .ok (.ifCond .lt 11, 3) := by decide +kernel
theorem dX10_end_9 : decode cX10_end 9 = .ok (.iload_n 1, 1) := by decide +kernel
theorem dX10_end_10 : decode cX10_end 10 = .ok (.aload_n 0, 1) := by decide +kernel
theorem dX10_end_11 : decode cX10_end 11 = .ok (.getfield 133, 3) := by decide +kernel
theorem dX10_end_14 : decode cX10_end 14 = .ok (.if_icmp .le 5, 3) := by decide +kernel
theorem dX10_end_17 : decode cX10_end 17 = .ok (.iconst 0, 1) := by decide +kernel
theorem dX10_end_18 : decode cX10_end 18 = .ok (.ireturn, 1) := by decide +kernel
theorem dX10_end_19 : decode cX10_end 19 = .ok (.aload_n 0, 1) := by decide +kernel
theorem dX10_end_20 : decode cX10_end 20 = .ok (.iload_n 1, 1) := by decide +kernel
theorem dX10_end_21 : decode cX10_end 21 = .ok (.putfield 133, 3) := by decide +kernel
theorem dX10_end_24 : decode cX10_end 24 = .ok (.iconst 1, 1) := by decide +kernel
theorem dX10_end_25 : decode cX10_end 25 = .ok (.ireturn, 1) := by decide +kernel
theorem dX10_feed_0 : decode cX10_feed 0 = .ok (.aload_n 0, 1) := by decide +kernel
theorem dX10_feed_1 : decode cX10_feed 1 = .ok (.iconst 0, 1) := by decide +kernel
theorem dX10_feed_2 : decode cX10_feed 2 = .ok (.putfield 1, 3) := by decide +kernel
theorem dX10_feed_5 : decode cX10_feed 5 = .ok (.aload_n 0, 1) := by decide +kernel
theorem dX10_feed_6 : decode cX10_feed 6 = .ok (.getfield 133, 3) := by decide +kernel
theorem dX10_feed_9 : decode cX10_feed 9 = .ok (.bipush 20, 2) := by decide +kernel
theorem dX10_feed_11 : decode cX10_feed 11 = .ok (.iadd, 1) := by decide +kernel
theorem dX10_feed_12 : decode cX10_feed 12 = .ok (.sipush 800, 3) := by decide +kernel
theorem dX10_feed_15 : decode cX10_feed 15 = .ok (.if_icmp .le 5, 3) := by decide +kernel
theorem dX10_feed_18 : decode cX10_feed 18 = .ok (.iconst (-1), 1) := by decide +kernel
theorem dX10_feed_19 : decode cX10_feed 19 = .ok (.ireturn, 1) := by decide +kernel
theorem dX10_feed_20 : decode cX10_feed 20 = .ok (.aload_n 0, 1) := by decide +kernel
theorem dX10_feed_21 : decode cX10_feed 21 = .ok (.iload_n 1, 1) := by decide +kernel
theorem dX10_feed_22 : decode cX10_feed 22 = .ok (.invokevirtual 136, 3) := by decide +kernel
theorem dX10_feed_25 : decode cX10_feed 25 = .ok (.aload_n 0, 1) := by decide +kernel
theorem dX10_feed_26 : decode cX10_feed 26 = .ok (.iload_n 2, 1) := by decide +kernel
theorem dX10_feed_27 : decode cX10_feed 27 = .ok (.invokevirtual 136, 3) := by decide +kernel
theorem dX10_feed_30 : decode cX10_feed 30 = .ok (.aload_n 0, 1) := by decide +kernel
theorem dX10_feed_31 : decode cX10_feed 31 = .ok (.iload_n 3, 1) := by decide +kernel
theorem dX10_feed_32 : decode cX10_feed 32 = .ok (.invokevirtual 136, 3) := by decide +kernel
theorem dX10_feed_35 : decode cX10_feed 35 = .ok (.aload_n 0, 1) := by decide +kernel
theorem dX10_feed_36 : decode cX10_feed 36 = .ok (.iload 4, 2) := by decide +kernel
theorem dX10_feed_38 : decode cX10_feed 38 = .ok (.invokevirtual 136, 3) := by decide +kernel
theorem dX10_feed_41 : decode cX10_feed 41 = .ok (.aload_n 0, 1) := by decide +kernel
theorem dX10_feed_42 : decode cX10_feed 42 = .ok (.iload 5, 2) := by decide +kernel
theorem dX10_feed_44 : decode cX10_feed 44 = .ok (.invokevirtual 136, 3) := by decide +kernel
theorem dX10_feed_47 : decode cX10_feed 47 = .ok (.aload_n 0, 1) := by decide +kernel
theorem dX10_feed_48 : decode cX10_feed 48 = .ok (.getfield 133, 3) := by decide +kernel
theorem dX10_feed_51 : decode cX10_feed 51 = .ok (.ireturn, 1) := by decide +kernel
theorem dX10_four_0 : decode cX10_four 0 = .ok (.bipush 24, 2) := by decide +kernel
theorem dX10_four_2 : decode cX10_four 2 = .ok (.istore_n 2, 1) := by decide +kernel
theorem dX10_four_3 : decode cX10_four 3 = .ok (.iload_n 2, 1) := by decide +kernel
theorem dX10_four_4 : decode cX10_four 4 = .ok (.ifCond .lt 32, 3) := by decide +kernel
theorem dX10_four_7 : decode cX10_four 7 = .ok (.aload_n 0, 1) := by decide +kernel
theorem dX10_four_8 : decode cX10_four 8 = .ok (.getfield 33, 3) := by decide +kernel
theorem dX10_four_11 : decode cX10_four 11 = .ok (.aload_n 0, 1) := by decide +kernel
theorem dX10_four_12 : decode cX10_four 12 = .ok (.getfield 133, 3) := by decide +kernel
theorem dX10_four_15 : decode cX10_four 15 = .ok (.iload_n 1, 1) := by decide +kernel
theorem dX10_four_16 : decode cX10_four 16 = .ok (.iload_n 2, 1) := by decide +kernel
theorem dX10_four_17 : decode cX10_four 17 = .ok (.ishr, 1) := by decide +kernel
theorem dX10_four_18 : decode cX10_four 18 = .ok (.i2b, 1) := by decide +kernel
theorem dX10_four_19 : decode cX10_four 19 = .ok (.bastore, 1) := by decide +kernel
theorem dX10_four_20 : decode cX10_four 20 = .ok (.aload_n 0, 1) := by decide +kernel
theorem dX10_four_21 : decode cX10_four 21 = .ok (.dup, 1) := by decide +kernel
theorem dX10_four_22 : decode cX10_four 22 = .ok (.getfield 133, 3) := by decide +kernel
theorem dX10_four_25 : decode cX10_four 25 = .ok (.iconst 1, 1) := by decide +kernel
theorem dX10_four_26 : decode cX10_four 26 = .ok (.iadd, 1) := by decide +kernel
theorem dX10_four_27 : decode cX10_four 27 = .ok (.putfield 133, 3) := by decide +kernel
theorem dX10_four_30 : decode cX10_four 30 = .ok (.iinc 2 (-8), 3) := by decide +kernel
theorem dX10_four_33 : decode cX10_four 33 = .ok (.goto (-30), 3) := by decide +kernel
theorem dX10_four_36 : decode cX10_four 36 = .ok (.return_, 1) := by decide +kernel
theorem dX10_hasWell_0 : decode cX10_hasWell 0 = .ok (.iload_n 1, 1) := by decide +kernel
theorem dX10_hasWell_1 : decode cX10_hasWell 1 = .ok (.ifCond .lt 22, 3) := by decide +kernel
theorem dX10_hasWell_4 : decode cX10_hasWell 4 = .ok (.iload_n 1, 1) := by decide +kernel
theorem dX10_hasWell_5 : decode cX10_hasWell 5 = .ok (.bipush 6, 2) := by decide +kernel
theorem dX10_hasWell_7 : decode cX10_hasWell 7 = .ok (.if_icmp .ge 16, 3) := by decide +kernel
theorem dX10_hasWell_10 : decode cX10_hasWell 10 = .ok (.aload_n 0, 1) := by decide +kernel
theorem dX10_hasWell_11 : decode cX10_hasWell 11 = .ok (.getfield 13, 3) := by decide +kernel
theorem dX10_hasWell_14 : decode cX10_hasWell 14 = .ok (.iload_n 1, 1) := by decide +kernel
theorem dX10_hasWell_15 : decode cX10_hasWell 15 = .ok (.baload, 1) := by decide +kernel
theorem dX10_hasWell_16 : decode cX10_hasWell 16 = .ok (.ifCond .eq 7, 3) := by decide +kernel
theorem dX10_hasWell_19 : decode cX10_hasWell 19 = .ok (.iconst 1, 1) := by decide +kernel
theorem dX10_hasWell_20 : decode cX10_hasWell 20 = .ok (.goto 4, 3) := by decide +kernel
theorem dX10_hasWell_23 : decode cX10_hasWell 23 = .ok (.iconst 0, 1) := by decide +kernel
theorem dX10_hasWell_24 : decode cX10_hasWell 24 = .ok (.ireturn, 1) := by decide +kernel
theorem dX10_isDigit_0 : decode cX10_isDigit 0 = .ok (.iload_n 0, 1) := by decide +kernel
theorem dX10_isDigit_1 : decode cX10_isDigit 1 = .ok (.bipush 48, 2) := by decide +kernel
theorem dX10_isDigit_3 : decode cX10_isDigit 3 = .ok (.if_icmp .lt 13, 3) := by decide +kernel
theorem dX10_isDigit_6 : decode cX10_isDigit 6 = .ok (.iload_n 0, 1) := by decide +kernel
theorem dX10_isDigit_7 : decode cX10_isDigit 7 = .ok (.bipush 57, 2) := by decide +kernel
theorem dX10_isDigit_9 : decode cX10_isDigit 9 = .ok (.if_icmp .gt 7, 3) := by decide +kernel
theorem dX10_isDigit_12 : decode cX10_isDigit 12 = .ok (.iconst 1, 1) := by decide +kernel
theorem dX10_isDigit_13 : decode cX10_isDigit 13 = .ok (.goto 4, 3) := by decide +kernel
theorem dX10_isDigit_16 : decode cX10_isDigit 16 = .ok (.iconst 0, 1) := by decide +kernel
theorem dX10_isDigit_17 : decode cX10_isDigit 17 = .ok (.ireturn, 1) := by decide +kernel
theorem dX10_isSmall_0 : decode cX10_isSmall 0 = .ok (.iload_n 0, 1) := by decide +kernel
theorem dX10_isSmall_1 : decode cX10_isSmall 1 = .ok (.bipush 97, 2) := by decide +kernel
theorem dX10_isSmall_3 : decode cX10_isSmall 3 = .ok (.if_icmp .lt 13, 3) := by decide +kernel
theorem dX10_isSmall_6 : decode cX10_isSmall 6 = .ok (.iload_n 0, 1) := by decide +kernel
theorem dX10_isSmall_7 : decode cX10_isSmall 7 = .ok (.bipush 122, 2) := by decide +kernel
theorem dX10_isSmall_9 : decode cX10_isSmall 9 = .ok (.if_icmp .gt 7, 3) := by decide +kernel
theorem dX10_isSmall_12 : decode cX10_isSmall 12 = .ok (.iconst 1, 1) := by decide +kernel
theorem dX10_isSmall_13 : decode cX10_isSmall 13 = .ok (.goto 4, 3) := by decide +kernel
theorem dX10_isSmall_16 : decode cX10_isSmall 16 = .ok (.iconst 0, 1) := by decide +kernel
theorem dX10_isSmall_17 : decode cX10_isSmall 17 = .ok (.ireturn, 1) := by decide +kernel
theorem dX10_next0_0 : decode cX10_next0 0 = .ok (.aload_n 0, 1) := by decide +kernel
theorem dX10_next0_1 : decode cX10_next0 1 = .ok (.invokevirtual 146, 3) := by decide +kernel
theorem dX10_next0_4 : decode cX10_next0 4 = .ok (.bipush 32, 2) := by decide +kernel
theorem dX10_next0_6 : decode cX10_next0 6 = .ok (.if_icmp .eq 12, 3) := by decide +kernel
theorem dX10_next0_9 : decode cX10_next0 9 = .ok (.aload_n 0, 1) := by decide +kernel
theorem dX10_next0_10 : decode cX10_next0 10 = .ok (.invokevirtual 146, 3) := by decide +kernel
theorem dX10_next0_13 : decode cX10_next0 13 = .ok (.bipush 10, 2) := by decide +kernel
theorem dX10_next0_15 : decode cX10_next0 15 = .ok (.if_icmp .ne 16, 3) := by decide +kernel
theorem dX10_next0_18 : decode cX10_next0 18 = .ok (.aload_n 0, 1) := by decide +kernel
theorem dX10_next0_19 : decode cX10_next0 19 = .ok (.dup, 1) := by decide +kernel
theorem dX10_next0_20 : decode cX10_next0 20 = .ok (.getfield 140, 3) := by decide +kernel
theorem dX10_next0_23 : decode cX10_next0 23 = .ok (.iconst 1, 1) := by decide +kernel
theorem dX10_next0_24 : decode cX10_next0 24 = .ok (.iadd, 1) := by decide +kernel
theorem dX10_next0_25 : decode cX10_next0 25 = .ok (.putfield 140, 3) := by decide +kernel
theorem dX10_next0_28 : decode cX10_next0 28 = .ok (.goto (-28), 3) := by decide +kernel
theorem dX10_next0_31 : decode cX10_next0 31 = .ok (.aload_n 0, 1) := by decide +kernel
theorem dX10_next0_32 : decode cX10_next0 32 = .ok (.aload_n 0, 1) := by decide +kernel
theorem dX10_next0_33 : decode cX10_next0 33 = .ok (.getfield 140, 3) := by decide +kernel
theorem dX10_next0_36 : decode cX10_next0 36 = .ok (.putfield 150, 3) := by decide +kernel
theorem dX10_next0_39 : decode cX10_next0 39 = .ok (.aload_n 0, 1) := by decide +kernel
theorem dX10_next0_40 : decode cX10_next0 40 = .ok (.invokevirtual 146, 3) := by decide +kernel
theorem dX10_next0_43 : decode cX10_next0 43 = .ok (.istore_n 1, 1) := by decide +kernel
theorem dX10_next0_44 : decode cX10_next0 44 = .ok (.iload_n 1, 1) := by decide +kernel
theorem dX10_next0_45 : decode cX10_next0 45 = .ok (.ifCond .ge 11, 3) := by decide +kernel
theorem dX10_next0_48 : decode cX10_next0 48 = .ok (.aload_n 0, 1) := by decide +kernel
theorem dX10_next0_49 : decode cX10_next0 49 = .ok (.iconst 0, 1) := by decide +kernel
theorem dX10_next0_50 : decode cX10_next0 50 = .ok (.putfield 153, 3) := by decide +kernel
theorem dX10_next0_53 : decode cX10_next0 53 = .ok (.goto 235, 3) := by decide +kernel
theorem dX10_next0_56 : decode cX10_next0 56 = .ok (.iload_n 1, 1) := by decide +kernel
theorem dX10_next0_57 : decode cX10_next0 57 = .ok (.invokestatic 156, 3) := by decide +kernel
theorem dX10_next0_60 : decode cX10_next0 60 = .ok (.ifCond .ne 10, 3) := by decide +kernel
theorem dX10_next0_63 : decode cX10_next0 63 = .ok (.iload_n 1, 1) := by decide +kernel
theorem dX10_next0_64 : decode cX10_next0 64 = .ok (.invokestatic 160, 3) := by decide +kernel
theorem dX10_next0_67 : decode cX10_next0 67 = .ok (.ifCond .eq 179, 3) := by decide +kernel
theorem dX10_next0_70 : decode cX10_next0 70 = .ok (.iload_n 1, 1) := by decide +kernel
theorem dX10_next0_71 : decode cX10_next0 71 = .ok (.invokestatic 156, 3) := by decide +kernel
theorem dX10_next0_74 : decode cX10_next0 74 = .ok (.istore_n 2, 1) := by decide +kernel
theorem dX10_next0_75 : decode cX10_next0 75 = .ok (.iconst 1, 1) := by decide +kernel
theorem dX10_next0_76 : decode cX10_next0 76 = .ok (.istore_n 3, 1) := by decide +kernel
theorem dX10_next0_77 : decode cX10_next0 77 = .ok (.iconst 0, 1) := by decide +kernel
theorem dX10_next0_78 : decode cX10_next0 78 = .ok (.istore 4, 2) := by decide +kernel
theorem dX10_next0_80 : decode cX10_next0 80 = .ok (.aload_n 0, 1) := by decide +kernel
theorem dX10_next0_81 : decode cX10_next0 81 = .ok (.lconst 0, 1) := by decide +kernel
theorem dX10_next0_82 : decode cX10_next0 82 = .ok (.putfield 163, 3) := by decide +kernel
theorem dX10_next0_85 : decode cX10_next0 85 = .ok (.aload_n 0, 1) := by decide +kernel
theorem dX10_next0_86 : decode cX10_next0 86 = .ok (.iconst 0, 1) := by decide +kernel
theorem dX10_next0_87 : decode cX10_next0 87 = .ok (.putfield 167, 3) := by decide +kernel
theorem dX10_next0_90 : decode cX10_next0 90 = .ok (.aload_n 0, 1) := by decide +kernel
theorem dX10_next0_91 : decode cX10_next0 91 = .ok (.invokevirtual 146, 3) := by decide +kernel
theorem dX10_next0_94 : decode cX10_next0 94 = .ok (.invokestatic 156, 3) := by decide +kernel
theorem dX10_next0_97 : decode cX10_next0 97 = .ok (.ifCond .ne 13, 3) := by decide +kernel
theorem dX10_next0_100 : decode cX10_next0 100 = .ok (.aload_n 0, 1) := by decide +kernel
theorem dX10_next0_101 : decode cX10_next0 101 = .ok (.invokevirtual 146, 3) := by decide +kernel
theorem dX10_next0_104 : decode cX10_next0 104 = .ok (.invokestatic 160, 3) := by decide +kernel
theorem dX10_next0_107 : decode cX10_next0 107 = .ok (.ifCond .eq 93, 3) := by decide +kernel
theorem dX10_next0_110 : decode cX10_next0 110 = .ok (.iload_n 3, 1) := by decide +kernel
theorem dX10_next0_111 : decode cX10_next0 111 = .ok (.ifCond .eq 18, 3) := by decide +kernel
theorem dX10_next0_114 : decode cX10_next0 114 = .ok (.aload_n 0, 1) := by decide +kernel
theorem dX10_next0_115 : decode cX10_next0 115 = .ok (.invokevirtual 146, 3) := by decide +kernel
theorem dX10_next0_118 : decode cX10_next0 118 = .ok (.invokestatic 156, 3) := by decide +kernel
theorem dX10_next0_121 : decode cX10_next0 121 = .ok (.iload_n 2, 1) := by decide +kernel
theorem dX10_next0_122 : decode cX10_next0 122 = .ok (.if_icmp .ne 7, 3) := by decide +kernel
theorem dX10_next0_125 : decode cX10_next0 125 = .ok (.iconst 1, 1) := by decide +kernel
theorem dX10_next0_126 : decode cX10_next0 126 = .ok (.goto 4, 3) := by decide +kernel
theorem dX10_next0_129 : decode cX10_next0 129 = .ok (.iconst 0, 1) := by decide +kernel
theorem dX10_next0_130 : decode cX10_next0 130 = .ok (.istore_n 3, 1) := by decide +kernel
theorem dX10_next0_131 : decode cX10_next0 131 = .ok (.aload_n 0, 1) := by decide +kernel
theorem dX10_next0_132 : decode cX10_next0 132 = .ok (.iload 4, 2) := by decide +kernel
theorem dX10_next0_134 : decode cX10_next0 134 = .ok (.bipush 8, 2) := by decide +kernel
theorem dX10_next0_136 : decode cX10_next0 136 = .ok (.if_icmp .ge 19, 3) := by decide +kernel
theorem dX10_next0_139 : decode cX10_next0 139 = .ok (.aload_n 0, 1) := by decide +kernel
theorem dX10_next0_140 : decode cX10_next0 140 = .ok (.getfield 163, 3) := by decide +kernel
theorem dX10_next0_143 : decode cX10_next0 143 = .ok (.bipush 8, 2) := by decide +kernel
theorem dX10_next0_145 : decode cX10_next0 145 = .ok (.lshl, 1) := by decide +kernel
theorem dX10_next0_146 : decode cX10_next0 146 = .ok (.aload_n 0, 1) := by decide +kernel
theorem dX10_next0_147 : decode cX10_next0 147 = .ok (.invokevirtual 146, 3) := by decide +kernel
theorem dX10_next0_150 : decode cX10_next0 150 = .ok (.i2l, 1) := by decide +kernel
theorem dX10_next0_151 : decode cX10_next0 151 = .ok (.lor, 1) := by decide +kernel
theorem dX10_next0_152 : decode cX10_next0 152 = .ok (.goto 4, 3) := by decide +kernel
theorem dX10_next0_155 : decode cX10_next0 155 = .ok (.lconst 0, 1) := by decide +kernel
theorem dX10_next0_156 : decode cX10_next0 156 = .ok (.putfield 163, 3) := by decide +kernel
theorem dX10_next0_159 : decode cX10_next0 159 = .ok (.iload 4, 2) := by decide +kernel
theorem dX10_next0_161 : decode cX10_next0 161 = .ok (.iconst 4, 1) := by decide +kernel
theorem dX10_next0_162 : decode cX10_next0 162 = .ok (.if_icmp .ge 22, 3) := by decide +kernel
theorem dX10_next0_165 : decode cX10_next0 165 = .ok (.aload_n 0, 1) := by decide +kernel
theorem dX10_next0_166 : decode cX10_next0 166 = .ok (.bipush 10, 2) := by decide +kernel
theorem dX10_next0_168 : decode cX10_next0 168 = .ok (.aload_n 0, 1) := by decide +kernel
theorem dX10_next0_169 : decode cX10_next0 169 = .ok (.getfield 167, 3) := by decide +kernel
theorem dX10_next0_172 : decode cX10_next0 172 = .ok (.imul, 1) := by decide +kernel
theorem dX10_next0_173 : decode cX10_next0 173 = .ok (.aload_n 0, 1) := by decide +kernel
theorem dX10_next0_174 : decode cX10_next0 174 = .ok (.invokevirtual 146, 3) := by decide +kernel
theorem dX10_next0_177 : decode cX10_next0 177 = .ok (.iadd, 1) := by decide +kernel
theorem dX10_next0_178 : decode cX10_next0 178 = .ok (.bipush 48, 2) := by decide +kernel
theorem dX10_next0_180 : decode cX10_next0 180 = .ok (.isub, 1) := by decide +kernel
theorem dX10_next0_181 : decode cX10_next0 181 = .ok (.putfield 167, 3) := by decide +kernel
theorem dX10_next0_184 : decode cX10_next0 184 = .ok (.iinc 4 1, 3) := by decide +kernel
theorem dX10_next0_187 : decode cX10_next0 187 = .ok (.aload_n 0, 1) := by decide +kernel
theorem dX10_next0_188 : decode cX10_next0 188 = .ok (.dup, 1) := by decide +kernel
theorem dX10_next0_189 : decode cX10_next0 189 = .ok (.getfield 140, 3) := by decide +kernel
theorem dX10_next0_192 : decode cX10_next0 192 = .ok (.iconst 1, 1) := by decide +kernel
theorem dX10_next0_193 : decode cX10_next0 193 = .ok (.iadd, 1) := by decide +kernel
theorem dX10_next0_194 : decode cX10_next0 194 = .ok (.putfield 140, 3) := by decide +kernel
theorem dX10_next0_197 : decode cX10_next0 197 = .ok (.goto (-107), 3) := by decide +kernel
theorem dX10_next0_200 : decode cX10_next0 200 = .ok (.iload 4, 2) := by decide +kernel
theorem dX10_next0_202 : decode cX10_next0 202 = .ok (.bipush 8, 2) := by decide +kernel
theorem dX10_next0_204 : decode cX10_next0 204 = .ok (.if_icmp .le 8, 3) := by decide +kernel
theorem dX10_next0_207 : decode cX10_next0 207 = .ok (.aload_n 0, 1) := by decide +kernel
theorem dX10_next0_208 : decode cX10_next0 208 = .ok (.lconst 0, 1) := by decide +kernel
theorem dX10_next0_209 : decode cX10_next0 209 = .ok (.putfield 163, 3) := by decide +kernel
theorem dX10_next0_212 : decode cX10_next0 212 = .ok (.aload_n 0, 1) := by decide +kernel
theorem dX10_next0_213 : decode cX10_next0 213 = .ok (.iload_n 3, 1) := by decide +kernel
theorem dX10_next0_214 : decode cX10_next0 214 = .ok (.ifCond .eq 13, 3) := by decide +kernel
theorem dX10_next0_217 : decode cX10_next0 217 = .ok (.iload_n 2, 1) := by decide +kernel
theorem dX10_next0_218 : decode cX10_next0 218 = .ok (.ifCond .ne 13, 3) := by decide +kernel
theorem dX10_next0_221 : decode cX10_next0 221 = .ok (.iload 4, 2) := by decide +kernel
theorem dX10_next0_223 : decode cX10_next0 223 = .ok (.iconst 4, 1) := by decide +kernel
theorem dX10_next0_224 : decode cX10_next0 224 = .ok (.if_icmp .le 7, 3) := by decide +kernel
theorem dX10_next0_227 : decode cX10_next0 227 = .ok (.iconst 4, 1) := by decide +kernel
theorem dX10_next0_228 : decode cX10_next0 228 = .ok (.goto 12, 3) := by decide +kernel
theorem dX10_next0_231 : decode cX10_next0 231 = .ok (.iload_n 2, 1) := by decide +kernel
theorem dX10_next0_232 : decode cX10_next0 232 = .ok (.ifCond .eq 7, 3) := by decide +kernel
theorem dX10_next0_235 : decode cX10_next0 235 = .ok (.iconst 1, 1) := by decide +kernel
theorem dX10_next0_236 : decode cX10_next0 236 = .ok (.goto 4, 3) := by decide +kernel
theorem dX10_next0_239 : decode cX10_next0 239 = .ok (.iconst 2, 1) := by decide +kernel
theorem dX10_next0_240 : decode cX10_next0 240 = .ok (.putfield 153, 3) := by decide +kernel
theorem dX10_next0_243 : decode cX10_next0 243 = .ok (.goto 45, 3) := by decide +kernel
theorem dX10_next0_246 : decode cX10_next0 246 = .ok (.aload_n 0, 1) := by decide +kernel
theorem dX10_next0_247 : decode cX10_next0 247 = .ok (.iload_n 1, 1) := by decide +kernel
theorem dX10_next0_248 : decode cX10_next0 248 = .ok (.bipush 58, 2) := by decide +kernel
theorem dX10_next0_250 : decode cX10_next0 250 = .ok (.if_icmp .eq 15, 3) := by decide +kernel
theorem dX10_next0_253 : decode cX10_next0 253 = .ok (.iload_n 1, 1) := by decide +kernel
theorem dX10_next0_254 : decode cX10_next0 254 = .ok (.bipush 44, 2) := by decide +kernel
theorem dX10_next0_256 : decode cX10_next0 256 = .ok (.if_icmp .eq 9, 3) := by decide +kernel
theorem dX10_next0_259 : decode cX10_next0 259 = .ok (.iload_n 1, 1) := by decide +kernel
theorem dX10_next0_260 : decode cX10_next0 260 = .ok (.bipush 59, 2) := by decide +kernel
theorem dX10_next0_262 : decode cX10_next0 262 = .ok (.if_icmp .ne 7, 3) := by decide +kernel
theorem dX10_next0_265 : decode cX10_next0 265 = .ok (.iconst 3, 1) := by decide +kernel
theorem dX10_next0_266 : decode cX10_next0 266 = .ok (.goto 4, 3) := by decide +kernel
theorem dX10_next0_269 : decode cX10_next0 269 = .ok (.iconst 4, 1) := by decide +kernel
theorem dX10_next0_270 : decode cX10_next0 270 = .ok (.putfield 153, 3) := by decide +kernel
theorem dX10_next0_273 : decode cX10_next0 273 = .ok (.aload_n 0, 1) := by decide +kernel
theorem dX10_next0_274 : decode cX10_next0 274 = .ok (.iload_n 1, 1) := by decide +kernel
theorem dX10_next0_275 : decode cX10_next0 275 = .ok (.putfield 167, 3) := by decide +kernel
theorem dX10_next0_278 : decode cX10_next0 278 = .ok (.aload_n 0, 1) := by decide +kernel
theorem dX10_next0_279 : decode cX10_next0 279 = .ok (.dup, 1) := by decide +kernel
theorem dX10_next0_280 : decode cX10_next0 280 = .ok (.getfield 140, 3) := by decide +kernel
theorem dX10_next0_283 : decode cX10_next0 283 = .ok (.iconst 1, 1) := by decide +kernel
theorem dX10_next0_284 : decode cX10_next0 284 = .ok (.iadd, 1) := by decide +kernel
theorem dX10_next0_285 : decode cX10_next0 285 = .ok (.putfield 140, 3) := by decide +kernel
theorem dX10_next0_288 : decode cX10_next0 288 = .ok (.return_, 1) := by decide +kernel
theorem dX10_peek_0 : decode cX10_peek 0 = .ok (.aload_n 0, 1) := by decide +kernel
theorem dX10_peek_1 : decode cX10_peek 1 = .ok (.getfield 140, 3) := by decide +kernel
theorem dX10_peek_4 : decode cX10_peek 4 = .ok (.aload_n 0, 1) := by decide +kernel
theorem dX10_peek_5 : decode cX10_peek 5 = .ok (.getfield 143, 3) := by decide +kernel
theorem dX10_peek_8 : decode cX10_peek 8 = .ok (.if_icmp .ge 19, 3) := by decide +kernel
theorem dX10_peek_11 : decode cX10_peek 11 = .ok (.aload_n 0, 1) := by decide +kernel
theorem dX10_peek_12 : decode cX10_peek 12 = .ok (.getfield 33, 3) := by decide +kernel
theorem dX10_peek_15 : decode cX10_peek 15 = .ok (.aload_n 0, 1) := by decide +kernel
theorem dX10_peek_16 : decode cX10_peek 16 = .ok (.getfield 140, 3) := by decide +kernel
theorem dX10_peek_19 : decode cX10_peek 19 = .ok (.baload, 1) := by decide +kernel
theorem dX10_peek_20 : decode cX10_peek 20 = .ok (.sipush 255, 3) := by decide +kernel
theorem dX10_peek_23 : decode cX10_peek 23 = .ok (.iand, 1) := by decide +kernel
theorem dX10_peek_24 : decode cX10_peek 24 = .ok (.goto 4, 3) := by decide +kernel
theorem dX10_peek_27 : decode cX10_peek 27 = .ok (.iconst (-1), 1) := by decide +kernel
theorem dX10_peek_28 : decode cX10_peek 28 = .ok (.ireturn, 1) := by decide +kernel
theorem dX10_well_0 : decode cX10_well 0 = .ok (.aload_n 0, 1) := by decide +kernel
theorem dX10_well_1 : decode cX10_well 1 = .ok (.iconst 0, 1) := by decide +kernel
theorem dX10_well_2 : decode cX10_well 2 = .ok (.putfield 1, 3) := by decide +kernel
theorem dX10_well_5 : decode cX10_well 5 = .ok (.iload_n 1, 1) := by decide +kernel
theorem dX10_well_6 : decode cX10_well 6 = .ok (.ifCond .lt 52, 3) := by decide +kernel
theorem dX10_well_9 : decode cX10_well 9 = .ok (.iload_n 1, 1) := by decide +kernel
theorem dX10_well_10 : decode cX10_well 10 = .ok (.bipush 6, 2) := by decide +kernel
theorem dX10_well_12 : decode cX10_well 12 = .ok (.if_icmp .ge 46, 3) := by decide +kernel
theorem dX10_well_15 : decode cX10_well 15 = .ok (.aload_n 0, 1) := by decide +kernel
theorem dX10_well_16 : decode cX10_well 16 = .ok (.getfield 13, 3) := by decide +kernel
theorem dX10_well_19 : decode cX10_well 19 = .ok (.iload_n 1, 1) := by decide +kernel
theorem dX10_well_20 : decode cX10_well 20 = .ok (.baload, 1) := by decide +kernel
theorem dX10_well_21 : decode cX10_well 21 = .ok (.ifCond .ne 37, 3) := by decide +kernel
theorem dX10_well_24 : decode cX10_well 24 = .ok (.iload_n 2, 1) := by decide +kernel
theorem dX10_well_25 : decode cX10_well 25 = .ok (.iconst 1, 1) := by decide +kernel
theorem dX10_well_26 : decode cX10_well 26 = .ok (.if_icmp .lt 32, 3) := by decide +kernel
theorem dX10_well_29 : decode cX10_well 29 = .ok (.iload_n 2, 1) := by decide +kernel
theorem dX10_well_30 : decode cX10_well 30 = .ok (.sipush 1000, 3) := by decide +kernel
theorem dX10_well_33 : decode cX10_well 33 = .ok (.if_icmp .gt 25, 3) := by decide +kernel
theorem dX10_well_36 : decode cX10_well 36 = .ok (.iload_n 3, 1) := by decide +kernel
theorem dX10_well_37 : decode cX10_well 37 = .ok (.ifCond .lt 21, 3) := by decide +kernel
theorem dX10_well_40 : decode cX10_well 40 = .ok (.iload_n 3, 1) := by decide +kernel
theorem dX10_well_41 : decode cX10_well 41 = .ok (.sipush 200, 3) := by decide +kernel
theorem dX10_well_44 : decode cX10_well 44 = .ok (.if_icmp .gt 14, 3) := by decide +kernel
theorem dX10_well_47 : decode cX10_well 47 = .ok (.iload 4, 2) := by decide +kernel
theorem dX10_well_49 : decode cX10_well 49 = .ok (.ifCond .lt 9, 3) := by decide +kernel
theorem dX10_well_52 : decode cX10_well 52 = .ok (.iload 4, 2) := by decide +kernel
theorem dX10_well_54 : decode cX10_well 54 = .ok (.iload_n 2, 1) := by decide +kernel
theorem dX10_well_55 : decode cX10_well 55 = .ok (.if_icmp .le 5, 3) := by decide +kernel
theorem dX10_well_58 : decode cX10_well 58 = .ok (.iconst 0, 1) := by decide +kernel
theorem dX10_well_59 : decode cX10_well 59 = .ok (.ireturn, 1) := by decide +kernel
theorem dX10_well_60 : decode cX10_well 60 = .ok (.aload_n 0, 1) := by decide +kernel
theorem dX10_well_61 : decode cX10_well 61 = .ok (.getfield 13, 3) := by decide +kernel
theorem dX10_well_64 : decode cX10_well 64 = .ok (.iload_n 1, 1) := by decide +kernel
theorem dX10_well_65 : decode cX10_well 65 = .ok (.iconst 1, 1) := by decide +kernel
theorem dX10_well_66 : decode cX10_well 66 = .ok (.bastore, 1) := by decide +kernel
theorem dX10_well_67 : decode cX10_well 67 = .ok (.aload_n 0, 1) := by decide +kernel
theorem dX10_well_68 : decode cX10_well 68 = .ok (.getfield 17, 3) := by decide +kernel
theorem dX10_well_71 : decode cX10_well 71 = .ok (.iload_n 1, 1) := by decide +kernel
theorem dX10_well_72 : decode cX10_well 72 = .ok (.iload_n 2, 1) := by decide +kernel
theorem dX10_well_73 : decode cX10_well 73 = .ok (.iastore, 1) := by decide +kernel
theorem dX10_well_74 : decode cX10_well 74 = .ok (.aload_n 0, 1) := by decide +kernel
theorem dX10_well_75 : decode cX10_well 75 = .ok (.getfield 21, 3) := by decide +kernel
theorem dX10_well_78 : decode cX10_well 78 = .ok (.iload_n 1, 1) := by decide +kernel
theorem dX10_well_79 : decode cX10_well 79 = .ok (.iload_n 3, 1) := by decide +kernel
theorem dX10_well_80 : decode cX10_well 80 = .ok (.iastore, 1) := by decide +kernel
theorem dX10_well_81 : decode cX10_well 81 = .ok (.aload_n 0, 1) := by decide +kernel
theorem dX10_well_82 : decode cX10_well 82 = .ok (.getfield 24, 3) := by decide +kernel
theorem dX10_well_85 : decode cX10_well 85 = .ok (.iload_n 1, 1) := by decide +kernel
theorem dX10_well_86 : decode cX10_well 86 = .ok (.iload 4, 2) := by decide +kernel
theorem dX10_well_88 : decode cX10_well 88 = .ok (.iastore, 1) := by decide +kernel
theorem dX10_well_89 : decode cX10_well 89 = .ok (.aload_n 0, 1) := by decide +kernel
theorem dX10_well_90 : decode cX10_well 90 = .ok (.getfield 27, 3) := by decide +kernel
theorem dX10_well_93 : decode cX10_well 93 = .ok (.iload_n 1, 1) := by decide +kernel
theorem dX10_well_94 : decode cX10_well 94 = .ok (.iload 4, 2) := by decide +kernel
theorem dX10_well_96 : decode cX10_well 96 = .ok (.iastore, 1) := by decide +kernel
theorem dX10_well_97 : decode cX10_well 97 = .ok (.iconst 1, 1) := by decide +kernel
theorem dX10_well_98 : decode cX10_well 98 = .ok (.ireturn, 1) := by decide +kernel
theorem gs_cmp {x : Int32} {a b : Int64} {B : Int} (hb : b.toInt = B) (h : x = lg_cmp a b) : (0 ≤ x.toInt → B ≤ a.toInt) ∧ (x.toInt ≤ 0 → a.toInt ≤ B) := by
  have h0 : (0 : Int32).toInt = 0 := by decide
  refine ⟨fun q => ?_, fun q => ?_⟩
  · have h1 : (0 : Int32) ≤ lg_cmp a b := by rw [← h]; exact Int32.le_iff_toInt_le.mpr (by omega)
    have := Int64.le_iff_toInt_le.mp ((lg_cmp_ge a b).mp h1)
    omega
  · have h1 : lg_cmp a b ≤ (0 : Int32) := by rw [← h]; exact Int32.le_iff_toInt_le.mpr (by omega)
    have := Int64.le_iff_toInt_le.mp ((lg_cmp_le a b).mp h1)
    omega
theorem gs_l2i {a : Int64} {x : Int32} (h : a.toInt32 = x) (h0 : -2147483648 ≤ a.toInt) (h1 : a.toInt < 2147483648) : x.toInt = a.toInt := by
  rw [← h, Int64.toInt_toInt32, Int.bmod_eq_of_le (by omega) (by omega)]
theorem gs_cmp0 {x : Int32} {a b : Int64} (h : x = lg_cmp a b) : x.toInt = 0 ↔ a = b := by
  have h1 := gs_cmp (B := b.toInt) rfl h
  constructor
  · intro q
    exact Int64.toInt_inj.mp (by have := h1.1 (by omega); have := h1.2 (by omega); omega)
  · intro q
    subst q
    have a1 := (lg_cmp_ge a a).mpr (Int64.le_refl a)
    have a2 := (lg_cmp_le a a).mpr (Int64.le_refl a)
    rw [← h] at a1 a2
    have b1 := Int32.le_iff_toInt_le.mp a1
    have b2 := Int32.le_iff_toInt_le.mp a2
    have h0 : (0 : Int32).toInt = 0 := by decide
    omega
theorem gs_cmpS {x : Int32} {a b : Int64} {B : Int} (hb : b.toInt = B) (h : x = lg_cmp a b) : (0 ≤ x.toInt → B ≤ a.toInt) ∧ (x.toInt ≤ 0 → a.toInt ≤ B) ∧ (x.toInt < 0 → a.toInt < B) ∧ (0 < x.toInt → B < a.toInt) := by
  have h1 := gs_cmp hb h
  have h2 := gs_cmp0 h
  have h3 : a.toInt = B → x.toInt = 0 := fun e => h2.mpr (Int64.toInt_inj.mp (e.trans hb.symm))
  refine ⟨h1.1, h1.2, fun q => ?_, fun q => ?_⟩
  · have h4 := h1.2 (by omega)
    rcases Int.lt_or_le a.toInt B with q2 | q2
    · exact q2
    · have := h3 (by omega); omega
  · have h4 := h1.1 (by omega)
    rcases Int.lt_or_le B a.toInt with q2 | q2
    · exact q2
    · have := h3 (by omega); omega
set_option maxHeartbeats 4000000 in
set_option maxRecDepth 100000 in
/-- WellCourtModel.hasWell -/
theorem m_hasWell (l : Launch) (G : va_G) (cy : Nat → ClassId) (sK sV : Nat → Nat) (ad : Nat → Nat → Nat) (sz : Nat) (st : gS) (hB : gBd bM st) (x : Int32) (Xx : Int) (kx : x.toInt = Xx) : gsMi l yX10_hasWell cX10_hasWell 2 (some .boolean) ({ frames := 0, cells := 0, slots := 0, locals := 0 } : Room) G cy sK sV (shM cy ad) cnM ad sz [.ref (ad 0 0), .int x] st (fun (r : Int32) (u : gS) => gBN bM kM [] st u ∧ ((r = 1 ∧ (0 ≤ Xx) ∧ (Xx ≤ 5) ∧ (¬ (st 1 0 x.toNatClampNeg).toInt = 0)) ∨ (r = 0 ∧ (Xx < 0 ∨ 5 < Xx ∨ (st 1 0 x.toNatClampNeg).toInt = 0)))) := by
  refine gs_start (fun A => gsQi G (shM cy ad) cnM ad _ A) (by decide) (Nat.le_of_ble_eq_true rfl) ?_
  intro p e s m below meth c A ls H hx hb hr hml hlocks hown hts hK hov hE hI hM hm hS hA hl
  have hl : lv_has ls 2 [(0, .ref (ad 0 0)), (1, .int x)] := hl
  have hB_st : gBN bM kM [] st st := gBN.rf hB
  refine lv_iload_n hx hb dX10_hasWell_0 rfl (lv_at hl 1 rfl) ?_
  refine lv_if_lt (tgt := 23) hx hb dX10_hasWell_1 (by decide) (fun c_1 => ?_) (fun c_1 => ?_)
  · have ic_1 := gz_lt (rfl : x.toInt = x.toInt) (by decide : (0 : Int32).toInt = 0) c_1
    refine lv_iconst (v := 0) hx hb dX10_hasWell_23 (by decide) ?_
    exact gs_iret hx hb hr hlocks hM hS (by decide) ⟨hB_st, (Or.inr (⟨rfl, (by have hl0 : (0 : Int32).toInt = 0 := (by decide); omega)⟩))⟩ (by exact Nat.le_refl _) (by exact Nat.le_refl _) dX10_hasWell_24
  · have ic_1 := gz_nlt (rfl : x.toInt = x.toInt) (by decide : (0 : Int32).toInt = 0) c_1
    refine lv_iload_n hx hb dX10_hasWell_4 rfl (lv_at hl 1 rfl) ?_
    refine lv_bipush (v := 6) hx hb dX10_hasWell_5 (by decide) ?_
    refine lv_icmp_ge (tgt := 23) hx hb dX10_hasWell_7 (by decide) (fun c_2 => ?_) (fun c_2 => ?_)
    · have ic_2 := gz_le (by decide : (6 : Int32).toInt = 6) (rfl : x.toInt = x.toInt) c_2
      refine lv_iconst (v := 0) hx hb dX10_hasWell_23 (by decide) ?_
      exact gs_iret hx hb hr hlocks hM hS (by decide) ⟨hB_st, (Or.inr (⟨rfl, (by have hl0 : (0 : Int32).toInt = 0 := (by decide); omega)⟩))⟩ (by exact Nat.le_refl _) (by exact Nat.le_refl _) dX10_hasWell_24
    · have ic_2 := gz_nle (by decide : (6 : Int32).toInt = 6) (rfl : x.toInt = x.toInt) c_2
      refine lv_aload_n hx hb dX10_hasWell_10 rfl (lv_at hl 0 rfl) ?_
      refine gs_get (C := RX10) (T := TX10) (N := 59) hx hb hts inX10 hown hK hM 0 0 1 (by decide) rfl rfl (by decide) (hts _ gm_902) (fun _ h9 => h9) rfl dX10_hasWell_11 ?_
      refine lv_iload_n hx hb dX10_hasWell_14 rfl (lv_at hl 1 rfl) ?_
      refine gs_zald hx hb hK hM 1 0 (by decide) rfl (vp_in_iff.mpr ⟨by omega, by omega⟩) dX10_hasWell_15 ?_
      refine lv_topi (fun x_3 ex_3 => ?_)
      have qx_3 : x_3.toInt = (st 1 0 (x.toNatClampNeg)).toInt := congrArg Int32.toInt ex_3
      refine lv_if_eq (tgt := 23) hx hb dX10_hasWell_16 (by decide) (fun c_4 => ?_) (fun c_4 => ?_)
      · have ic_4 := gz_eq (rfl : x_3.toInt = x_3.toInt) (by decide : (0 : Int32).toInt = 0) c_4
        refine lv_iconst (v := 0) hx hb dX10_hasWell_23 (by decide) ?_
        exact gs_iret hx hb hr hlocks hM hS (by decide) ⟨hB_st, (Or.inr (⟨rfl, (by have hl0 : (0 : Int32).toInt = 0 := (by decide); omega)⟩))⟩ (by exact Nat.le_refl _) (by exact Nat.le_refl _) dX10_hasWell_24
      · have ic_4 := gz_ne (rfl : x_3.toInt = x_3.toInt) (by decide : (0 : Int32).toInt = 0) c_4
        refine lv_iconst (v := 1) hx hb dX10_hasWell_19 (by decide) ?_
        refine lv_goto (tgt := 24) hx hb dX10_hasWell_20 (by decide) ?_
        exact gs_iret hx hb hr hlocks hM hS (by decide) ⟨hB_st, (Or.inl (⟨rfl, (by have hl0 : (1 : Int32).toInt = 1 := (by decide); omega), (by have hl0 : (1 : Int32).toInt = 1 := (by decide); omega), (by have hl0 : (1 : Int32).toInt = 1 := (by decide); omega)⟩))⟩ (by exact Nat.le_refl _) (by exact Nat.le_refl _) dX10_hasWell_24

set_option maxHeartbeats 4000000 in
set_option maxRecDepth 100000 in
/-- WellCourtModel.well -/
theorem m_well (l : Launch) (G : va_G) (cy : Nat → ClassId) (sK sV : Nat → Nat) (ad : Nat → Nat → Nat) (sz : Nat) (st : gS) (hB : gBd bM st) (x : Int32) (y : Int32) (w : Int32) (v : Int32) (Xx : Int) (Xy : Int) (Xw : Int) (Xv : Int) (kx : x.toInt = Xx) (ky : y.toInt = Xy) (kw : w.toInt = Xw) (kv : v.toInt = Xv) : gsMi l yX10_well cX10_well 5 (some .boolean) ({ frames := 0, cells := 0, slots := 0, locals := 0 } : Room) G cy sK sV (shM cy ad) cnM ad sz [.ref (ad 0 0), .int x, .int y, .int w, .int v] st (fun (r : Int32) (u : gS) => gBN bM kM [0, 100, 200, 300, 400, 500] st u ∧ ((r = 1 ∧ (0 ≤ Xx) ∧ (Xx ≤ 5) ∧ ((st 1 0 x.toNatClampNeg).toInt = 0) ∧ (1 ≤ Xy) ∧ (Xy ≤ 1000) ∧ (0 ≤ Xw) ∧ (Xw ≤ 200) ∧ (0 ≤ Xv) ∧ (Xv ≤ Xy) ∧ (u 1 0 = upd (st 1 0) x.toNatClampNeg (vp_nar .boolean 1))) ∨ (r = 0 ∧ (Xx < 0 ∨ 5 < Xx ∨ ¬ (st 1 0 x.toNatClampNeg).toInt = 0 ∨ Xy < 1 ∨ 1000 < Xy ∨ Xw < 0 ∨ 200 < Xw ∨ Xv < 0 ∨ Xy < Xv) ∧ (u 1 0 = st 1 0)))) := by
  refine gs_start (fun A => gsQi G (shM cy ad) cnM ad _ A) (by decide) (Nat.le_of_ble_eq_true rfl) ?_
  intro p e s m below meth c A ls H hx hb hr hml hlocks hown hts hK hov hE hI hM hm hS hA hl
  have hl : lv_has ls 5 [(0, .ref (ad 0 0)), (1, .int x), (2, .int y), (3, .int w), (4, .int v)] := hl
  have hB_st : gBN bM kM [0, 100, 200, 300, 400, 500] st st := gBN.rf hB
  refine lv_aload_n hx hb dX10_well_0 rfl (lv_at hl 0 rfl) ?_
  refine lv_iconst (v := 0) hx hb dX10_well_1 (by decide) ?_
  refine gs_put (C := RX10) (T := TX10) (N := 59) (ty := .int) (val := .int 0) hx hb hts inX10 tyX10 tyX10_ok nmX10 hown hK hI hm hM hS 0 0 0 (by decide) rfl rfl (by decide) (hts _ gm_901) (fun _ h9 => h9) rfl (0 : Int32) rfl (by decide +kernel) rfl rfl (Nat.le_of_ble_eq_true rfl) dX10_well_2 (fun st_1 H locs est_1 hM hS => ?_)
  have hB_st_1 : gBN bM kM [0, 100, 200, 300, 400, 500] st st_1 := by rw [est_1]; exact hB_st.up (show (0 : Nat) ∈ _ from by decide) (gi_lo _) (gi_hi _)
  refine lv_iload_n hx hb dX10_well_5 rfl (lv_at hl 1 rfl) ?_
  refine lv_if_lt (tgt := 58) hx hb dX10_well_6 (by decide) (fun c_2 => ?_) (fun c_2 => ?_)
  · have ic_2 := gz_lt (rfl : x.toInt = x.toInt) (by decide : (0 : Int32).toInt = 0) c_2
    refine lv_iconst (v := 0) hx hb dX10_well_58 (by decide) ?_
    exact gs_iret hx hb hr hlocks hM hS (by decide) ⟨hB_st_1, (Or.inr (⟨rfl, (by have hl0 : (0 : Int32).toInt = 0 := (by decide); omega), (((congrFun (congrFun est_1 1) 0).trans ((congrFun (gU_k (by decide)) 0).trans rfl)))⟩))⟩ (by exact Nat.le_refl _) (by exact Nat.le_refl _) dX10_well_59
  · have ic_2 := gz_nlt (rfl : x.toInt = x.toInt) (by decide : (0 : Int32).toInt = 0) c_2
    refine lv_iload_n hx hb dX10_well_9 rfl (lv_at hl 1 rfl) ?_
    refine lv_bipush (v := 6) hx hb dX10_well_10 (by decide) ?_
    refine lv_icmp_ge (tgt := 58) hx hb dX10_well_12 (by decide) (fun c_3 => ?_) (fun c_3 => ?_)
    · have ic_3 := gz_le (by decide : (6 : Int32).toInt = 6) (rfl : x.toInt = x.toInt) c_3
      refine lv_iconst (v := 0) hx hb dX10_well_58 (by decide) ?_
      exact gs_iret hx hb hr hlocks hM hS (by decide) ⟨hB_st_1, (Or.inr (⟨rfl, (by have hl0 : (0 : Int32).toInt = 0 := (by decide); omega), (((congrFun (congrFun est_1 1) 0).trans ((congrFun (gU_k (by decide)) 0).trans rfl)))⟩))⟩ (by exact Nat.le_refl _) (by exact Nat.le_refl _) dX10_well_59
    · have ic_3 := gz_nle (by decide : (6 : Int32).toInt = 6) (rfl : x.toInt = x.toInt) c_3
      refine lv_aload_n hx hb dX10_well_15 rfl (lv_at hl 0 rfl) ?_
      refine gs_get (C := RX10) (T := TX10) (N := 59) hx hb hts inX10 hown hK hM 0 0 1 (by decide) rfl rfl (by decide) (hts _ gm_902) (fun _ h9 => h9) rfl dX10_well_16 ?_
      refine lv_iload_n hx hb dX10_well_19 rfl (lv_at hl 1 rfl) ?_
      refine gs_zald hx hb hK hM 1 0 (by decide) rfl (vp_in_iff.mpr ⟨by omega, by omega⟩) dX10_well_20 ?_
      refine lv_topi (fun x_4 ex_4 => ?_)
      have qx_4 : x_4.toInt = (st_1 1 0 (x.toNatClampNeg)).toInt := congrArg Int32.toInt ex_4
      have rx_4 : x_4.toInt = ((st 1 0 (x.toNatClampNeg)) : Int32).toInt := by rw [ex_4]; exact congrArg Int32.toInt (((congrFun (congrFun (congrFun est_1 1) 0) (x.toNatClampNeg)).trans (congrFun (congrFun (gU_k (by decide)) 0) (x.toNatClampNeg))))
      refine lv_if_ne (tgt := 58) hx hb dX10_well_21 (by decide) (fun c_5 => ?_) (fun c_5 => ?_)
      · have ic_5 := gz_ne (rfl : x_4.toInt = x_4.toInt) (by decide : (0 : Int32).toInt = 0) c_5
        refine lv_iconst (v := 0) hx hb dX10_well_58 (by decide) ?_
        exact gs_iret hx hb hr hlocks hM hS (by decide) ⟨hB_st_1, (Or.inr (⟨rfl, (by have hl0 : (0 : Int32).toInt = 0 := (by decide); omega), (((congrFun (congrFun est_1 1) 0).trans ((congrFun (gU_k (by decide)) 0).trans rfl)))⟩))⟩ (by exact Nat.le_refl _) (by exact Nat.le_refl _) dX10_well_59
      · have ic_5 := gz_eqn (rfl : x_4.toInt = x_4.toInt) (by decide : (0 : Int32).toInt = 0) c_5
        refine lv_iload_n hx hb dX10_well_24 rfl (lv_at hl 2 rfl) ?_
        refine lv_iconst (v := 1) hx hb dX10_well_25 (by decide) ?_
        refine lv_icmp_lt (tgt := 58) hx hb dX10_well_26 (by decide) (fun c_6 => ?_) (fun c_6 => ?_)
        · have ic_6 := gz_lt (rfl : y.toInt = y.toInt) (by decide : (1 : Int32).toInt = 1) c_6
          refine lv_iconst (v := 0) hx hb dX10_well_58 (by decide) ?_
          exact gs_iret hx hb hr hlocks hM hS (by decide) ⟨hB_st_1, (Or.inr (⟨rfl, (by have hl0 : (0 : Int32).toInt = 0 := (by decide); omega), (((congrFun (congrFun est_1 1) 0).trans ((congrFun (gU_k (by decide)) 0).trans rfl)))⟩))⟩ (by exact Nat.le_refl _) (by exact Nat.le_refl _) dX10_well_59
        · have ic_6 := gz_nlt (rfl : y.toInt = y.toInt) (by decide : (1 : Int32).toInt = 1) c_6
          refine lv_iload_n hx hb dX10_well_29 rfl (lv_at hl 2 rfl) ?_
          refine lv_sipush (v := 1000) hx hb dX10_well_30 (by decide) ?_
          refine lv_icmp_gt (tgt := 58) hx hb dX10_well_33 (by decide) (fun c_7 => ?_) (fun c_7 => ?_)
          · have ic_7 := gz_lt (by decide : (1000 : Int32).toInt = 1000) (rfl : y.toInt = y.toInt) c_7
            refine lv_iconst (v := 0) hx hb dX10_well_58 (by decide) ?_
            exact gs_iret hx hb hr hlocks hM hS (by decide) ⟨hB_st_1, (Or.inr (⟨rfl, (by have hl0 : (0 : Int32).toInt = 0 := (by decide); omega), (((congrFun (congrFun est_1 1) 0).trans ((congrFun (gU_k (by decide)) 0).trans rfl)))⟩))⟩ (by exact Nat.le_refl _) (by exact Nat.le_refl _) dX10_well_59
          · have ic_7 := gz_nlt (by decide : (1000 : Int32).toInt = 1000) (rfl : y.toInt = y.toInt) c_7
            refine lv_iload_n hx hb dX10_well_36 rfl (lv_at hl 3 rfl) ?_
            refine lv_if_lt (tgt := 58) hx hb dX10_well_37 (by decide) (fun c_8 => ?_) (fun c_8 => ?_)
            · have ic_8 := gz_lt (rfl : w.toInt = w.toInt) (by decide : (0 : Int32).toInt = 0) c_8
              refine lv_iconst (v := 0) hx hb dX10_well_58 (by decide) ?_
              exact gs_iret hx hb hr hlocks hM hS (by decide) ⟨hB_st_1, (Or.inr (⟨rfl, (by have hl0 : (0 : Int32).toInt = 0 := (by decide); omega), (((congrFun (congrFun est_1 1) 0).trans ((congrFun (gU_k (by decide)) 0).trans rfl)))⟩))⟩ (by exact Nat.le_refl _) (by exact Nat.le_refl _) dX10_well_59
            · have ic_8 := gz_nlt (rfl : w.toInt = w.toInt) (by decide : (0 : Int32).toInt = 0) c_8
              refine lv_iload_n hx hb dX10_well_40 rfl (lv_at hl 3 rfl) ?_
              refine lv_sipush (v := 200) hx hb dX10_well_41 (by decide) ?_
              refine lv_icmp_gt (tgt := 58) hx hb dX10_well_44 (by decide) (fun c_9 => ?_) (fun c_9 => ?_)
              · have ic_9 := gz_lt (by decide : (200 : Int32).toInt = 200) (rfl : w.toInt = w.toInt) c_9
                refine lv_iconst (v := 0) hx hb dX10_well_58 (by decide) ?_
                exact gs_iret hx hb hr hlocks hM hS (by decide) ⟨hB_st_1, (Or.inr (⟨rfl, (by have hl0 : (0 : Int32).toInt = 0 := (by decide); omega), (((congrFun (congrFun est_1 1) 0).trans ((congrFun (gU_k (by decide)) 0).trans rfl)))⟩))⟩ (by exact Nat.le_refl _) (by exact Nat.le_refl _) dX10_well_59
              · have ic_9 := gz_nlt (by decide : (200 : Int32).toInt = 200) (rfl : w.toInt = w.toInt) c_9
                refine lv_iload hx hb dX10_well_47 (lv_at hl 4 rfl) ?_
                refine lv_if_lt (tgt := 58) hx hb dX10_well_49 (by decide) (fun c_10 => ?_) (fun c_10 => ?_)
                · have ic_10 := gz_lt (rfl : v.toInt = v.toInt) (by decide : (0 : Int32).toInt = 0) c_10
                  refine lv_iconst (v := 0) hx hb dX10_well_58 (by decide) ?_
                  exact gs_iret hx hb hr hlocks hM hS (by decide) ⟨hB_st_1, (Or.inr (⟨rfl, (by have hl0 : (0 : Int32).toInt = 0 := (by decide); omega), (((congrFun (congrFun est_1 1) 0).trans ((congrFun (gU_k (by decide)) 0).trans rfl)))⟩))⟩ (by exact Nat.le_refl _) (by exact Nat.le_refl _) dX10_well_59
                · have ic_10 := gz_nlt (rfl : v.toInt = v.toInt) (by decide : (0 : Int32).toInt = 0) c_10
                  refine lv_iload hx hb dX10_well_52 (lv_at hl 4 rfl) ?_
                  refine lv_iload_n hx hb dX10_well_54 rfl (lv_at hl 2 rfl) ?_
                  refine lv_icmp_le (tgt := 60) hx hb dX10_well_55 (by decide) (fun c_11 => ?_) (fun c_11 => ?_)
                  · have ic_11 := gz_le (rfl : v.toInt = v.toInt) (rfl : y.toInt = y.toInt) c_11
                    refine lv_aload_n hx hb dX10_well_60 rfl (lv_at hl 0 rfl) ?_
                    refine gs_get (C := RX10) (T := TX10) (N := 59) hx hb hts inX10 hown hK hM 0 0 1 (by decide) rfl rfl (by decide) (hts _ gm_902) (fun _ h9 => h9) rfl dX10_well_61 ?_
                    refine lv_iload_n hx hb dX10_well_64 rfl (lv_at hl 1 rfl) ?_
                    refine lv_iconst (v := 1) hx hb dX10_well_65 (by decide) ?_
                    refine gs_zast hx hb hK hI hm hM hS 1 0 (by decide) (fun _ => rfl) (vp_in_iff.mpr ⟨by omega, by omega⟩) dX10_well_66 (fun st_12 H locs est_12 hM hS => ?_)
                    have hB_st_12 : gBN bM kM [0, 100, 200, 300, 400, 500] st st_12 := by rw [est_12]; exact hB_st_1.up (show (100 : Nat) ∈ _ from by decide) (gi_lo _) (gi_hi _)
                    refine lv_aload_n hx hb dX10_well_67 rfl (lv_at hl 0 rfl) ?_
                    refine gs_get (C := RX10) (T := TX10) (N := 59) hx hb hts inX10 hown hK hM 0 0 2 (by decide) rfl rfl (by decide) (hts _ gm_903) (fun _ h9 => h9) rfl dX10_well_68 ?_
                    refine lv_iload_n hx hb dX10_well_71 rfl (lv_at hl 1 rfl) ?_
                    refine lv_iload_n hx hb dX10_well_72 rfl (lv_at hl 2 rfl) ?_
                    refine gs_iast hx hb hK hI hm hM hS 2 0 (by decide) (fun _ => rfl) (vp_in_iff.mpr ⟨by omega, by omega⟩) dX10_well_73 (fun st_13 H locs est_13 hM hS => ?_)
                    have hB_st_13 : gBN bM kM [0, 100, 200, 300, 400, 500] st st_13 := by rw [est_13]; exact hB_st_12.up (show (200 : Nat) ∈ _ from by decide) (gi_lo _) (gi_hi _)
                    refine lv_aload_n hx hb dX10_well_74 rfl (lv_at hl 0 rfl) ?_
                    refine gs_get (C := RX10) (T := TX10) (N := 59) hx hb hts inX10 hown hK hM 0 0 3 (by decide) rfl rfl (by decide) (hts _ gm_904) (fun _ h9 => h9) rfl dX10_well_75 ?_
                    refine lv_iload_n hx hb dX10_well_78 rfl (lv_at hl 1 rfl) ?_
                    refine lv_iload_n hx hb dX10_well_79 rfl (lv_at hl 3 rfl) ?_
                    refine gs_iast hx hb hK hI hm hM hS 3 0 (by decide) (fun _ => rfl) (vp_in_iff.mpr ⟨by omega, by omega⟩) dX10_well_80 (fun st_14 H locs est_14 hM hS => ?_)
                    have hB_st_14 : gBN bM kM [0, 100, 200, 300, 400, 500] st st_14 := by rw [est_14]; exact hB_st_13.up (show (300 : Nat) ∈ _ from by decide) (gi_lo _) (gi_hi _)
                    refine lv_aload_n hx hb dX10_well_81 rfl (lv_at hl 0 rfl) ?_
                    refine gs_get (C := RX10) (T := TX10) (N := 59) hx hb hts inX10 hown hK hM 0 0 4 (by decide) rfl rfl (by decide) (hts _ gm_905) (fun _ h9 => h9) rfl dX10_well_82 ?_
                    refine lv_iload_n hx hb dX10_well_85 rfl (lv_at hl 1 rfl) ?_
                    refine lv_iload hx hb dX10_well_86 (lv_at hl 4 rfl) ?_
                    refine gs_iast hx hb hK hI hm hM hS 4 0 (by decide) (fun _ => rfl) (vp_in_iff.mpr ⟨by omega, by omega⟩) dX10_well_88 (fun st_15 H locs est_15 hM hS => ?_)
                    have hB_st_15 : gBN bM kM [0, 100, 200, 300, 400, 500] st st_15 := by rw [est_15]; exact hB_st_14.up (show (400 : Nat) ∈ _ from by decide) (gi_lo _) (gi_hi _)
                    refine lv_aload_n hx hb dX10_well_89 rfl (lv_at hl 0 rfl) ?_
                    refine gs_get (C := RX10) (T := TX10) (N := 59) hx hb hts inX10 hown hK hM 0 0 5 (by decide) rfl rfl (by decide) (hts _ gm_906) (fun _ h9 => h9) rfl dX10_well_90 ?_
                    refine lv_iload_n hx hb dX10_well_93 rfl (lv_at hl 1 rfl) ?_
                    refine lv_iload hx hb dX10_well_94 (lv_at hl 4 rfl) ?_
                    refine gs_iast hx hb hK hI hm hM hS 5 0 (by decide) (fun _ => rfl) (vp_in_iff.mpr ⟨by omega, by omega⟩) dX10_well_96 (fun st_16 H locs est_16 hM hS => ?_)
                    have hB_st_16 : gBN bM kM [0, 100, 200, 300, 400, 500] st st_16 := by rw [est_16]; exact hB_st_15.up (show (500 : Nat) ∈ _ from by decide) (gi_lo _) (gi_hi _)
                    refine lv_iconst (v := 1) hx hb dX10_well_97 (by decide) ?_
                    exact gs_iret hx hb hr hlocks hM hS (by decide) ⟨hB_st_16, (Or.inl (⟨rfl, (by have hl0 : (1 : Int32).toInt = 1 := (by decide); omega), (by have hl0 : (1 : Int32).toInt = 1 := (by decide); omega), (by have hl0 : (1 : Int32).toInt = 1 := (by decide); omega), (by have hl0 : (1 : Int32).toInt = 1 := (by decide); omega), (by have hl0 : (1 : Int32).toInt = 1 := (by decide); omega), (by have hl0 : (1 : Int32).toInt = 1 := (by decide); omega), (by have hl0 : (1 : Int32).toInt = 1 := (by decide); omega), (by have hl0 : (1 : Int32).toInt = 1 := (by decide); omega), (by have hl0 : (1 : Int32).toInt = 1 := (by decide); omega), (((congrFun (congrFun est_16 1) 0).trans ((congrFun (gU_k (by decide)) 0).trans ((congrFun (congrFun est_15 1) 0).trans ((congrFun (gU_k (by decide)) 0).trans ((congrFun (congrFun est_14 1) 0).trans ((congrFun (gU_k (by decide)) 0).trans ((congrFun (congrFun est_13 1) 0).trans ((congrFun (gU_k (by decide)) 0).trans ((congrFun (congrFun est_12 1) 0).trans ((gU_at _ _ _ _ _).trans (congrArg (fun f9 => upd f9 (x.toNatClampNeg) ((vp_nar .boolean 1) : Int32)) ((congrFun (congrFun est_1 1) 0).trans ((congrFun (gU_k (by decide)) 0).trans rfl))))))))))))))⟩))⟩ (by exact Nat.le_refl _) (by exact Nat.le_refl _) dX10_well_98
                  · have ic_11 := gz_nle (rfl : v.toInt = v.toInt) (rfl : y.toInt = y.toInt) c_11
                    have lc_11 := gi_hi v
                    refine lv_iconst (v := 0) hx hb dX10_well_58 (by decide) ?_
                    exact gs_iret hx hb hr hlocks hM hS (by decide) ⟨hB_st_1, (Or.inr (⟨rfl, (by have hl0 : (0 : Int32).toInt = 0 := (by decide); omega), (((congrFun (congrFun est_1 1) 0).trans ((congrFun (gU_k (by decide)) 0).trans rfl)))⟩))⟩ (by exact Nat.le_refl _) (by exact Nat.le_refl _) dX10_well_59

set_option maxHeartbeats 4000000 in
set_option maxRecDepth 100000 in
/-- WellCourtModel.four -/
theorem m_four (l : Launch) (G : va_G) (cy : Nat → ClassId) (sK sV : Nat → Nat) (ad : Nat → Nat → Nat) (sz : Nat) (st : gS) (hB : gBd bM st) (x : Int32) (hlen : (st 0 0 9).toInt ≤ 796) : gsMv l yX10_four cX10_four 3 ({ frames := 0, cells := 0, slots := 0, locals := 0 } : Room) G cy sK sV (shM cy ad) cnM ad sz [.ref (ad 0 0), .int x] st (fun (u : gS) => gBN bM kM [9, 700] st u ∧ (((u 0 0 9).toInt = (st 0 0 9).toInt + 4))) := by
  refine gs_start (fun A => gsQv G (shM cy ad) cnM ad _ A) (by decide) (Nat.le_of_ble_eq_true rfl) ?_
  intro p e s m below meth c A ls H hx hb hr hml hlocks hown hts hK hov hE hI hM hm hS hA hl
  have hl : lv_has ls 3 [(0, .ref (ad 0 0)), (1, .int x)] := hl
  have hB_st : gBN bM kM [9, 700] st st := gBN.rf hB
  refine lv_bipush (v := 24) hx hb dX10_four_0 (by decide) ?_
  refine lv_istore_n (lv' := [(2, .int 24), (0, .ref (ad 0 0)), (1, .int x)]) hx hb dX10_four_2 rfl hl (by decide) rfl (fun ls hl => ?_)
  refine lv_iload_n hx hb dX10_four_3 rfl (lv_at hl 0 rfl) ?_
  refine lv_if_lt (tgt := 36) hx hb dX10_four_4 (by decide) (fun h9 => absurd h9 (by decide)) (fun _ => ?_)
  refine lv_aload_n hx hb dX10_four_7 rfl (lv_at hl 1 rfl) ?_
  refine gs_get (C := RX10) (T := TX10) (N := 59) hx hb hts inX10 hown hK hM 0 0 8 (by decide) rfl rfl (by decide) (hts _ gm_909) (fun _ h9 => h9) rfl dX10_four_8 ?_
  refine lv_aload_n hx hb dX10_four_11 rfl (lv_at hl 1 rfl) ?_
  refine gs_get (C := RX10) (T := TX10) (N := 59) hx hb hts inX10 hown hK hM 0 0 9 (by decide) rfl rfl (by decide) (hts _ gm_910) (fun _ h9 => h9) rfl dX10_four_12 ?_
  have bf_1 : (0 : Int) ≤ (st 0 0 9).toInt ∧ (st 0 0 9).toInt ≤ (800 : Int) := hB_st.1 0 0 9
  refine lv_iload_n hx hb dX10_four_15 rfl (lv_at hl 2 rfl) ?_
  refine lv_iload_n hx hb dX10_four_16 rfl (lv_at hl 0 rfl) ?_
  refine lv_ishr hx hb dX10_four_17 ?_
  refine lv_topi (fun x_2 ex_2 => ?_)
  obtain ⟨x_3, ex_3⟩ : ∃ y : Int32, (x_2 : Int32).toInt8.toInt32 = y := ⟨_, rfl⟩
  refine lv_i2b hx hb dX10_four_18 ex_3 ?_
  refine gs_bast hx hb hK hI hm hM hS 7 0 (by decide) (fun _ => rfl) (vp_in_iff.mpr ⟨by omega, by omega⟩) dX10_four_19 (fun st_4 H locs est_4 hM hS => ?_)
  have hB_st_4 : gBN bM kM [9, 700] st st_4 := by rw [est_4]; exact hB_st.up (show (700 : Nat) ∈ _ from by decide) (gi_lo _) (gi_hi _)
  refine lv_aload_n hx hb dX10_four_20 rfl (lv_at hl 1 rfl) ?_
  refine lv_dup hx hb dX10_four_21 rfl ?_
  refine gs_get (C := RX10) (T := TX10) (N := 59) hx hb hts inX10 hown hK hM 0 0 9 (by decide) rfl rfl (by decide) (hts _ gm_910) (fun _ h9 => h9) rfl dX10_four_22 ?_
  refine lv_topi (fun x_5 ex_5 => ?_)
  have ex_5 : (st 0 0 9) = x_5 := Eq.symm (ex_5.trans ((congrFun (congrFun (congrFun est_4 0) 0) 9).trans (congrFun (congrFun (gU_k (by decide)) 0) 9)))
  subst ex_5
  have bf_6 : (0 : Int) ≤ (st 0 0 9).toInt ∧ (st 0 0 9).toInt ≤ (800 : Int) := hB_st.1 0 0 9
  refine lv_iconst (v := 1) hx hb dX10_four_25 (by decide) ?_
  refine lv_iadd hx hb dX10_four_26 ?_
  refine lv_topi (fun x_7 ex_7 => ?_)
  try have tx_7 : x_7.toInt = (st 0 0 9).toInt + 1 := by rw [ex_7]; exact gz_addP (x := (st 0 0 9).toInt) (y := 1) rfl (by decide) (by omega) (by omega)
  refine gs_put (C := RX10) (T := TX10) (N := 59) (ty := .int) (val := .int x_7) hx hb hts inX10 tyX10 tyX10_ok nmX10 hown hK hI hm hM hS 0 0 9 (by decide) rfl rfl (by decide) (hts _ gm_910) (fun _ h9 => h9) rfl (x_7 : Int32) rfl (by decide +kernel) rfl rfl (Nat.le_of_ble_eq_true rfl) dX10_four_27 (fun st_8 H locs est_8 hM hS => ?_)
  have hB_st_8 : gBN bM kM [9, 700] st st_8 := by rw [est_8]; exact hB_st_4.up (show (9 : Nat) ∈ _ from by decide) (show (0 : Int) ≤ x_7.toInt from by omega) (show x_7.toInt ≤ (800 : Int) from by omega)
  refine lv_iinc (v := (16)) (lv' := [(2, .int 16), (0, .ref (ad 0 0)), (1, .int x)]) hx hb dX10_four_30 hl (k := 0) rfl (by decide) (by decide) rfl (fun ls hl => ?_)
  refine lv_goto (tgt := 3) hx hb dX10_four_33 (by decide) ?_
  refine lv_iload_n hx hb dX10_four_3 rfl (lv_at hl 0 rfl) ?_
  refine lv_if_lt (tgt := 36) hx hb dX10_four_4 (by decide) (fun h9 => absurd h9 (by decide)) (fun _ => ?_)
  refine lv_aload_n hx hb dX10_four_7 rfl (lv_at hl 1 rfl) ?_
  refine gs_get (C := RX10) (T := TX10) (N := 59) hx hb hts inX10 hown hK hM 0 0 8 (by decide) rfl rfl (by decide) (hts _ gm_909) (fun _ h9 => h9) rfl dX10_four_8 ?_
  refine lv_aload_n hx hb dX10_four_11 rfl (lv_at hl 1 rfl) ?_
  refine gs_get (C := RX10) (T := TX10) (N := 59) hx hb hts inX10 hown hK hM 0 0 9 (by decide) rfl rfl (by decide) (hts _ gm_910) (fun _ h9 => h9) rfl dX10_four_12 ?_
  refine lv_topi (fun x_9 ex_9 => ?_)
  have ex_9 : x_7 = x_9 := Eq.symm (ex_9.trans ((congrFun (congrFun (congrFun est_8 0) 0) 9).trans (gU_same _ _ _ _ _)))
  subst ex_9
  refine lv_iload_n hx hb dX10_four_15 rfl (lv_at hl 2 rfl) ?_
  refine lv_iload_n hx hb dX10_four_16 rfl (lv_at hl 0 rfl) ?_
  refine lv_ishr hx hb dX10_four_17 ?_
  refine lv_topi (fun x_10 ex_10 => ?_)
  obtain ⟨x_11, ex_11⟩ : ∃ y : Int32, (x_10 : Int32).toInt8.toInt32 = y := ⟨_, rfl⟩
  refine lv_i2b hx hb dX10_four_18 ex_11 ?_
  refine gs_bast hx hb hK hI hm hM hS 7 0 (by decide) (fun _ => rfl) (vp_in_iff.mpr ⟨by omega, by omega⟩) dX10_four_19 (fun st_12 H locs est_12 hM hS => ?_)
  have hB_st_12 : gBN bM kM [9, 700] st st_12 := by rw [est_12]; exact hB_st_8.up (show (700 : Nat) ∈ _ from by decide) (gi_lo _) (gi_hi _)
  refine lv_aload_n hx hb dX10_four_20 rfl (lv_at hl 1 rfl) ?_
  refine lv_dup hx hb dX10_four_21 rfl ?_
  refine gs_get (C := RX10) (T := TX10) (N := 59) hx hb hts inX10 hown hK hM 0 0 9 (by decide) rfl rfl (by decide) (hts _ gm_910) (fun _ h9 => h9) rfl dX10_four_22 ?_
  refine lv_topi (fun x_13 ex_13 => ?_)
  have ex_13 : x_7 = x_13 := Eq.symm (ex_13.trans (((congrFun (congrFun (congrFun est_12 0) 0) 9).trans (congrFun (congrFun (gU_k (by decide)) 0) 9)).trans ((congrFun (congrFun (congrFun est_8 0) 0) 9).trans (gU_same _ _ _ _ _))))
  subst ex_13
  refine lv_iconst (v := 1) hx hb dX10_four_25 (by decide) ?_
  refine lv_iadd hx hb dX10_four_26 ?_
  refine lv_topi (fun x_14 ex_14 => ?_)
  try have tx_14 : x_14.toInt = x_7.toInt + 1 := by rw [ex_14]; exact gz_addP (x := x_7.toInt) (y := 1) rfl (by decide) (by omega) (by omega)
  refine gs_put (C := RX10) (T := TX10) (N := 59) (ty := .int) (val := .int x_14) hx hb hts inX10 tyX10 tyX10_ok nmX10 hown hK hI hm hM hS 0 0 9 (by decide) rfl rfl (by decide) (hts _ gm_910) (fun _ h9 => h9) rfl (x_14 : Int32) rfl (by decide +kernel) rfl rfl (Nat.le_of_ble_eq_true rfl) dX10_four_27 (fun st_15 H locs est_15 hM hS => ?_)
  have hB_st_15 : gBN bM kM [9, 700] st st_15 := by rw [est_15]; exact hB_st_12.up (show (9 : Nat) ∈ _ from by decide) (show (0 : Int) ≤ x_14.toInt from by omega) (show x_14.toInt ≤ (800 : Int) from by omega)
  refine lv_iinc (v := (8)) (lv' := [(2, .int 8), (0, .ref (ad 0 0)), (1, .int x)]) hx hb dX10_four_30 hl (k := 0) rfl (by decide) (by decide) rfl (fun ls hl => ?_)
  refine lv_goto (tgt := 3) hx hb dX10_four_33 (by decide) ?_
  refine lv_iload_n hx hb dX10_four_3 rfl (lv_at hl 0 rfl) ?_
  refine lv_if_lt (tgt := 36) hx hb dX10_four_4 (by decide) (fun h9 => absurd h9 (by decide)) (fun _ => ?_)
  refine lv_aload_n hx hb dX10_four_7 rfl (lv_at hl 1 rfl) ?_
  refine gs_get (C := RX10) (T := TX10) (N := 59) hx hb hts inX10 hown hK hM 0 0 8 (by decide) rfl rfl (by decide) (hts _ gm_909) (fun _ h9 => h9) rfl dX10_four_8 ?_
  refine lv_aload_n hx hb dX10_four_11 rfl (lv_at hl 1 rfl) ?_
  refine gs_get (C := RX10) (T := TX10) (N := 59) hx hb hts inX10 hown hK hM 0 0 9 (by decide) rfl rfl (by decide) (hts _ gm_910) (fun _ h9 => h9) rfl dX10_four_12 ?_
  refine lv_topi (fun x_16 ex_16 => ?_)
  have ex_16 : x_14 = x_16 := Eq.symm (ex_16.trans ((congrFun (congrFun (congrFun est_15 0) 0) 9).trans (gU_same _ _ _ _ _)))
  subst ex_16
  refine lv_iload_n hx hb dX10_four_15 rfl (lv_at hl 2 rfl) ?_
  refine lv_iload_n hx hb dX10_four_16 rfl (lv_at hl 0 rfl) ?_
  refine lv_ishr hx hb dX10_four_17 ?_
  refine lv_topi (fun x_17 ex_17 => ?_)
  obtain ⟨x_18, ex_18⟩ : ∃ y : Int32, (x_17 : Int32).toInt8.toInt32 = y := ⟨_, rfl⟩
  refine lv_i2b hx hb dX10_four_18 ex_18 ?_
  refine gs_bast hx hb hK hI hm hM hS 7 0 (by decide) (fun _ => rfl) (vp_in_iff.mpr ⟨by omega, by omega⟩) dX10_four_19 (fun st_19 H locs est_19 hM hS => ?_)
  have hB_st_19 : gBN bM kM [9, 700] st st_19 := by rw [est_19]; exact hB_st_15.up (show (700 : Nat) ∈ _ from by decide) (gi_lo _) (gi_hi _)
  refine lv_aload_n hx hb dX10_four_20 rfl (lv_at hl 1 rfl) ?_
  refine lv_dup hx hb dX10_four_21 rfl ?_
  refine gs_get (C := RX10) (T := TX10) (N := 59) hx hb hts inX10 hown hK hM 0 0 9 (by decide) rfl rfl (by decide) (hts _ gm_910) (fun _ h9 => h9) rfl dX10_four_22 ?_
  refine lv_topi (fun x_20 ex_20 => ?_)
  have ex_20 : x_14 = x_20 := Eq.symm (ex_20.trans (((congrFun (congrFun (congrFun est_19 0) 0) 9).trans (congrFun (congrFun (gU_k (by decide)) 0) 9)).trans ((congrFun (congrFun (congrFun est_15 0) 0) 9).trans (gU_same _ _ _ _ _))))
  subst ex_20
  refine lv_iconst (v := 1) hx hb dX10_four_25 (by decide) ?_
  refine lv_iadd hx hb dX10_four_26 ?_
  refine lv_topi (fun x_21 ex_21 => ?_)
  try have tx_21 : x_21.toInt = x_14.toInt + 1 := by rw [ex_21]; exact gz_addP (x := x_14.toInt) (y := 1) rfl (by decide) (by omega) (by omega)
  refine gs_put (C := RX10) (T := TX10) (N := 59) (ty := .int) (val := .int x_21) hx hb hts inX10 tyX10 tyX10_ok nmX10 hown hK hI hm hM hS 0 0 9 (by decide) rfl rfl (by decide) (hts _ gm_910) (fun _ h9 => h9) rfl (x_21 : Int32) rfl (by decide +kernel) rfl rfl (Nat.le_of_ble_eq_true rfl) dX10_four_27 (fun st_22 H locs est_22 hM hS => ?_)
  have hB_st_22 : gBN bM kM [9, 700] st st_22 := by rw [est_22]; exact hB_st_19.up (show (9 : Nat) ∈ _ from by decide) (show (0 : Int) ≤ x_21.toInt from by omega) (show x_21.toInt ≤ (800 : Int) from by omega)
  refine lv_iinc (v := (0)) (lv' := [(2, .int 0), (0, .ref (ad 0 0)), (1, .int x)]) hx hb dX10_four_30 hl (k := 0) rfl (by decide) (by decide) rfl (fun ls hl => ?_)
  refine lv_goto (tgt := 3) hx hb dX10_four_33 (by decide) ?_
  refine lv_iload_n hx hb dX10_four_3 rfl (lv_at hl 0 rfl) ?_
  refine lv_if_lt (tgt := 36) hx hb dX10_four_4 (by decide) (fun h9 => absurd h9 (by decide)) (fun _ => ?_)
  refine lv_aload_n hx hb dX10_four_7 rfl (lv_at hl 1 rfl) ?_
  refine gs_get (C := RX10) (T := TX10) (N := 59) hx hb hts inX10 hown hK hM 0 0 8 (by decide) rfl rfl (by decide) (hts _ gm_909) (fun _ h9 => h9) rfl dX10_four_8 ?_
  refine lv_aload_n hx hb dX10_four_11 rfl (lv_at hl 1 rfl) ?_
  refine gs_get (C := RX10) (T := TX10) (N := 59) hx hb hts inX10 hown hK hM 0 0 9 (by decide) rfl rfl (by decide) (hts _ gm_910) (fun _ h9 => h9) rfl dX10_four_12 ?_
  refine lv_topi (fun x_23 ex_23 => ?_)
  have ex_23 : x_21 = x_23 := Eq.symm (ex_23.trans ((congrFun (congrFun (congrFun est_22 0) 0) 9).trans (gU_same _ _ _ _ _)))
  subst ex_23
  refine lv_iload_n hx hb dX10_four_15 rfl (lv_at hl 2 rfl) ?_
  refine lv_iload_n hx hb dX10_four_16 rfl (lv_at hl 0 rfl) ?_
  refine lv_ishr hx hb dX10_four_17 ?_
  refine lv_topi (fun x_24 ex_24 => ?_)
  obtain ⟨x_25, ex_25⟩ : ∃ y : Int32, (x_24 : Int32).toInt8.toInt32 = y := ⟨_, rfl⟩
  refine lv_i2b hx hb dX10_four_18 ex_25 ?_
  refine gs_bast hx hb hK hI hm hM hS 7 0 (by decide) (fun _ => rfl) (vp_in_iff.mpr ⟨by omega, by omega⟩) dX10_four_19 (fun st_26 H locs est_26 hM hS => ?_)
  have hB_st_26 : gBN bM kM [9, 700] st st_26 := by rw [est_26]; exact hB_st_22.up (show (700 : Nat) ∈ _ from by decide) (gi_lo _) (gi_hi _)
  refine lv_aload_n hx hb dX10_four_20 rfl (lv_at hl 1 rfl) ?_
  refine lv_dup hx hb dX10_four_21 rfl ?_
  refine gs_get (C := RX10) (T := TX10) (N := 59) hx hb hts inX10 hown hK hM 0 0 9 (by decide) rfl rfl (by decide) (hts _ gm_910) (fun _ h9 => h9) rfl dX10_four_22 ?_
  refine lv_topi (fun x_27 ex_27 => ?_)
  have ex_27 : x_21 = x_27 := Eq.symm (ex_27.trans (((congrFun (congrFun (congrFun est_26 0) 0) 9).trans (congrFun (congrFun (gU_k (by decide)) 0) 9)).trans ((congrFun (congrFun (congrFun est_22 0) 0) 9).trans (gU_same _ _ _ _ _))))
  subst ex_27
  refine lv_iconst (v := 1) hx hb dX10_four_25 (by decide) ?_
  refine lv_iadd hx hb dX10_four_26 ?_
  refine lv_topi (fun x_28 ex_28 => ?_)
  try have tx_28 : x_28.toInt = x_21.toInt + 1 := by rw [ex_28]; exact gz_addP (x := x_21.toInt) (y := 1) rfl (by decide) (by omega) (by omega)
  refine gs_put (C := RX10) (T := TX10) (N := 59) (ty := .int) (val := .int x_28) hx hb hts inX10 tyX10 tyX10_ok nmX10 hown hK hI hm hM hS 0 0 9 (by decide) rfl rfl (by decide) (hts _ gm_910) (fun _ h9 => h9) rfl (x_28 : Int32) rfl (by decide +kernel) rfl rfl (Nat.le_of_ble_eq_true rfl) dX10_four_27 (fun st_29 H locs est_29 hM hS => ?_)
  have hB_st_29 : gBN bM kM [9, 700] st st_29 := by rw [est_29]; exact hB_st_26.up (show (9 : Nat) ∈ _ from by decide) (show (0 : Int) ≤ x_28.toInt from by omega) (show x_28.toInt ≤ (800 : Int) from by omega)
  refine lv_iinc (v := ((-8))) (lv' := [(2, .int (-8)), (0, .ref (ad 0 0)), (1, .int x)]) hx hb dX10_four_30 hl (k := 0) rfl (by decide) (by decide) rfl (fun ls hl => ?_)
  refine lv_goto (tgt := 3) hx hb dX10_four_33 (by decide) ?_
  refine lv_iload_n hx hb dX10_four_3 rfl (lv_at hl 0 rfl) ?_
  refine lv_if_lt (tgt := 36) hx hb dX10_four_4 (by decide) (fun _ => ?_) (fun h9 => absurd (by decide) h9)
  exact gs_vret hx hb hr hlocks hM hS ⟨hB_st_29, (by have hq0 : (st_29 0 0 9).toInt = (x_28 : Int32).toInt := congrArg Int32.toInt (((congrFun (congrFun (congrFun est_29 0) 0) 9).trans (gU_same _ _ _ _ _))); have hb1 : (0 : Int) ≤ (st_29 0 0 9).toInt ∧ (st_29 0 0 9).toInt ≤ (800 : Int) := hB_st_29.1 0 0 9; have hb2 : (0 : Int) ≤ (st 0 0 9).toInt ∧ (st 0 0 9).toInt ≤ (800 : Int) := hB_st.1 0 0 9; omega)⟩ (by exact Nat.le_refl _) (by exact Nat.le_refl _) dX10_four_36

set_option maxHeartbeats 4000000 in
set_option maxRecDepth 100000 in
/-- WellCourtModel.feed -/
theorem m_feed (l : Launch) (G : va_G) (cy : Nat → ClassId) (sK sV : Nat → Nat) (ad : Nat → Nat → Nat) (sz : Nat) (st : gS) (hB : gBd bM st) (x : Int32) (y : Int32) (w : Int32) (v : Int32) (t : Int32) : gsMi l yX10_feed cX10_feed 6 (some .int) ({ frames := 1, cells := 0, slots := 0, locals := 22 } : Room) G cy sK sV (shM cy ad) cnM ad sz [.ref (ad 0 0), .int x, .int y, .int w, .int v, .int t] st (fun (r : Int32) (u : gS) => gBN bM kM [0, 9, 700] st u ∧ (((r.toInt = -1 ∧ 780 < (st 0 0 9).toInt ∧ (u 0 0 9).toInt = (st 0 0 9).toInt) ∨ ((st 0 0 9).toInt ≤ 780 ∧ r.toInt = (st 0 0 9).toInt + 20 ∧ (u 0 0 9).toInt = (st 0 0 9).toInt + 20)))) := by
  refine gs_start (fun A => gsQi G (shM cy ad) cnM ad _ A) (by decide) (Nat.le_of_ble_eq_true rfl) ?_
  intro p e s m below meth c A ls H hx hb hr hml hlocks hown hts hK hov hE hI hM hm hS hA hl
  have hl : lv_has ls 6 [(0, .ref (ad 0 0)), (1, .int x), (2, .int y), (3, .int w), (4, .int v), (5, .int t)] := hl
  have hB_st : gBN bM kM [0, 9, 700] st st := gBN.rf hB
  refine lv_aload_n hx hb dX10_feed_0 rfl (lv_at hl 0 rfl) ?_
  refine lv_iconst (v := 0) hx hb dX10_feed_1 (by decide) ?_
  refine gs_put (C := RX10) (T := TX10) (N := 59) (ty := .int) (val := .int 0) hx hb hts inX10 tyX10 tyX10_ok nmX10 hown hK hI hm hM hS 0 0 0 (by decide) rfl rfl (by decide) (hts _ gm_901) (fun _ h9 => h9) rfl (0 : Int32) rfl (by decide +kernel) rfl rfl (Nat.le_of_ble_eq_true rfl) dX10_feed_2 (fun st_1 H locs est_1 hM hS => ?_)
  have hB_st_1 : gBN bM kM [0, 9, 700] st st_1 := by rw [est_1]; exact hB_st.up (show (0 : Nat) ∈ _ from by decide) (gi_lo _) (gi_hi _)
  refine lv_aload_n hx hb dX10_feed_5 rfl (lv_at hl 0 rfl) ?_
  refine gs_get (C := RX10) (T := TX10) (N := 59) hx hb hts inX10 hown hK hM 0 0 9 (by decide) rfl rfl (by decide) (hts _ gm_910) (fun _ h9 => h9) rfl dX10_feed_6 ?_
  refine lv_topi (fun x_2 ex_2 => ?_)
  have ex_2 : (st 0 0 9) = x_2 := Eq.symm (ex_2.trans ((congrFun (congrFun (congrFun est_1 0) 0) 9).trans (gU_other (by decide))))
  subst ex_2
  have bf_3 : (0 : Int) ≤ (st 0 0 9).toInt ∧ (st 0 0 9).toInt ≤ (800 : Int) := hB_st.1 0 0 9
  refine lv_bipush (v := 20) hx hb dX10_feed_9 (by decide) ?_
  refine lv_iadd hx hb dX10_feed_11 ?_
  refine lv_topi (fun x_4 ex_4 => ?_)
  try have tx_4 : x_4.toInt = (st 0 0 9).toInt + 20 := by rw [ex_4]; exact gz_addP (x := (st 0 0 9).toInt) (y := 20) rfl (by decide) (by omega) (by omega)
  refine lv_sipush (v := 800) hx hb dX10_feed_12 (by decide) ?_
  refine lv_icmp_le (tgt := 20) hx hb dX10_feed_15 (by decide) (fun c_5 => ?_) (fun c_5 => ?_)
  · have ic_5 := gz_le (rfl : x_4.toInt = x_4.toInt) (by decide : (800 : Int32).toInt = 800) c_5
    refine lv_aload_n hx hb dX10_feed_20 rfl (lv_at hl 0 rfl) ?_
    refine lv_iload_n hx hb dX10_feed_21 rfl (lv_at hl 1 rfl) ?_
    refine gs_callv (va_runV (As := [.int x]) (rest := []) ⟨hx, hb, hml, hown, hts⟩ (m_four l G cy sK sV ad H.size st_1 hB_st_1.1 x (by have hq0 : (st_1 0 0 9).toInt = ((st 0 0 9) : Int32).toInt := congrArg Int32.toInt (((congrFun (congrFun (congrFun est_1 0) 0) 9).trans (gU_other (by decide)))); have hb1 : (0 : Int) ≤ (st_1 0 0 9).toInt ∧ (st_1 0 0 9).toInt ≤ (800 : Int) := hB_st_1.1 0 0 9; omega)) ⟨(gz_cb (n := 1) hts gm_1088 gm_12 gm_1091 ⟨by decide +kernel, by decide +kernel, by decide +kernel⟩ ⟨Nat.le_of_ble_eq_true rfl, Nat.le_of_ble_eq_true rfl⟩), hts _ gm_1090, hts _ gs_31⟩ (gs_preV hK hov hE hI hM hm hS hA 0 0 (by decide) rfl rfl) rfl rfl hl.1 rfl (lv_room (Nat.le_of_ble_eq_true rfl)) dX10_feed_22 ⟨Nat.le_of_ble_eq_true rfl, Nat.le_of_ble_eq_true rfl⟩) hm hS hA (fun st_6 H locs hw_6 hM hS => ?_)
    obtain ⟨n_6, hw_6⟩ := hw_6
    have hB_st_6 : gBN bM kM [0, 9, 700] st st_6 := hB_st_1.call n_6 (by decide)
    have hqhw_60 : (st_1 0 0 9).toInt = ((st 0 0 9) : Int32).toInt := congrArg Int32.toInt (((congrFun (congrFun (congrFun est_1 0) 0) 9).trans (gU_other (by decide))))
    have hbhw_61 : (0 : Int) ≤ (st_1 0 0 9).toInt ∧ (st_1 0 0 9).toInt ≤ (800 : Int) := hB_st_1.1 0 0 9
    have hw_6_0 := hw_6
    refine lv_aload_n hx hb dX10_feed_25 rfl (lv_at hl 0 rfl) ?_
    refine lv_iload_n hx hb dX10_feed_26 rfl (lv_at hl 2 rfl) ?_
    refine gs_callv (va_runV (As := [.int y]) (rest := []) ⟨hx, hb, hml, hown, hts⟩ (m_four l G cy sK sV ad H.size st_6 hB_st_6.1 y (by have hb0 : (0 : Int) ≤ (st_6 0 0 9).toInt ∧ (st_6 0 0 9).toInt ≤ (800 : Int) := hB_st_6.1 0 0 9; omega)) ⟨(gz_cb (n := 1) hts gm_1088 gm_12 gm_1091 ⟨by decide +kernel, by decide +kernel, by decide +kernel⟩ ⟨Nat.le_of_ble_eq_true rfl, Nat.le_of_ble_eq_true rfl⟩), hts _ gm_1090, hts _ gs_31⟩ (gs_preV hK hov hE hI hM hm hS hA 0 0 (by decide) rfl rfl) rfl rfl hl.1 rfl (lv_room (Nat.le_of_ble_eq_true rfl)) dX10_feed_27 ⟨Nat.le_of_ble_eq_true rfl, Nat.le_of_ble_eq_true rfl⟩) hm hS hA (fun st_7 H locs hw_7 hM hS => ?_)
    obtain ⟨n_7, hw_7⟩ := hw_7
    have hB_st_7 : gBN bM kM [0, 9, 700] st st_7 := hB_st_6.call n_7 (by decide)
    have hbhw_70 : (0 : Int) ≤ (st_6 0 0 9).toInt ∧ (st_6 0 0 9).toInt ≤ (800 : Int) := hB_st_6.1 0 0 9
    have hw_7_0 := hw_7
    refine lv_aload_n hx hb dX10_feed_30 rfl (lv_at hl 0 rfl) ?_
    refine lv_iload_n hx hb dX10_feed_31 rfl (lv_at hl 3 rfl) ?_
    refine gs_callv (va_runV (As := [.int w]) (rest := []) ⟨hx, hb, hml, hown, hts⟩ (m_four l G cy sK sV ad H.size st_7 hB_st_7.1 w (by have hb0 : (0 : Int) ≤ (st_7 0 0 9).toInt ∧ (st_7 0 0 9).toInt ≤ (800 : Int) := hB_st_7.1 0 0 9; omega)) ⟨(gz_cb (n := 1) hts gm_1088 gm_12 gm_1091 ⟨by decide +kernel, by decide +kernel, by decide +kernel⟩ ⟨Nat.le_of_ble_eq_true rfl, Nat.le_of_ble_eq_true rfl⟩), hts _ gm_1090, hts _ gs_31⟩ (gs_preV hK hov hE hI hM hm hS hA 0 0 (by decide) rfl rfl) rfl rfl hl.1 rfl (lv_room (Nat.le_of_ble_eq_true rfl)) dX10_feed_32 ⟨Nat.le_of_ble_eq_true rfl, Nat.le_of_ble_eq_true rfl⟩) hm hS hA (fun st_8 H locs hw_8 hM hS => ?_)
    obtain ⟨n_8, hw_8⟩ := hw_8
    have hB_st_8 : gBN bM kM [0, 9, 700] st st_8 := hB_st_7.call n_8 (by decide)
    have hbhw_80 : (0 : Int) ≤ (st_7 0 0 9).toInt ∧ (st_7 0 0 9).toInt ≤ (800 : Int) := hB_st_7.1 0 0 9
    have hw_8_0 := hw_8
    refine lv_aload_n hx hb dX10_feed_35 rfl (lv_at hl 0 rfl) ?_
    refine lv_iload hx hb dX10_feed_36 (lv_at hl 4 rfl) ?_
    refine gs_callv (va_runV (As := [.int v]) (rest := []) ⟨hx, hb, hml, hown, hts⟩ (m_four l G cy sK sV ad H.size st_8 hB_st_8.1 v (by have hb0 : (0 : Int) ≤ (st_8 0 0 9).toInt ∧ (st_8 0 0 9).toInt ≤ (800 : Int) := hB_st_8.1 0 0 9; omega)) ⟨(gz_cb (n := 1) hts gm_1088 gm_12 gm_1091 ⟨by decide +kernel, by decide +kernel, by decide +kernel⟩ ⟨Nat.le_of_ble_eq_true rfl, Nat.le_of_ble_eq_true rfl⟩), hts _ gm_1090, hts _ gs_31⟩ (gs_preV hK hov hE hI hM hm hS hA 0 0 (by decide) rfl rfl) rfl rfl hl.1 rfl (lv_room (Nat.le_of_ble_eq_true rfl)) dX10_feed_38 ⟨Nat.le_of_ble_eq_true rfl, Nat.le_of_ble_eq_true rfl⟩) hm hS hA (fun st_9 H locs hw_9 hM hS => ?_)
    obtain ⟨n_9, hw_9⟩ := hw_9
    have hB_st_9 : gBN bM kM [0, 9, 700] st st_9 := hB_st_8.call n_9 (by decide)
    have hbhw_90 : (0 : Int) ≤ (st_8 0 0 9).toInt ∧ (st_8 0 0 9).toInt ≤ (800 : Int) := hB_st_8.1 0 0 9
    have hw_9_0 := hw_9
    refine lv_aload_n hx hb dX10_feed_41 rfl (lv_at hl 0 rfl) ?_
    refine lv_iload hx hb dX10_feed_42 (lv_at hl 5 rfl) ?_
    refine gs_callv (va_runV (As := [.int t]) (rest := []) ⟨hx, hb, hml, hown, hts⟩ (m_four l G cy sK sV ad H.size st_9 hB_st_9.1 t (by have hb0 : (0 : Int) ≤ (st_9 0 0 9).toInt ∧ (st_9 0 0 9).toInt ≤ (800 : Int) := hB_st_9.1 0 0 9; omega)) ⟨(gz_cb (n := 1) hts gm_1088 gm_12 gm_1091 ⟨by decide +kernel, by decide +kernel, by decide +kernel⟩ ⟨Nat.le_of_ble_eq_true rfl, Nat.le_of_ble_eq_true rfl⟩), hts _ gm_1090, hts _ gs_31⟩ (gs_preV hK hov hE hI hM hm hS hA 0 0 (by decide) rfl rfl) rfl rfl hl.1 rfl (lv_room (Nat.le_of_ble_eq_true rfl)) dX10_feed_44 ⟨Nat.le_of_ble_eq_true rfl, Nat.le_of_ble_eq_true rfl⟩) hm hS hA (fun st_10 H locs hw_10 hM hS => ?_)
    obtain ⟨n_10, hw_10⟩ := hw_10
    have hB_st_10 : gBN bM kM [0, 9, 700] st st_10 := hB_st_9.call n_10 (by decide)
    have hbhw_100 : (0 : Int) ≤ (st_9 0 0 9).toInt ∧ (st_9 0 0 9).toInt ≤ (800 : Int) := hB_st_9.1 0 0 9
    have hw_10_0 := hw_10
    refine lv_aload_n hx hb dX10_feed_47 rfl (lv_at hl 0 rfl) ?_
    refine gs_get (C := RX10) (T := TX10) (N := 59) hx hb hts inX10 hown hK hM 0 0 9 (by decide) rfl rfl (by decide) (hts _ gm_910) (fun _ h9 => h9) rfl dX10_feed_48 ?_
    have bf_11 : (0 : Int) ≤ (st_10 0 0 9).toInt ∧ (st_10 0 0 9).toInt ≤ (800 : Int) := hB_st_10.1 0 0 9
    exact gs_iret hx hb hr hlocks hM hS rfl ⟨hB_st_10, (by have hb0 : (0 : Int) ≤ (st 0 0 9).toInt ∧ (st 0 0 9).toInt ≤ (800 : Int) := hB_st.1 0 0 9; have hb1 : (0 : Int) ≤ (st_10 0 0 9).toInt ∧ (st_10 0 0 9).toInt ≤ (800 : Int) := hB_st_10.1 0 0 9; omega)⟩ (by exact Nat.le_refl _) (by exact Nat.le_refl _) dX10_feed_51
  · have ic_5 := gz_nle (rfl : x_4.toInt = x_4.toInt) (by decide : (800 : Int32).toInt = 800) c_5
    refine lv_iconst (v := (-1)) hx hb dX10_feed_18 (by decide) ?_
    exact gs_iret hx hb hr hlocks hM hS rfl ⟨hB_st_1, (by have hl0 : ((-1) : Int32).toInt = -1 := (by decide); have hb1 : (0 : Int) ≤ (st 0 0 9).toInt ∧ (st 0 0 9).toInt ≤ (800 : Int) := hB_st.1 0 0 9; have hq2 : (st_1 0 0 9).toInt = ((st 0 0 9) : Int32).toInt := congrArg Int32.toInt (((congrFun (congrFun (congrFun est_1 0) 0) 9).trans (gU_other (by decide)))); have hb3 : (0 : Int) ≤ (st_1 0 0 9).toInt ∧ (st_1 0 0 9).toInt ≤ (800 : Int) := hB_st_1.1 0 0 9; omega)⟩ (by exact Nat.le_refl _) (by exact Nat.le_refl _) dX10_feed_19

set_option maxHeartbeats 4000000 in
set_option maxRecDepth 100000 in
/-- WellCourtModel.end -/
theorem m_end (l : Launch) (G : va_G) (cy : Nat → ClassId) (sK sV : Nat → Nat) (ad : Nat → Nat → Nat) (sz : Nat) (st : gS) (hB : gBd bM st) (x : Int32) (Xx : Int) (kx : x.toInt = Xx) : gsMi l yX10_end cX10_end 2 (some .boolean) ({ frames := 0, cells := 0, slots := 0, locals := 0 } : Room) G cy sK sV (shM cy ad) cnM ad sz [.ref (ad 0 0), .int x] st (fun (r : Int32) (u : gS) => gBN bM kM [0, 9] st u ∧ ((r = 1 ∧ (0 ≤ Xx) ∧ (Xx ≤ (st 0 0 9).toInt) ∧ ((u 0 0 9).toInt = Xx)) ∨ (r = 0 ∧ (Xx < 0 ∨ (st 0 0 9).toInt < Xx) ∧ ((u 0 0 9).toInt = (st 0 0 9).toInt)))) := by
  refine gs_start (fun A => gsQi G (shM cy ad) cnM ad _ A) (by decide) (Nat.le_of_ble_eq_true rfl) ?_
  intro p e s m below meth c A ls H hx hb hr hml hlocks hown hts hK hov hE hI hM hm hS hA hl
  have hl : lv_has ls 2 [(0, .ref (ad 0 0)), (1, .int x)] := hl
  have hB_st : gBN bM kM [0, 9] st st := gBN.rf hB
  refine lv_aload_n hx hb dX10_end_0 rfl (lv_at hl 0 rfl) ?_
  refine lv_iconst (v := 0) hx hb dX10_end_1 (by decide) ?_
  refine gs_put (C := RX10) (T := TX10) (N := 59) (ty := .int) (val := .int 0) hx hb hts inX10 tyX10 tyX10_ok nmX10 hown hK hI hm hM hS 0 0 0 (by decide) rfl rfl (by decide) (hts _ gm_901) (fun _ h9 => h9) rfl (0 : Int32) rfl (by decide +kernel) rfl rfl (Nat.le_of_ble_eq_true rfl) dX10_end_2 (fun st_1 H locs est_1 hM hS => ?_)
  have hB_st_1 : gBN bM kM [0, 9] st st_1 := by rw [est_1]; exact hB_st.up (show (0 : Nat) ∈ _ from by decide) (gi_lo _) (gi_hi _)
  refine lv_iload_n hx hb dX10_end_5 rfl (lv_at hl 1 rfl) ?_
  refine lv_if_lt (tgt := 17) hx hb dX10_end_6 (by decide) (fun c_2 => ?_) (fun c_2 => ?_)
  · have ic_2 := gz_lt (rfl : x.toInt = x.toInt) (by decide : (0 : Int32).toInt = 0) c_2
    refine lv_iconst (v := 0) hx hb dX10_end_17 (by decide) ?_
    exact gs_iret hx hb hr hlocks hM hS (by decide) ⟨hB_st_1, (Or.inr (⟨rfl, (by have hl0 : (0 : Int32).toInt = 0 := (by decide); have hb1 : (0 : Int) ≤ (st 0 0 9).toInt ∧ (st 0 0 9).toInt ≤ (800 : Int) := hB_st.1 0 0 9; omega), (by have hl0 : (0 : Int32).toInt = 0 := (by decide); have hq1 : (st_1 0 0 9).toInt = ((st 0 0 9) : Int32).toInt := congrArg Int32.toInt (((congrFun (congrFun (congrFun est_1 0) 0) 9).trans (gU_other (by decide)))); have hb2 : (0 : Int) ≤ (st_1 0 0 9).toInt ∧ (st_1 0 0 9).toInt ≤ (800 : Int) := hB_st_1.1 0 0 9; have hb3 : (0 : Int) ≤ (st 0 0 9).toInt ∧ (st 0 0 9).toInt ≤ (800 : Int) := hB_st.1 0 0 9; omega)⟩))⟩ (by exact Nat.le_refl _) (by exact Nat.le_refl _) dX10_end_18
  · have ic_2 := gz_nlt (rfl : x.toInt = x.toInt) (by decide : (0 : Int32).toInt = 0) c_2
    refine lv_iload_n hx hb dX10_end_9 rfl (lv_at hl 1 rfl) ?_
    refine lv_aload_n hx hb dX10_end_10 rfl (lv_at hl 0 rfl) ?_
    refine gs_get (C := RX10) (T := TX10) (N := 59) hx hb hts inX10 hown hK hM 0 0 9 (by decide) rfl rfl (by decide) (hts _ gm_910) (fun _ h9 => h9) rfl dX10_end_11 ?_
    refine lv_topi (fun x_3 ex_3 => ?_)
    have ex_3 : (st 0 0 9) = x_3 := Eq.symm (ex_3.trans ((congrFun (congrFun (congrFun est_1 0) 0) 9).trans (gU_other (by decide))))
    subst ex_3
    have bf_4 : (0 : Int) ≤ (st 0 0 9).toInt ∧ (st 0 0 9).toInt ≤ (800 : Int) := hB_st.1 0 0 9
    refine lv_icmp_le (tgt := 19) hx hb dX10_end_14 (by decide) (fun c_5 => ?_) (fun c_5 => ?_)
    · have ic_5 := gz_le (rfl : x.toInt = x.toInt) (rfl : (st 0 0 9).toInt = (st 0 0 9).toInt) c_5
      refine lv_aload_n hx hb dX10_end_19 rfl (lv_at hl 0 rfl) ?_
      refine lv_iload_n hx hb dX10_end_20 rfl (lv_at hl 1 rfl) ?_
      refine gs_put (C := RX10) (T := TX10) (N := 59) (ty := .int) (val := .int x) hx hb hts inX10 tyX10 tyX10_ok nmX10 hown hK hI hm hM hS 0 0 9 (by decide) rfl rfl (by decide) (hts _ gm_910) (fun _ h9 => h9) rfl (x : Int32) rfl (by decide +kernel) rfl rfl (Nat.le_of_ble_eq_true rfl) dX10_end_21 (fun st_6 H locs est_6 hM hS => ?_)
      have hB_st_6 : gBN bM kM [0, 9] st st_6 := by rw [est_6]; exact hB_st_1.up (show (9 : Nat) ∈ _ from by decide) (show (0 : Int) ≤ x.toInt from by omega) (show x.toInt ≤ (800 : Int) from by omega)
      refine lv_iconst (v := 1) hx hb dX10_end_24 (by decide) ?_
      exact gs_iret hx hb hr hlocks hM hS (by decide) ⟨hB_st_6, (Or.inl (⟨rfl, (by have hl0 : (1 : Int32).toInt = 1 := (by decide); omega), (by have hl0 : (1 : Int32).toInt = 1 := (by decide); have hb1 : (0 : Int) ≤ (st 0 0 9).toInt ∧ (st 0 0 9).toInt ≤ (800 : Int) := hB_st.1 0 0 9; omega), (by have hl0 : (1 : Int32).toInt = 1 := (by decide); have hq1 : (st_6 0 0 9).toInt = (x : Int32).toInt := congrArg Int32.toInt (((congrFun (congrFun (congrFun est_6 0) 0) 9).trans (gU_same _ _ _ _ _))); have hb2 : (0 : Int) ≤ (st_6 0 0 9).toInt ∧ (st_6 0 0 9).toInt ≤ (800 : Int) := hB_st_6.1 0 0 9; omega)⟩))⟩ (by exact Nat.le_refl _) (by exact Nat.le_refl _) dX10_end_25
    · have ic_5 := gz_nle (rfl : x.toInt = x.toInt) (rfl : (st 0 0 9).toInt = (st 0 0 9).toInt) c_5
      have lc_5 := gi_hi x
      refine lv_iconst (v := 0) hx hb dX10_end_17 (by decide) ?_
      exact gs_iret hx hb hr hlocks hM hS (by decide) ⟨hB_st_1, (Or.inr (⟨rfl, (by have hl0 : (0 : Int32).toInt = 0 := (by decide); have hb1 : (0 : Int) ≤ (st 0 0 9).toInt ∧ (st 0 0 9).toInt ≤ (800 : Int) := hB_st.1 0 0 9; omega), (by have hl0 : (0 : Int32).toInt = 0 := (by decide); have hq1 : (st_1 0 0 9).toInt = ((st 0 0 9) : Int32).toInt := congrArg Int32.toInt (((congrFun (congrFun (congrFun est_1 0) 0) 9).trans (gU_other (by decide)))); have hb2 : (0 : Int) ≤ (st_1 0 0 9).toInt ∧ (st_1 0 0 9).toInt ≤ (800 : Int) := hB_st_1.1 0 0 9; have hb3 : (0 : Int) ≤ (st 0 0 9).toInt ∧ (st 0 0 9).toInt ≤ (800 : Int) := hB_st.1 0 0 9; omega)⟩))⟩ (by exact Nat.le_refl _) (by exact Nat.le_refl _) dX10_end_18

set_option maxHeartbeats 4000000 in
set_option maxRecDepth 100000 in
/-- WellCourtModel.peek -/
theorem m_peek (l : Launch) (G : va_G) (cy : Nat → ClassId) (sK sV : Nat → Nat) (ad : Nat → Nat → Nat) (sz : Nat) (st : gS) (hB : gBd bM st) (F : Nat → Int32) (N : Int) (hF : st 7 0 = F) (hN : (st 0 0 10).toInt = N) : gsMi l yX10_peek cX10_peek 1 (some .int) ({ frames := 0, cells := 0, slots := 0, locals := 0 } : Room) G cy sK sV (shM cy ad) cnM ad sz [.ref (ad 0 0)] st (fun (r : Int32) (u : gS) => gBN bM kM [] st u ∧ ((r.toInt = bA F N (st 0 0 11).toInt) ∧ (-1 ≤ r.toInt) ∧ (r.toInt ≤ 255))) := by
  refine gs_start (fun A => gsQi G (shM cy ad) cnM ad _ A) (by decide) (Nat.le_of_ble_eq_true rfl) ?_
  intro p e s m below meth c A ls H hx hb hr hml hlocks hown hts hK hov hE hI hM hm hS hA hl
  have hl : lv_has ls 1 [(0, .ref (ad 0 0))] := hl
  have hB_st : gBN bM kM [] st st := gBN.rf hB
  have bp9 : (0 : Int) ≤ (st 0 0 11).toInt ∧ (st 0 0 11).toInt ≤ (800 : Int) := hB 0 0 11
  refine lv_aload_n hx hb dX10_peek_0 rfl (lv_at hl 0 rfl) ?_
  refine gs_get (C := RX10) (T := TX10) (N := 59) hx hb hts inX10 hown hK hM 0 0 11 (by decide) rfl rfl (by decide) (hts _ gm_912) (fun _ h9 => h9) rfl dX10_peek_1 ?_
  have bf_1 : (0 : Int) ≤ (st 0 0 11).toInt ∧ (st 0 0 11).toInt ≤ (800 : Int) := hB_st.1 0 0 11
  refine lv_aload_n hx hb dX10_peek_4 rfl (lv_at hl 0 rfl) ?_
  refine gs_get (C := RX10) (T := TX10) (N := 59) hx hb hts inX10 hown hK hM 0 0 10 (by decide) rfl rfl (by decide) (hts _ gm_911) (fun _ h9 => h9) rfl dX10_peek_5 ?_
  have bf_2 : (0 : Int) ≤ (st 0 0 10).toInt ∧ (st 0 0 10).toInt ≤ (800 : Int) := hB_st.1 0 0 10
  refine lv_icmp_ge (tgt := 27) hx hb dX10_peek_8 (by decide) (fun c_3 => ?_) (fun c_3 => ?_)
  · have ic_3 := gz_le (rfl : (st 0 0 10).toInt = (st 0 0 10).toInt) (rfl : (st 0 0 11).toInt = (st 0 0 11).toInt) c_3
    refine lv_iconst (v := (-1)) hx hb dX10_peek_27 (by decide) ?_
    exact gs_iret hx hb hr hlocks hM hS rfl ⟨hB_st, (by rw [bA_no (by omega)]; decide), (by decide), (by decide)⟩ (by exact Nat.le_refl _) (by exact Nat.le_refl _) dX10_peek_28
  · have ic_3 := gz_nle (rfl : (st 0 0 10).toInt = (st 0 0 10).toInt) (rfl : (st 0 0 11).toInt = (st 0 0 11).toInt) c_3
    have lc_3 := gi_hi (st 0 0 10)
    refine lv_aload_n hx hb dX10_peek_11 rfl (lv_at hl 0 rfl) ?_
    refine gs_get (C := RX10) (T := TX10) (N := 59) hx hb hts inX10 hown hK hM 0 0 8 (by decide) rfl rfl (by decide) (hts _ gm_909) (fun _ h9 => h9) rfl dX10_peek_12 ?_
    refine lv_aload_n hx hb dX10_peek_15 rfl (lv_at hl 0 rfl) ?_
    refine gs_get (C := RX10) (T := TX10) (N := 59) hx hb hts inX10 hown hK hM 0 0 11 (by decide) rfl rfl (by decide) (hts _ gm_912) (fun _ h9 => h9) rfl dX10_peek_16 ?_
    have bf_4 : (0 : Int) ≤ (st 0 0 11).toInt ∧ (st 0 0 11).toInt ≤ (800 : Int) := hB_st.1 0 0 11
    refine gs_bald hx hb hK hM 7 0 (by decide) rfl (vp_in_iff.mpr ⟨by omega, by omega⟩) dX10_peek_19 ?_
    refine lv_topi (fun x_5 ex_5 => ?_)
    have qx_5 : x_5.toInt = (st 7 0 ((st 0 0 11).toNatClampNeg)).toInt := congrArg Int32.toInt ex_5
    refine lv_sipush (v := 255) hx hb dX10_peek_20 (by decide) ?_
    refine lv_iand hx hb dX10_peek_23 ?_
    refine lv_topi (fun x_6 ex_6 => ?_)
    refine lv_goto (tgt := 28) hx hb dX10_peek_24 (by decide) ?_
    exact gs_iret hx hb hr hlocks hM hS rfl ⟨hB_st, (by rw [bA_yes (by omega) (by omega), ex_6, ex_5, ← hF]; rfl), (by have h9 : x_6.toInt = bA F N (st 0 0 11).toInt := (by rw [bA_yes (by omega) (by omega), ex_6, ex_5, ← hF]; rfl); have h8 := bA_rng F N (st 0 0 11).toInt; omega), (by have h9 : x_6.toInt = bA F N (st 0 0 11).toInt := (by rw [bA_yes (by omega) (by omega), ex_6, ex_5, ← hF]; rfl); have h8 := bA_rng F N (st 0 0 11).toInt; omega)⟩ (by exact Nat.le_refl _) (by exact Nat.le_refl _) dX10_peek_28

set_option maxHeartbeats 4000000 in
set_option maxRecDepth 100000 in
/-- WellCourtModel.isSmall -/
theorem m_isSmall (l : Launch) (G : va_G) (cy : Nat → ClassId) (sK sV : Nat → Nat) (ad : Nat → Nat → Nat) (sz : Nat) (st : gS) (hB : gBd bM st) (x : Int32) (Xx : Int) (kx : x.toInt = Xx) : gsMi l yX10_isSmall cX10_isSmall 1 (some .boolean) ({ frames := 0, cells := 0, slots := 0, locals := 0 } : Room) G cy sK sV (shM cy ad) cnM ad sz [.int x] st (fun (r : Int32) (u : gS) => gBN bM kM [] st u ∧ ((r = 1 ∧ (97 ≤ Xx) ∧ (Xx ≤ 122)) ∨ (r = 0 ∧ (Xx < 97 ∨ 122 < Xx)))) := by
  refine gs_start (fun A => gsQi G (shM cy ad) cnM ad _ A) (by decide) (Nat.le_of_ble_eq_true rfl) ?_
  intro p e s m below meth c A ls H hx hb hr hml hlocks hown hts hK hov hE hI hM hm hS hA hl
  have hl : lv_has ls 1 [(0, .int x)] := hl
  have hB_st : gBN bM kM [] st st := gBN.rf hB
  refine lv_iload_n hx hb dX10_isSmall_0 rfl (lv_at hl 0 rfl) ?_
  refine lv_bipush (v := 97) hx hb dX10_isSmall_1 (by decide) ?_
  refine lv_icmp_lt (tgt := 16) hx hb dX10_isSmall_3 (by decide) (fun c_1 => ?_) (fun c_1 => ?_)
  · have ic_1 := gz_lt (rfl : x.toInt = x.toInt) (by decide : (97 : Int32).toInt = 97) c_1
    refine lv_iconst (v := 0) hx hb dX10_isSmall_16 (by decide) ?_
    exact gs_iret hx hb hr hlocks hM hS (by decide) ⟨hB_st, (Or.inr (⟨rfl, (by have hl0 : (0 : Int32).toInt = 0 := (by decide); omega)⟩))⟩ (by exact Nat.le_refl _) (by exact Nat.le_refl _) dX10_isSmall_17
  · have ic_1 := gz_nlt (rfl : x.toInt = x.toInt) (by decide : (97 : Int32).toInt = 97) c_1
    refine lv_iload_n hx hb dX10_isSmall_6 rfl (lv_at hl 0 rfl) ?_
    refine lv_bipush (v := 122) hx hb dX10_isSmall_7 (by decide) ?_
    refine lv_icmp_gt (tgt := 16) hx hb dX10_isSmall_9 (by decide) (fun c_2 => ?_) (fun c_2 => ?_)
    · have ic_2 := gz_lt (by decide : (122 : Int32).toInt = 122) (rfl : x.toInt = x.toInt) c_2
      refine lv_iconst (v := 0) hx hb dX10_isSmall_16 (by decide) ?_
      exact gs_iret hx hb hr hlocks hM hS (by decide) ⟨hB_st, (Or.inr (⟨rfl, (by have hl0 : (0 : Int32).toInt = 0 := (by decide); omega)⟩))⟩ (by exact Nat.le_refl _) (by exact Nat.le_refl _) dX10_isSmall_17
    · have ic_2 := gz_nlt (by decide : (122 : Int32).toInt = 122) (rfl : x.toInt = x.toInt) c_2
      refine lv_iconst (v := 1) hx hb dX10_isSmall_12 (by decide) ?_
      refine lv_goto (tgt := 17) hx hb dX10_isSmall_13 (by decide) ?_
      exact gs_iret hx hb hr hlocks hM hS (by decide) ⟨hB_st, (Or.inl (⟨rfl, (by have hl0 : (1 : Int32).toInt = 1 := (by decide); omega), (by have hl0 : (1 : Int32).toInt = 1 := (by decide); omega)⟩))⟩ (by exact Nat.le_refl _) (by exact Nat.le_refl _) dX10_isSmall_17

set_option maxHeartbeats 4000000 in
set_option maxRecDepth 100000 in
/-- WellCourtModel.isDigit -/
theorem m_isDigit (l : Launch) (G : va_G) (cy : Nat → ClassId) (sK sV : Nat → Nat) (ad : Nat → Nat → Nat) (sz : Nat) (st : gS) (hB : gBd bM st) (x : Int32) (Xx : Int) (kx : x.toInt = Xx) : gsMi l yX10_isDigit cX10_isDigit 1 (some .boolean) ({ frames := 0, cells := 0, slots := 0, locals := 0 } : Room) G cy sK sV (shM cy ad) cnM ad sz [.int x] st (fun (r : Int32) (u : gS) => gBN bM kM [] st u ∧ ((r = 1 ∧ (48 ≤ Xx) ∧ (Xx ≤ 57)) ∨ (r = 0 ∧ (Xx < 48 ∨ 57 < Xx)))) := by
  refine gs_start (fun A => gsQi G (shM cy ad) cnM ad _ A) (by decide) (Nat.le_of_ble_eq_true rfl) ?_
  intro p e s m below meth c A ls H hx hb hr hml hlocks hown hts hK hov hE hI hM hm hS hA hl
  have hl : lv_has ls 1 [(0, .int x)] := hl
  have hB_st : gBN bM kM [] st st := gBN.rf hB
  refine lv_iload_n hx hb dX10_isDigit_0 rfl (lv_at hl 0 rfl) ?_
  refine lv_bipush (v := 48) hx hb dX10_isDigit_1 (by decide) ?_
  refine lv_icmp_lt (tgt := 16) hx hb dX10_isDigit_3 (by decide) (fun c_1 => ?_) (fun c_1 => ?_)
  · have ic_1 := gz_lt (rfl : x.toInt = x.toInt) (by decide : (48 : Int32).toInt = 48) c_1
    refine lv_iconst (v := 0) hx hb dX10_isDigit_16 (by decide) ?_
    exact gs_iret hx hb hr hlocks hM hS (by decide) ⟨hB_st, (Or.inr (⟨rfl, (by have hl0 : (0 : Int32).toInt = 0 := (by decide); omega)⟩))⟩ (by exact Nat.le_refl _) (by exact Nat.le_refl _) dX10_isDigit_17
  · have ic_1 := gz_nlt (rfl : x.toInt = x.toInt) (by decide : (48 : Int32).toInt = 48) c_1
    refine lv_iload_n hx hb dX10_isDigit_6 rfl (lv_at hl 0 rfl) ?_
    refine lv_bipush (v := 57) hx hb dX10_isDigit_7 (by decide) ?_
    refine lv_icmp_gt (tgt := 16) hx hb dX10_isDigit_9 (by decide) (fun c_2 => ?_) (fun c_2 => ?_)
    · have ic_2 := gz_lt (by decide : (57 : Int32).toInt = 57) (rfl : x.toInt = x.toInt) c_2
      refine lv_iconst (v := 0) hx hb dX10_isDigit_16 (by decide) ?_
      exact gs_iret hx hb hr hlocks hM hS (by decide) ⟨hB_st, (Or.inr (⟨rfl, (by have hl0 : (0 : Int32).toInt = 0 := (by decide); omega)⟩))⟩ (by exact Nat.le_refl _) (by exact Nat.le_refl _) dX10_isDigit_17
    · have ic_2 := gz_nlt (by decide : (57 : Int32).toInt = 57) (rfl : x.toInt = x.toInt) c_2
      refine lv_iconst (v := 1) hx hb dX10_isDigit_12 (by decide) ?_
      refine lv_goto (tgt := 17) hx hb dX10_isDigit_13 (by decide) ?_
      exact gs_iret hx hb hr hlocks hM hS (by decide) ⟨hB_st, (Or.inl (⟨rfl, (by have hl0 : (1 : Int32).toInt = 1 := (by decide); omega), (by have hl0 : (1 : Int32).toInt = 1 := (by decide); omega)⟩))⟩ (by exact Nat.le_refl _) (by exact Nat.le_refl _) dX10_isDigit_17

set_option maxHeartbeats 4000000 in
set_option maxRecDepth 100000 in
/-- WellCourtModel.next0 -/
theorem m_next0 (l : Launch) (G : va_G) (cy : Nat → ClassId) (sK sV : Nat → Nat) (ad : Nat → Nat → Nat) (sz : Nat) (st : gS) (hB : gBd bM st) (F : Nat → Int32) (N : Int) (hF : st 7 0 = F) (hN : (st 0 0 10).toInt = N) : gsMv l yX10_next0 cX10_next0 5 ({ frames := 1, cells := 0, slots := 0, locals := 20 } : Room) G cy sK sV (shM cy ad) cnM ad sz [.ref (ad 0 0)] st (fun (u : gS) => gBN bM kM [11, 12, 13, 14, 17, 59] st u ∧ ((mCur F N (st 0 0 11).toInt u))) := by
  refine gs_start (fun A => gsQv G (shM cy ad) cnM ad _ A) (by decide) (Nat.le_of_ble_eq_true rfl) ?_
  intro p e s m below meth c A ls H hx hb hr hml hlocks hown hts hK hov hE hI hM hm hS hA hl
  have hl : lv_has ls 5 [(0, .ref (ad 0 0))] := hl
  have hB_st : gBN bM kM [11, 12, 13, 14, 17, 59] st st := gBN.rf hB
  generalize hQe : MQ below _ _ s _ _ A = Q
  have lp1 : ∀ (n1 : Nat) (sv1 : gS)  (H : Heap) (locs : List Loc) (ls : Array Slot), ((sv1 0 0 10).toInt - (sv1 0 0 11).toInt).toNat < n1 → gBN bM kM [11, 12, 13, 14, 17, 59] st sv1 → (tEnd F N blB (sv1 0 0 11).toInt = tEnd F N blB (st 0 0 11).toInt) → gM G (shM cy ad) cnM ad sv1 H → va_S A s.heap H locs → lv_has ls 5 [(0, .ref (ad 0 0))] → W p l e ({ frames := 1, cells := 0, slots := 0, locals := 20 } : Room) s m [.ref (ad 0 0)].toArray below meth c H locs 0 0 Q (F0 m 0 ls []) := by
    intro n1
    induction n1 with
    | zero => intro sv1  H locs ls h9; exact absurd h9 (Nat.not_lt_zero _)
    | succ n1 ih_1 =>
      intro sv1  H locs ls hme1 hB_sv1 hv1_0 hM hS hl
      have hq1_0 : (sv1 0 0 10).toInt = ((st 0 0 10) : Int32).toInt := congrArg Int32.toInt ((hB_sv1.2 0 0 10 (show (10 : Nat) ∉ _ from by decide)))
      have hb1_1 : (0 : Int) ≤ (sv1 0 0 10).toInt ∧ (sv1 0 0 10).toInt ≤ (800 : Int) := hB_sv1.1 0 0 10
      have hb1_2 : (0 : Int) ≤ (sv1 0 0 11).toInt ∧ (sv1 0 0 11).toInt ≤ (800 : Int) := hB_sv1.1 0 0 11
      have hb1_3 : (0 : Int) ≤ (st 0 0 11).toInt ∧ (st 0 0 11).toInt ≤ (800 : Int) := hB_st.1 0 0 11
      refine lv_aload_n hx hb dX10_next0_0 rfl (lv_at hl 0 rfl) ?_
      refine gs_calli (va_runV (As := []) (rest := []) ⟨hx, hb, hml, hown, hts⟩ (m_peek l G cy sK sV ad H.size sv1 hB_sv1.1  F N (((funext (fun j9 => hB_sv1.2 7 0 j9 (show (700 : Nat) ∉ _ from by decide))).trans rfl).trans hF) ((congrArg Int32.toInt ((hB_sv1.2 0 0 10 (show (10 : Nat) ∉ _ from by decide)))).trans hN)) ⟨(gz_cb (n := 0) hts gm_1104 gm_12 gm_1107 ⟨by decide +kernel, by decide +kernel, by decide +kernel⟩ ⟨Nat.le_of_ble_eq_true rfl, Nat.le_of_ble_eq_true rfl⟩), hts _ gm_1106, hts _ gs_33⟩ (gs_preV hK hov hE hI hM hm hS hA 0 0 (by decide) rfl rfl) rfl rfl hl.1 rfl (lv_room (Nat.le_of_ble_eq_true rfl)) dX10_next0_1 ⟨Nat.le_of_ble_eq_true rfl, Nat.le_of_ble_eq_true rfl⟩) hm hS hA (fun r_2 st_2 H locs hw_2 hM hS => ?_)
      obtain ⟨n_2, hw_2⟩ := hw_2
      have n_2 := gBN.nil n_2
      subst n_2
      have hbhw_20 : (0 : Int) ≤ (sv1 0 0 11).toInt ∧ (sv1 0 0 11).toInt ≤ (800 : Int) := hB_sv1.1 0 0 11
      obtain ⟨hw_2_0, hw_2_1, hw_2_2⟩ := hw_2
      refine lv_bipush (v := 32) hx hb dX10_next0_4 (by decide) ?_
      refine lv_icmp_eq (tgt := 18) hx hb dX10_next0_6 (by decide) (fun c_3 => ?_) (fun c_3 => ?_)
      · have ic_3 := gz_eq (rfl : r_2.toInt = r_2.toInt) (by decide : (32 : Int32).toInt = 32) c_3
        have hin9 := bA_in (f := F) (n := N) (p := (sv1 0 0 11).toInt) (by omega)
        refine lv_aload_n hx hb dX10_next0_18 rfl (lv_at hl 0 rfl) ?_
        refine lv_dup hx hb dX10_next0_19 rfl ?_
        refine gs_get (C := RX10) (T := TX10) (N := 59) hx hb hts inX10 hown hK hM 0 0 11 (by decide) rfl rfl (by decide) (hts _ gm_912) (fun _ h9 => h9) rfl dX10_next0_20 ?_
        have bf_4 : (0 : Int) ≤ (sv1 0 0 11).toInt ∧ (sv1 0 0 11).toInt ≤ (800 : Int) := hB_sv1.1 0 0 11
        refine lv_iconst (v := 1) hx hb dX10_next0_23 (by decide) ?_
        refine lv_iadd hx hb dX10_next0_24 ?_
        refine lv_topi (fun x_5 ex_5 => ?_)
        try have tx_5 : x_5.toInt = (sv1 0 0 11).toInt + 1 := by rw [ex_5]; exact gz_addP (x := (sv1 0 0 11).toInt) (y := 1) rfl (by decide) (by omega) (by omega)
        refine gs_put (C := RX10) (T := TX10) (N := 59) (ty := .int) (val := .int x_5) hx hb hts inX10 tyX10 tyX10_ok nmX10 hown hK hI hm hM hS 0 0 11 (by decide) rfl rfl (by decide) (hts _ gm_912) (fun _ h9 => h9) rfl (x_5 : Int32) rfl (by decide +kernel) rfl rfl (Nat.le_of_ble_eq_true rfl) dX10_next0_25 (fun st_6 H locs est_6 hM hS => ?_)
        have hB_st_6 : gBN bM kM [11, 12, 13, 14, 17, 59] st st_6 := by rw [est_6]; exact hB_sv1.up (show (11 : Nat) ∈ _ from by decide) (show (0 : Int) ≤ x_5.toInt from by omega) (show x_5.toInt ≤ (800 : Int) from by omega)
        refine lv_goto (tgt := 0) hx hb dX10_next0_28 (by decide) ?_
        exact ih_1 st_6  H _ ls (by have hq0 : (st_6 0 0 10).toInt = ((st 0 0 10) : Int32).toInt := congrArg Int32.toInt ((((congrFun (congrFun (congrFun est_6 0) 0) 10).trans (gU_other (by decide))).trans (hB_sv1.2 0 0 10 (show (10 : Nat) ∉ _ from by decide)))); have hb1 : (0 : Int) ≤ (st_6 0 0 10).toInt ∧ (st_6 0 0 10).toInt ≤ (800 : Int) := hB_st_6.1 0 0 10; have hq2 : (st_6 0 0 11).toInt = (x_5 : Int32).toInt := congrArg Int32.toInt (((congrFun (congrFun (congrFun est_6 0) 0) 11).trans (gU_same _ _ _ _ _))); have hb3 : (0 : Int) ≤ (st_6 0 0 11).toInt ∧ (st_6 0 0 11).toInt ≤ (800 : Int) := hB_st_6.1 0 0 11; omega) hB_st_6 (by have h9 : (st_6 0 0 11).toInt = x_5.toInt := (congrArg Int32.toInt (((congrFun (congrFun (congrFun est_6 0) 0) 11).trans (gU_same _ _ _ _ _)))); rw [show (st_6 0 0 11).toInt = (sv1 0 0 11).toInt + 1 by omega, tEnd_go (by omega) (blB_t (by omega))]; exact hv1_0) hM hS (lv_sub hl [0] rfl)
      · have ic_3 := gz_ne (rfl : r_2.toInt = r_2.toInt) (by decide : (32 : Int32).toInt = 32) c_3
        refine lv_aload_n hx hb dX10_next0_9 rfl (lv_at hl 0 rfl) ?_
        refine gs_calli (va_runV (As := []) (rest := []) ⟨hx, hb, hml, hown, hts⟩ (m_peek l G cy sK sV ad H.size sv1 hB_sv1.1  F N (((funext (fun j9 => hB_sv1.2 7 0 j9 (show (700 : Nat) ∉ _ from by decide))).trans rfl).trans hF) ((congrArg Int32.toInt ((hB_sv1.2 0 0 10 (show (10 : Nat) ∉ _ from by decide)))).trans hN)) ⟨(gz_cb (n := 0) hts gm_1104 gm_12 gm_1107 ⟨by decide +kernel, by decide +kernel, by decide +kernel⟩ ⟨Nat.le_of_ble_eq_true rfl, Nat.le_of_ble_eq_true rfl⟩), hts _ gm_1106, hts _ gs_33⟩ (gs_preV hK hov hE hI hM hm hS hA 0 0 (by decide) rfl rfl) rfl rfl hl.1 rfl (lv_room (Nat.le_of_ble_eq_true rfl)) dX10_next0_10 ⟨Nat.le_of_ble_eq_true rfl, Nat.le_of_ble_eq_true rfl⟩) hm hS hA (fun r_7 st_7 H locs hw_7 hM hS => ?_)
        obtain ⟨n_7, hw_7⟩ := hw_7
        have n_7 := gBN.nil n_7
        subst n_7
        obtain ⟨hw_7_0, hw_7_1, hw_7_2⟩ := hw_7
        refine lv_bipush (v := 10) hx hb dX10_next0_13 (by decide) ?_
        refine lv_icmp_ne (tgt := 31) hx hb dX10_next0_15 (by decide) (fun c_8 => ?_) (fun c_8 => ?_)
        · have ic_8 := gz_ne (rfl : r_7.toInt = r_7.toInt) (by decide : (10 : Int32).toInt = 10) c_8
          have hs9 : tEnd F N blB (st 0 0 11).toInt = (sv1 0 0 11).toInt := (by have h8 := hv1_0; rw [tEnd_no (p := (sv1 0 0 11).toInt) (Or.inr (blB_f (by omega)))] at h8; exact h8.symm)
          refine lv_aload_n hx hb dX10_next0_31 rfl (lv_at hl 0 rfl) ?_
          refine lv_aload_n hx hb dX10_next0_32 rfl (lv_at hl 0 rfl) ?_
          refine gs_get (C := RX10) (T := TX10) (N := 59) hx hb hts inX10 hown hK hM 0 0 11 (by decide) rfl rfl (by decide) (hts _ gm_912) (fun _ h9 => h9) rfl dX10_next0_33 ?_
          have bf_9 : (0 : Int) ≤ (sv1 0 0 11).toInt ∧ (sv1 0 0 11).toInt ≤ (800 : Int) := hB_sv1.1 0 0 11
          refine gs_put (C := RX10) (T := TX10) (N := 59) (ty := .int) (val := .int (sv1 0 0 11)) hx hb hts inX10 tyX10 tyX10_ok nmX10 hown hK hI hm hM hS 0 0 13 (by decide) rfl rfl (by decide) (hts _ gm_914) (fun _ h9 => h9) rfl ((sv1 0 0 11) : Int32) rfl (by decide +kernel) rfl rfl (Nat.le_of_ble_eq_true rfl) dX10_next0_36 (fun st_10 H locs est_10 hM hS => ?_)
          have hB_st_10 : gBN bM kM [11, 12, 13, 14, 17, 59] st st_10 := by rw [est_10]; exact hB_sv1.up (show (13 : Nat) ∈ _ from by decide) (gi_lo _) (gi_hi _)
          refine lv_aload_n hx hb dX10_next0_39 rfl (lv_at hl 0 rfl) ?_
          refine gs_calli (va_runV (As := []) (rest := []) ⟨hx, hb, hml, hown, hts⟩ (m_peek l G cy sK sV ad H.size st_10 hB_st_10.1  F N (((congrFun (congrFun est_10 7) 0).trans ((congrFun (gU_k (by decide)) 0).trans ((funext (fun j9 => hB_sv1.2 7 0 j9 (show (700 : Nat) ∉ _ from by decide))).trans rfl))).trans hF) ((congrArg Int32.toInt ((((congrFun (congrFun (congrFun est_10 0) 0) 10).trans (gU_other (by decide))).trans (hB_sv1.2 0 0 10 (show (10 : Nat) ∉ _ from by decide))))).trans hN)) ⟨(gz_cb (n := 0) hts gm_1104 gm_12 gm_1107 ⟨by decide +kernel, by decide +kernel, by decide +kernel⟩ ⟨Nat.le_of_ble_eq_true rfl, Nat.le_of_ble_eq_true rfl⟩), hts _ gm_1106, hts _ gs_33⟩ (gs_preV hK hov hE hI hM hm hS hA 0 0 (by decide) rfl rfl) rfl rfl hl.1 rfl (lv_room (Nat.le_of_ble_eq_true rfl)) dX10_next0_40 ⟨Nat.le_of_ble_eq_true rfl, Nat.le_of_ble_eq_true rfl⟩) hm hS hA (fun r_11 st_11 H locs hw_11 hM hS => ?_)
          obtain ⟨n_11, hw_11⟩ := hw_11
          have n_11 := gBN.nil n_11
          subst n_11
          have hqhw_110 : (st_10 0 0 11).toInt = ((sv1 0 0 11) : Int32).toInt := congrArg Int32.toInt (((congrFun (congrFun (congrFun est_10 0) 0) 11).trans (gU_other (by decide))))
          have hbhw_111 : (0 : Int) ≤ (st_10 0 0 11).toInt ∧ (st_10 0 0 11).toInt ≤ (800 : Int) := hB_st_10.1 0 0 11
          obtain ⟨hw_11_0, hw_11_1, hw_11_2⟩ := hw_11
          have hpr_11 : r_11.toInt = bA F N (sv1 0 0 11).toInt := by rw [hw_11_0, show (st_10 0 0 11).toInt = (sv1 0 0 11).toInt from (congrArg Int32.toInt (((congrFun (congrFun (congrFun est_10 0) 0) 11).trans (gU_other (by decide)))))]
          have hin7 : 0 ≤ bA F N (sv1 0 0 11).toInt → (sv1 0 0 11).toInt < N := fun h9 => (by have h8 := bA_in (f := F) (n := N) (p := (sv1 0 0 11).toInt) (by omega); omega)
          refine lv_istore_n (lv' := [(1, .int r_11), (0, .ref (ad 0 0))]) hx hb dX10_next0_43 rfl hl (by decide) rfl (fun ls hl => ?_)
          refine lv_iload_n hx hb dX10_next0_44 rfl (lv_at hl 0 rfl) ?_
          refine lv_if_ge (tgt := 56) hx hb dX10_next0_45 (by decide) (fun c_12 => ?_) (fun c_12 => ?_)
          · have ic_12 := gz_le (by decide : (0 : Int32).toInt = 0) (rfl : r_11.toInt = r_11.toInt) c_12
            have jn13 : ∀  (y13_0 : Int32) (H : Heap) (locs : List Loc) (ls : Array Slot),  (SMp F N (st_10 0 0 11).toInt y13_0.toInt) → gM G (shM cy ad) cnM ad st_10 H → va_S A s.heap H locs → lv_has ls 5 [(2, .int y13_0), (1, .int r_11), (0, .ref (ad 0 0))] → W p l e ({ frames := 1, cells := 0, slots := 0, locals := 20 } : Room) s m [.ref (ad 0 0)].toArray below meth c H locs 0 0 Q (F0 m 75 ls []) := by
              intro  y13_0 H locs ls  hv13_0 hM hS hl
              have hq13_0 : (st_10 0 0 11).toInt = ((sv1 0 0 11) : Int32).toInt := congrArg Int32.toInt (((congrFun (congrFun (congrFun est_10 0) 0) 11).trans (gU_other (by decide))))
              have hb13_1 : (0 : Int) ≤ (st_10 0 0 11).toInt ∧ (st_10 0 0 11).toInt ≤ (800 : Int) := hB_st_10.1 0 0 11
              have hsm9 := hv13_0
              refine lv_iconst (v := 1) hx hb dX10_next0_75 (by decide) ?_
              refine lv_istore_n (lv' := [(3, .int 1), (2, .int y13_0), (1, .int r_11), (0, .ref (ad 0 0))]) hx hb dX10_next0_76 rfl hl (by decide) rfl (fun ls hl => ?_)
              refine lv_iconst (v := 0) hx hb dX10_next0_77 (by decide) ?_
              refine lv_istore (lv' := [(4, .int 0), (3, .int 1), (2, .int y13_0), (1, .int r_11), (0, .ref (ad 0 0))]) hx hb dX10_next0_78 hl (by decide) rfl (fun ls hl => ?_)
              refine lv_aload_n hx hb dX10_next0_80 rfl (lv_at hl 4 rfl) ?_
              refine lv_lconst (v := 0) hx hb dX10_next0_81 (by decide) ?_
              refine gs_putL (C := RX10) (T := TX10) (N := 59) (ty := .long) hx hb hts inX10 tyX10 tyX10_ok nmX10 hown hK hI hm hM hS 0 0 17 59 (by decide) rfl rfl (by decide) (hts _ gm_918) (fun _ h9 => h9) rfl (fun w1 w2 h9 => by rw [← h9]; rfl) (by decide +kernel) rfl rfl (Nat.le_of_ble_eq_true rfl) dX10_next0_82 (fun wast_14 wbst_14 st_14 H locs hl9st_14 est_14 hM hS => ?_)
              have hlw_st_14 : lw (st_14 0 0 17) (st_14 0 0 59) = 0 := by rw [est_14, gU_other (show (17 : Nat) ≠ 59 by decide), gU_same, gU_same]; exact hl9st_14
              have hB_st_14 : gBN bM kM [11, 12, 13, 14, 17, 59] st st_14 := by rw [est_14]; exact ((hB_st_10).up (k := 0) (i := 0) (j := 17) (v := wast_14) (by decide) (gi_lo _) (gi_hi _)).up (k := 0) (i := 0) (j := 59) (v := wbst_14) (by decide) (gi_lo _) (gi_hi _)
              have n_st_14 : gBN bM kM [17, 59] st_10 st_14 := by rw [est_14]; exact ((gBN.rf hB_st_10.1).up (k := 0) (i := 0) (j := 17) (v := wast_14) (by decide) (gi_lo _) (gi_hi _)).up (k := 0) (i := 0) (j := 59) (v := wbst_14) (by decide) (gi_lo _) (gi_hi _)
              refine lv_aload_n hx hb dX10_next0_85 rfl (lv_at hl 4 rfl) ?_
              refine lv_iconst (v := 0) hx hb dX10_next0_86 (by decide) ?_
              refine gs_put (C := RX10) (T := TX10) (N := 59) (ty := .int) (val := .int 0) hx hb hts inX10 tyX10 tyX10_ok nmX10 hown hK hI hm hM hS 0 0 14 (by decide) rfl rfl (by decide) (hts _ gm_915) (fun _ h9 => h9) rfl (0 : Int32) rfl (by decide +kernel) rfl rfl (Nat.le_of_ble_eq_true rfl) dX10_next0_87 (fun st_15 H locs est_15 hM hS => ?_)
              have hB_st_15 : gBN bM kM [11, 12, 13, 14, 17, 59] st st_15 := by rw [est_15]; exact hB_st_14.up (show (14 : Nat) ∈ _ from by decide) (gi_lo _) (gi_hi _)
              have hsS9 : tEnd F N blB (st 0 0 11).toInt = (st_15 0 0 11).toInt := hs9.trans (Eq.symm (congrArg Int32.toInt ((((congrFun (congrFun (congrFun est_15 0) 0) 11).trans (gU_other (by decide))).trans ((n_st_14.2 0 0 11 (show (11 : Nat) ∉ _ from by decide)).trans ((congrFun (congrFun (congrFun est_10 0) 0) 11).trans (gU_other (by decide))))))))
              have hsb9 : bA F N (st_10 0 0 11).toInt = bA F N (st_15 0 0 11).toInt := by rw [show (st_15 0 0 11).toInt = (sv1 0 0 11).toInt from (congrArg Int32.toInt ((((congrFun (congrFun (congrFun est_15 0) 0) 11).trans (gU_other (by decide))).trans ((n_st_14.2 0 0 11 (show (11 : Nat) ∉ _ from by decide)).trans ((congrFun (congrFun (congrFun est_10 0) 0) 11).trans (gU_other (by decide))))))), show (st_10 0 0 11).toInt = (sv1 0 0 11).toInt from (congrArg Int32.toInt (((congrFun (congrFun (congrFun est_10 0) 0) 11).trans (gU_other (by decide)))))]
              have hsm9 : SMp F N (st_15 0 0 11).toInt y13_0.toInt := (by have h9 := hsm9; unfold SMp at h9 ⊢; rw [hsb9] at h9; exact h9)
              have hsm2 := hsm9.two
              have lp16 : ∀ (n16 : Nat) (sv16 : gS) (y16_0 : Int32) (y16_1 : Int32) (H : Heap) (locs : List Loc) (ls : Array Slot), ((sv16 0 0 10).toInt - (sv16 0 0 11).toInt).toNat < n16 → gBN bM kM [11, 12, 13, 14, 17, 59] st sv16 → (0 ≤ y16_1.toInt) → ((sv16 0 0 11).toInt = (st_15 0 0 11).toInt + y16_1.toInt) → (tEnd F N mrB (sv16 0 0 11).toInt = tEnd F N mrB (st_15 0 0 11).toInt) → (∀ q9, (st_15 0 0 11).toInt ≤ q9 → q9 < (sv16 0 0 11).toInt → 48 ≤ bA F N q9 ∧ bA F N q9 ≤ 122) → (ISp F N (st_15 0 0 11).toInt y16_0.toInt y13_0.toInt (y16_1.toInt)) → (y16_1.toInt ≤ 4 → (sv16 0 0 14).toInt = vlT F N (st_15 0 0 11).toInt y16_1.toInt.toNat) → (lw (sv16 0 0 17) (sv16 0 0 59) = if y16_1.toInt ≤ 8 then lN (pkN F N (st_15 0 0 11).toInt y16_1.toInt.toNat) else 0) → gM G (shM cy ad) cnM ad sv16 H → va_S A s.heap H locs → lv_has ls 5 [(4, .int y16_1), (3, .int y16_0), (2, .int y13_0), (1, .int r_11), (0, .ref (ad 0 0))] → W p l e ({ frames := 1, cells := 0, slots := 0, locals := 20 } : Room) s m [.ref (ad 0 0)].toArray below meth c H locs 0 0 Q (F0 m 90 ls []) := by
                intro n16
                induction n16 with
                | zero => intro sv16 y16_0 y16_1 H locs ls h9; exact absurd h9 (Nat.not_lt_zero _)
                | succ n16 ih_16 =>
                  intro sv16 y16_0 y16_1 H locs ls hme16 hB_sv16 hv16_0 hv16_1 hv16_2 hv16_3 hv16_4 hv16_5 hv16_6 hM hS hl
                  have hq16_0 : (sv16 0 0 10).toInt = ((st 0 0 10) : Int32).toInt := congrArg Int32.toInt ((hB_sv16.2 0 0 10 (show (10 : Nat) ∉ _ from by decide)))
                  have hb16_1 : (0 : Int) ≤ (sv16 0 0 10).toInt ∧ (sv16 0 0 10).toInt ≤ (800 : Int) := hB_sv16.1 0 0 10
                  have hb16_2 : (0 : Int) ≤ (sv16 0 0 11).toInt ∧ (sv16 0 0 11).toInt ≤ (800 : Int) := hB_sv16.1 0 0 11
                  have hq16_3 : (st_15 0 0 11).toInt = ((sv1 0 0 11) : Int32).toInt := congrArg Int32.toInt ((((congrFun (congrFun (congrFun est_15 0) 0) 11).trans (gU_other (by decide))).trans ((n_st_14.2 0 0 11 (show (11 : Nat) ∉ _ from by decide)).trans ((congrFun (congrFun (congrFun est_10 0) 0) 11).trans (gU_other (by decide))))))
                  have hb16_4 : (0 : Int) ≤ (st_15 0 0 11).toInt ∧ (st_15 0 0 11).toInt ≤ (800 : Int) := hB_st_15.1 0 0 11
                  have jn17 : ∀  (y17_0 : Int32) (H : Heap) (locs : List Loc) (ls : Array Slot),  (ISp F N (st_15 0 0 11).toInt y17_0.toInt y13_0.toInt ((y16_1.toInt + 1))) → ((sv16 0 0 11).toInt < (sv16 0 0 10).toInt) → ((sv16 0 0 11).toInt < 800) → ((97 ≤ bA F N (sv16 0 0 11).toInt ∧ bA F N (sv16 0 0 11).toInt ≤ 122) ∨ (48 ≤ bA F N (sv16 0 0 11).toInt ∧ bA F N (sv16 0 0 11).toInt ≤ 57)) → gM G (shM cy ad) cnM ad sv16 H → va_S A s.heap H locs → lv_has ls 5 [(3, .int y17_0), (4, .int y16_1), (2, .int y13_0), (1, .int r_11), (0, .ref (ad 0 0))] → W p l e ({ frames := 1, cells := 0, slots := 0, locals := 20 } : Room) s m [.ref (ad 0 0)].toArray below meth c H locs 0 0 Q (F0 m 131 ls []) := by
                    intro  y17_0 H locs ls  hv17_0 hv17_1 hv17_2 hv17_3 hM hS hl
                    have hq17_0 : (st_15 0 0 11).toInt = ((sv1 0 0 11) : Int32).toInt := congrArg Int32.toInt ((((congrFun (congrFun (congrFun est_15 0) 0) 11).trans (gU_other (by decide))).trans ((n_st_14.2 0 0 11 (show (11 : Nat) ∉ _ from by decide)).trans ((congrFun (congrFun (congrFun est_10 0) 0) 11).trans (gU_other (by decide))))))
                    have hb17_1 : (0 : Int) ≤ (st_15 0 0 11).toInt ∧ (st_15 0 0 11).toInt ≤ (800 : Int) := hB_st_15.1 0 0 11
                    have hb17_2 : (0 : Int) ≤ (sv16 0 0 11).toInt ∧ (sv16 0 0 11).toInt ≤ (800 : Int) := hB_sv16.1 0 0 11
                    have hq17_3 : (sv16 0 0 10).toInt = ((st 0 0 10) : Int32).toInt := congrArg Int32.toInt ((hB_sv16.2 0 0 10 (show (10 : Nat) ∉ _ from by decide)))
                    have hb17_4 : (0 : Int) ≤ (sv16 0 0 10).toInt ∧ (sv16 0 0 10).toInt ≤ (800 : Int) := hB_sv16.1 0 0 10
                    refine lv_aload_n hx hb dX10_next0_131 rfl (lv_at hl 4 rfl) ?_
                    refine lv_iload hx hb dX10_next0_132 (lv_at hl 1 rfl) ?_
                    refine lv_bipush (v := 8) hx hb dX10_next0_134 (by decide) ?_
                    refine lv_icmp_ge (tgt := 155) hx hb dX10_next0_136 (by decide) (fun c_18 => ?_) (fun c_18 => ?_)
                    · have ic_18 := gz_le (by decide : (8 : Int32).toInt = 8) (rfl : y16_1.toInt = y16_1.toInt) c_18
                      refine lv_lconst (v := 0) hx hb dX10_next0_155 (by decide) ?_
                      refine gs_putL (C := RX10) (T := TX10) (N := 59) (ty := .long) hx hb hts inX10 tyX10 tyX10_ok nmX10 hown hK hI hm hM hS 0 0 17 59 (by decide) rfl rfl (by decide) (hts _ gm_918) (fun _ h9 => h9) rfl (fun w1 w2 h9 => by rw [← h9]; rfl) (by decide +kernel) rfl rfl (Nat.le_of_ble_eq_true rfl) dX10_next0_156 (fun wast_19 wbst_19 st_19 H locs hl9st_19 est_19 hM hS => ?_)
                      have hlw_st_19 : lw (st_19 0 0 17) (st_19 0 0 59) = 0 := by rw [est_19, gU_other (show (17 : Nat) ≠ 59 by decide), gU_same, gU_same]; exact hl9st_19
                      have hB_st_19 : gBN bM kM [11, 12, 13, 14, 17, 59] st st_19 := by rw [est_19]; exact ((hB_sv16).up (k := 0) (i := 0) (j := 17) (v := wast_19) (by decide) (gi_lo _) (gi_hi _)).up (k := 0) (i := 0) (j := 59) (v := wbst_19) (by decide) (gi_lo _) (gi_hi _)
                      have n_st_19 : gBN bM kM [17, 59] sv16 st_19 := by rw [est_19]; exact ((gBN.rf hB_sv16.1).up (k := 0) (i := 0) (j := 17) (v := wast_19) (by decide) (gi_lo _) (gi_hi _)).up (k := 0) (i := 0) (j := 59) (v := wbst_19) (by decide) (gi_lo _) (gi_hi _)
                      refine lv_iload hx hb dX10_next0_159 (lv_at hl 1 rfl) ?_
                      refine lv_iconst (v := 4) hx hb dX10_next0_161 (by decide) ?_
                      refine lv_icmp_ge (tgt := 184) hx hb dX10_next0_162 (by decide) (fun c_20 => ?_) (fun c_20 => ?_)
                      · have ic_20 := gz_le (by decide : (4 : Int32).toInt = 4) (rfl : y16_1.toInt = y16_1.toInt) c_20
                        obtain ⟨x_21, ex_21⟩ : ∃ y : Int32, y = y16_1 + 1 := ⟨_, rfl⟩
                        try have tx_21 : x_21.toInt = y16_1.toInt + 1 := by rw [ex_21]; exact gz_addP (x := y16_1.toInt) (y := 1) rfl (by decide) (by omega) (by omega)
                        refine lv_iinc (v := (x_21)) (lv' := [(4, .int x_21), (3, .int y17_0), (2, .int y13_0), (1, .int r_11), (0, .ref (ad 0 0))]) hx hb dX10_next0_184 hl (k := 1) rfl (by rw [ex_21]; rfl) (by decide) rfl (fun ls hl => ?_)
                        refine lv_aload_n hx hb dX10_next0_187 rfl (lv_at hl 4 rfl) ?_
                        refine lv_dup hx hb dX10_next0_188 rfl ?_
                        refine gs_get (C := RX10) (T := TX10) (N := 59) hx hb hts inX10 hown hK hM 0 0 11 (by decide) rfl rfl (by decide) (hts _ gm_912) (fun _ h9 => h9) rfl dX10_next0_189 ?_
                        refine lv_topi (fun x_22 ex_22 => ?_)
                        have ex_22 : (sv16 0 0 11) = x_22 := Eq.symm (ex_22.trans (n_st_19.2 0 0 11 (show (11 : Nat) ∉ _ from by decide)))
                        subst ex_22
                        have bf_23 : (0 : Int) ≤ (sv16 0 0 11).toInt ∧ (sv16 0 0 11).toInt ≤ (800 : Int) := hB_sv16.1 0 0 11
                        refine lv_iconst (v := 1) hx hb dX10_next0_192 (by decide) ?_
                        refine lv_iadd hx hb dX10_next0_193 ?_
                        refine lv_topi (fun x_24 ex_24 => ?_)
                        try have tx_24 : x_24.toInt = (sv16 0 0 11).toInt + 1 := by rw [ex_24]; exact gz_addP (x := (sv16 0 0 11).toInt) (y := 1) rfl (by decide) (by omega) (by omega)
                        refine gs_put (C := RX10) (T := TX10) (N := 59) (ty := .int) (val := .int x_24) hx hb hts inX10 tyX10 tyX10_ok nmX10 hown hK hI hm hM hS 0 0 11 (by decide) rfl rfl (by decide) (hts _ gm_912) (fun _ h9 => h9) rfl (x_24 : Int32) rfl (by decide +kernel) rfl rfl (Nat.le_of_ble_eq_true rfl) dX10_next0_194 (fun st_25 H locs est_25 hM hS => ?_)
                        have hB_st_25 : gBN bM kM [11, 12, 13, 14, 17, 59] st st_25 := by rw [est_25]; exact hB_st_19.up (show (11 : Nat) ∈ _ from by decide) (show (0 : Int) ≤ x_24.toInt from by omega) (show x_24.toInt ≤ (800 : Int) from by omega)
                        refine lv_goto (tgt := 90) hx hb dX10_next0_197 (by decide) ?_
                        exact ih_16 st_25 (y17_0 : Int32) (x_21 : Int32) H _ ls (by have hq0 : (st_25 0 0 10).toInt = ((st 0 0 10) : Int32).toInt := congrArg Int32.toInt ((((congrFun (congrFun (congrFun est_25 0) 0) 10).trans (gU_other (by decide))).trans ((n_st_19.2 0 0 10 (show (10 : Nat) ∉ _ from by decide)).trans (hB_sv16.2 0 0 10 (show (10 : Nat) ∉ _ from by decide))))); have hb1 : (0 : Int) ≤ (st_25 0 0 10).toInt ∧ (st_25 0 0 10).toInt ≤ (800 : Int) := hB_st_25.1 0 0 10; have hq2 : (st_25 0 0 11).toInt = (x_24 : Int32).toInt := congrArg Int32.toInt (((congrFun (congrFun (congrFun est_25 0) 0) 11).trans (gU_same _ _ _ _ _))); have hb3 : (0 : Int) ≤ (st_25 0 0 11).toInt ∧ (st_25 0 0 11).toInt ≤ (800 : Int) := hB_st_25.1 0 0 11; omega) hB_st_25 (by omega) (by have h9 : (st_25 0 0 11).toInt = x_24.toInt := (congrArg Int32.toInt (((congrFun (congrFun (congrFun est_25 0) 0) 11).trans (gU_same _ _ _ _ _)))); omega) (by have h9 : (st_25 0 0 11).toInt = x_24.toInt := (congrArg Int32.toInt (((congrFun (congrFun (congrFun est_25 0) 0) 11).trans (gU_same _ _ _ _ _)))); rw [show (st_25 0 0 11).toInt = (sv16 0 0 11).toInt + 1 by omega, tEnd_go (by omega) (mrB_t (by omega))]; exact hv16_2) (fun q9 h1 h2 => by have h9 : (st_25 0 0 11).toInt = x_24.toInt := (congrArg Int32.toInt (((congrFun (congrFun (congrFun est_25 0) 0) 11).trans (gU_same _ _ _ _ _)))); by_cases h3 : q9 < (sv16 0 0 11).toInt; exact hv16_3 q9 h1 h3; rw [show q9 = (sv16 0 0 11).toInt by omega]; omega) (by rw [show x_21.toInt = y16_1.toInt + 1 by omega]; exact hv17_0) (fun h9 => by omega) (by rw [show st_25 0 0 17 = (st_19 0 0 17) from ((congrFun (congrFun (congrFun est_25 0) 0) 17).trans (gU_other (by decide))), show st_25 0 0 59 = (st_19 0 0 59) from ((congrFun (congrFun (congrFun est_25 0) 0) 59).trans (gU_other (by decide)))]; rw [hlw_st_19, if_neg (by omega)]) hM hS (lv_sub hl [0, 1, 2, 3, 4] rfl)
                      · have ic_20 := gz_nle (by decide : (4 : Int32).toInt = 4) (rfl : y16_1.toInt = y16_1.toInt) c_20
                        have hvb9 := vlT_b (f := F) (n := N) (s := (st_15 0 0 11).toInt) (k := y16_1.toInt.toNat) (by omega) (fun q9 h1 h2 => hv16_3 q9 h1 (by omega))
                        have hv59 := hv16_5 (by omega)
                        refine lv_aload_n hx hb dX10_next0_165 rfl (lv_at hl 4 rfl) ?_
                        refine lv_bipush (v := 10) hx hb dX10_next0_166 (by decide) ?_
                        refine lv_aload_n hx hb dX10_next0_168 rfl (lv_at hl 4 rfl) ?_
                        refine gs_get (C := RX10) (T := TX10) (N := 59) hx hb hts inX10 hown hK hM 0 0 14 (by decide) rfl rfl (by decide) (hts _ gm_915) (fun _ h9 => h9) rfl dX10_next0_169 ?_
                        refine lv_topi (fun x_26 ex_26 => ?_)
                        have ex_26 : (sv16 0 0 14) = x_26 := Eq.symm (ex_26.trans (n_st_19.2 0 0 14 (show (14 : Nat) ∉ _ from by decide)))
                        subst ex_26
                        refine lv_imul hx hb dX10_next0_172 ?_
                        refine lv_topi (fun x_28 ex_28 => ?_)
                        try have tx_28 : x_28.toInt = 10 * (sv16 0 0 14).toInt := by rw [ex_28]; exact gz_mulI (x := 10) (y := (sv16 0 0 14).toInt) (by decide) rfl (by omega) (by omega)
                        refine lv_aload_n hx hb dX10_next0_173 rfl (lv_at hl 4 rfl) ?_
                        refine gs_calli (va_runV (As := []) (rest := [.int x_28, .ref (ad 0 0)]) ⟨hx, hb, hml, hown, hts⟩ (m_peek l G cy sK sV ad H.size st_19 hB_st_19.1  F N (((funext (fun j9 => n_st_19.2 7 0 j9 (show (700 : Nat) ∉ _ from by decide))).trans ((funext (fun j9 => hB_sv16.2 7 0 j9 (show (700 : Nat) ∉ _ from by decide))).trans rfl)).trans hF) ((congrArg Int32.toInt (((n_st_19.2 0 0 10 (show (10 : Nat) ∉ _ from by decide)).trans (hB_sv16.2 0 0 10 (show (10 : Nat) ∉ _ from by decide))))).trans hN)) ⟨(gz_cb (n := 0) hts gm_1104 gm_12 gm_1107 ⟨by decide +kernel, by decide +kernel, by decide +kernel⟩ ⟨Nat.le_of_ble_eq_true rfl, Nat.le_of_ble_eq_true rfl⟩), hts _ gm_1106, hts _ gs_33⟩ (gs_preV hK hov hE hI hM hm hS hA 0 0 (by decide) rfl rfl) rfl rfl hl.1 rfl (lv_room (Nat.le_of_ble_eq_true rfl)) dX10_next0_174 ⟨Nat.le_of_ble_eq_true rfl, Nat.le_of_ble_eq_true rfl⟩) hm hS hA (fun r_29 st_29 H locs hw_29 hM hS => ?_)
                        obtain ⟨n_29, hw_29⟩ := hw_29
                        have n_29 := gBN.nil n_29
                        subst n_29
                        have hqhw_290 : (st_19 0 0 11).toInt = ((sv16 0 0 11) : Int32).toInt := congrArg Int32.toInt ((n_st_19.2 0 0 11 (show (11 : Nat) ∉ _ from by decide)))
                        have hbhw_291 : (0 : Int) ≤ (st_19 0 0 11).toInt ∧ (st_19 0 0 11).toInt ≤ (800 : Int) := hB_st_19.1 0 0 11
                        obtain ⟨hw_29_0, hw_29_1, hw_29_2⟩ := hw_29
                        have hpr_29 : r_29.toInt = bA F N (sv16 0 0 11).toInt := by rw [hw_29_0, show (st_19 0 0 11).toInt = (sv16 0 0 11).toInt from (congrArg Int32.toInt ((n_st_19.2 0 0 11 (show (11 : Nat) ∉ _ from by decide))))]
                        refine lv_iadd hx hb dX10_next0_177 ?_
                        refine lv_topi (fun x_30 ex_30 => ?_)
                        try have tx_30 : x_30.toInt = x_28.toInt + r_29.toInt := by rw [ex_30]; exact gz_addI (x := x_28.toInt) (y := r_29.toInt) rfl rfl (by omega) (by omega)
                        refine lv_bipush (v := 48) hx hb dX10_next0_178 (by decide) ?_
                        refine lv_isub hx hb dX10_next0_180 ?_
                        refine lv_topi (fun x_31 ex_31 => ?_)
                        try have tx_31 : x_31.toInt = x_30.toInt - 48 := by rw [ex_31]; exact gz_subP (x := x_30.toInt) (y := 48) rfl (by decide) (by omega) (by omega)
                        refine gs_put (C := RX10) (T := TX10) (N := 59) (ty := .int) (val := .int x_31) hx hb hts inX10 tyX10 tyX10_ok nmX10 hown hK hI hm hM hS 0 0 14 (by decide) rfl rfl (by decide) (hts _ gm_915) (fun _ h9 => h9) rfl (x_31 : Int32) rfl (by decide +kernel) rfl rfl (Nat.le_of_ble_eq_true rfl) dX10_next0_181 (fun st_32 H locs est_32 hM hS => ?_)
                        have hB_st_32 : gBN bM kM [11, 12, 13, 14, 17, 59] st st_32 := by rw [est_32]; exact hB_st_19.up (show (14 : Nat) ∈ _ from by decide) (gi_lo _) (gi_hi _)
                        obtain ⟨x_33, ex_33⟩ : ∃ y : Int32, y = y16_1 + 1 := ⟨_, rfl⟩
                        try have tx_33 : x_33.toInt = y16_1.toInt + 1 := by rw [ex_33]; exact gz_addP (x := y16_1.toInt) (y := 1) rfl (by decide) (by omega) (by omega)
                        refine lv_iinc (v := (x_33)) (lv' := [(4, .int x_33), (3, .int y17_0), (2, .int y13_0), (1, .int r_11), (0, .ref (ad 0 0))]) hx hb dX10_next0_184 hl (k := 1) rfl (by rw [ex_33]; rfl) (by decide) rfl (fun ls hl => ?_)
                        refine lv_aload_n hx hb dX10_next0_187 rfl (lv_at hl 4 rfl) ?_
                        refine lv_dup hx hb dX10_next0_188 rfl ?_
                        refine gs_get (C := RX10) (T := TX10) (N := 59) hx hb hts inX10 hown hK hM 0 0 11 (by decide) rfl rfl (by decide) (hts _ gm_912) (fun _ h9 => h9) rfl dX10_next0_189 ?_
                        refine lv_topi (fun x_34 ex_34 => ?_)
                        have ex_34 : (sv16 0 0 11) = x_34 := Eq.symm (ex_34.trans (((congrFun (congrFun (congrFun est_32 0) 0) 11).trans (gU_other (by decide))).trans (n_st_19.2 0 0 11 (show (11 : Nat) ∉ _ from by decide))))
                        subst ex_34
                        have bf_35 : (0 : Int) ≤ (sv16 0 0 11).toInt ∧ (sv16 0 0 11).toInt ≤ (800 : Int) := hB_sv16.1 0 0 11
                        refine lv_iconst (v := 1) hx hb dX10_next0_192 (by decide) ?_
                        refine lv_iadd hx hb dX10_next0_193 ?_
                        refine lv_topi (fun x_36 ex_36 => ?_)
                        try have tx_36 : x_36.toInt = (sv16 0 0 11).toInt + 1 := by rw [ex_36]; exact gz_addP (x := (sv16 0 0 11).toInt) (y := 1) rfl (by decide) (by omega) (by omega)
                        refine gs_put (C := RX10) (T := TX10) (N := 59) (ty := .int) (val := .int x_36) hx hb hts inX10 tyX10 tyX10_ok nmX10 hown hK hI hm hM hS 0 0 11 (by decide) rfl rfl (by decide) (hts _ gm_912) (fun _ h9 => h9) rfl (x_36 : Int32) rfl (by decide +kernel) rfl rfl (Nat.le_of_ble_eq_true rfl) dX10_next0_194 (fun st_37 H locs est_37 hM hS => ?_)
                        have hB_st_37 : gBN bM kM [11, 12, 13, 14, 17, 59] st st_37 := by rw [est_37]; exact hB_st_32.up (show (11 : Nat) ∈ _ from by decide) (show (0 : Int) ≤ x_36.toInt from by omega) (show x_36.toInt ≤ (800 : Int) from by omega)
                        refine lv_goto (tgt := 90) hx hb dX10_next0_197 (by decide) ?_
                        exact ih_16 st_37 (y17_0 : Int32) (x_33 : Int32) H _ ls (by have hq0 : (st_37 0 0 10).toInt = ((st 0 0 10) : Int32).toInt := congrArg Int32.toInt ((((congrFun (congrFun (congrFun est_37 0) 0) 10).trans (gU_other (by decide))).trans (((congrFun (congrFun (congrFun est_32 0) 0) 10).trans (gU_other (by decide))).trans ((n_st_19.2 0 0 10 (show (10 : Nat) ∉ _ from by decide)).trans (hB_sv16.2 0 0 10 (show (10 : Nat) ∉ _ from by decide)))))); have hb1 : (0 : Int) ≤ (st_37 0 0 10).toInt ∧ (st_37 0 0 10).toInt ≤ (800 : Int) := hB_st_37.1 0 0 10; have hq2 : (st_37 0 0 11).toInt = (x_36 : Int32).toInt := congrArg Int32.toInt (((congrFun (congrFun (congrFun est_37 0) 0) 11).trans (gU_same _ _ _ _ _))); have hb3 : (0 : Int) ≤ (st_37 0 0 11).toInt ∧ (st_37 0 0 11).toInt ≤ (800 : Int) := hB_st_37.1 0 0 11; omega) hB_st_37 (by omega) (by have h9 : (st_37 0 0 11).toInt = x_36.toInt := (congrArg Int32.toInt (((congrFun (congrFun (congrFun est_37 0) 0) 11).trans (gU_same _ _ _ _ _)))); omega) (by have h9 : (st_37 0 0 11).toInt = x_36.toInt := (congrArg Int32.toInt (((congrFun (congrFun (congrFun est_37 0) 0) 11).trans (gU_same _ _ _ _ _)))); rw [show (st_37 0 0 11).toInt = (sv16 0 0 11).toInt + 1 by omega, tEnd_go (by omega) (mrB_t (by omega))]; exact hv16_2) (fun q9 h1 h2 => by have h9 : (st_37 0 0 11).toInt = x_36.toInt := (congrArg Int32.toInt (((congrFun (congrFun (congrFun est_37 0) 0) 11).trans (gU_same _ _ _ _ _)))); by_cases h3 : q9 < (sv16 0 0 11).toInt; exact hv16_3 q9 h1 h3; rw [show q9 = (sv16 0 0 11).toInt by omega]; omega) (by rw [show x_33.toInt = y16_1.toInt + 1 by omega]; exact hv17_0) (fun h8 => by rw [show (st_37 0 0 14).toInt = x_31.toInt from (congrArg Int32.toInt ((((congrFun (congrFun (congrFun est_37 0) 0) 14).trans (gU_other (by decide))).trans ((congrFun (congrFun (congrFun est_32 0) 0) 14).trans (gU_same _ _ _ _ _)))))]; rw [show x_33.toInt = y16_1.toInt + 1 by omega, vlT_n (by omega), show (st_15 0 0 11).toInt + y16_1.toInt = (sv16 0 0 11).toInt by omega]; have h7 := hv16_5 (by omega); omega) (by rw [show st_37 0 0 17 = (st_19 0 0 17) from (((congrFun (congrFun (congrFun est_37 0) 0) 17).trans (gU_other (by decide))).trans ((congrFun (congrFun (congrFun est_32 0) 0) 17).trans (gU_other (by decide)))), show st_37 0 0 59 = (st_19 0 0 59) from (((congrFun (congrFun (congrFun est_37 0) 0) 59).trans (gU_other (by decide))).trans ((congrFun (congrFun (congrFun est_32 0) 0) 59).trans (gU_other (by decide))))]; rw [hlw_st_19, if_neg (by omega)]) hM hS (lv_sub hl [0, 1, 2, 3, 4] rfl)
                    · have ic_18 := gz_nle (by decide : (8 : Int32).toInt = 8) (rfl : y16_1.toInt = y16_1.toInt) c_18
                      refine lv_aload_n hx hb dX10_next0_139 rfl (lv_at hl 4 rfl) ?_
                      refine gs_get (C := RX10) (T := TX10) (N := 59) hx hb hts inX10 hown hK hM 0 0 17 (by decide) rfl rfl (by decide) (hts _ gm_918) (fun _ h9 => h9) rfl dX10_next0_140 ?_
                      refine lv_bipush (v := 8) hx hb dX10_next0_143 (by decide) ?_
                      obtain ⟨x_38, ex_38⟩ : ∃ y : Int64, (lw (sv16 0 0 17) (sv16 0 0 59)) <<< ((8 : Int32).toInt64 &&& 63) = y := ⟨_, rfl⟩
                      refine lv_lshl hx hb dX10_next0_145 ex_38 ?_
                      refine lv_aload_n hx hb dX10_next0_146 rfl (lv_at hl 4 rfl) ?_
                      refine gs_calli (va_runV (As := []) (rest := [.long x_38, .ref (ad 0 0)]) ⟨hx, hb, hml, hown, hts⟩ (m_peek l G cy sK sV ad H.size sv16 hB_sv16.1  F N (((funext (fun j9 => hB_sv16.2 7 0 j9 (show (700 : Nat) ∉ _ from by decide))).trans rfl).trans hF) ((congrArg Int32.toInt ((hB_sv16.2 0 0 10 (show (10 : Nat) ∉ _ from by decide)))).trans hN)) ⟨(gz_cb (n := 0) hts gm_1104 gm_12 gm_1107 ⟨by decide +kernel, by decide +kernel, by decide +kernel⟩ ⟨Nat.le_of_ble_eq_true rfl, Nat.le_of_ble_eq_true rfl⟩), hts _ gm_1106, hts _ gs_33⟩ (gs_preV hK hov hE hI hM hm hS hA 0 0 (by decide) rfl rfl) rfl rfl hl.1 rfl (lv_room (Nat.le_of_ble_eq_true rfl)) dX10_next0_147 ⟨Nat.le_of_ble_eq_true rfl, Nat.le_of_ble_eq_true rfl⟩) hm hS hA (fun r_39 st_39 H locs hw_39 hM hS => ?_)
                      obtain ⟨n_39, hw_39⟩ := hw_39
                      have n_39 := gBN.nil n_39
                      subst n_39
                      have hbhw_390 : (0 : Int) ≤ (sv16 0 0 11).toInt ∧ (sv16 0 0 11).toInt ≤ (800 : Int) := hB_sv16.1 0 0 11
                      obtain ⟨hw_39_0, hw_39_1, hw_39_2⟩ := hw_39
                      obtain ⟨x_40, ex_40⟩ : ∃ y : Int64, (r_39 : Int32).toInt64 = y := ⟨_, rfl⟩
                      refine lv_i2l hx hb dX10_next0_150 ex_40 ?_
                      refine lv_lor hx hb dX10_next0_151 ?_
                      refine lv_topl (fun x_41 ex_41 => ?_)
                      refine lv_goto (tgt := 156) hx hb dX10_next0_152 (by decide) ?_
                      refine gs_putL (C := RX10) (T := TX10) (N := 59) (ty := .long) hx hb hts inX10 tyX10 tyX10_ok nmX10 hown hK hI hm hM hS 0 0 17 59 (by decide) rfl rfl (by decide) (hts _ gm_918) (fun _ h9 => h9) rfl (fun w1 w2 h9 => by rw [← h9]; rfl) (by decide +kernel) rfl rfl (Nat.le_of_ble_eq_true rfl) dX10_next0_156 (fun wast_42 wbst_42 st_42 H locs hl9st_42 est_42 hM hS => ?_)
                      have hlw_st_42 : lw (st_42 0 0 17) (st_42 0 0 59) = x_41 := by rw [est_42, gU_other (show (17 : Nat) ≠ 59 by decide), gU_same, gU_same]; exact hl9st_42
                      have hB_st_42 : gBN bM kM [11, 12, 13, 14, 17, 59] st st_42 := by rw [est_42]; exact ((hB_sv16).up (k := 0) (i := 0) (j := 17) (v := wast_42) (by decide) (gi_lo _) (gi_hi _)).up (k := 0) (i := 0) (j := 59) (v := wbst_42) (by decide) (gi_lo _) (gi_hi _)
                      have n_st_42 : gBN bM kM [17, 59] sv16 st_42 := by rw [est_42]; exact ((gBN.rf hB_sv16.1).up (k := 0) (i := 0) (j := 17) (v := wast_42) (by decide) (gi_lo _) (gi_hi _)).up (k := 0) (i := 0) (j := 59) (v := wbst_42) (by decide) (gi_lo _) (gi_hi _)
                      refine lv_iload hx hb dX10_next0_159 (lv_at hl 1 rfl) ?_
                      refine lv_iconst (v := 4) hx hb dX10_next0_161 (by decide) ?_
                      refine lv_icmp_ge (tgt := 184) hx hb dX10_next0_162 (by decide) (fun c_43 => ?_) (fun c_43 => ?_)
                      · have ic_43 := gz_le (by decide : (4 : Int32).toInt = 4) (rfl : y16_1.toInt = y16_1.toInt) c_43
                        obtain ⟨x_44, ex_44⟩ : ∃ y : Int32, y = y16_1 + 1 := ⟨_, rfl⟩
                        try have tx_44 : x_44.toInt = y16_1.toInt + 1 := by rw [ex_44]; exact gz_addP (x := y16_1.toInt) (y := 1) rfl (by decide) (by omega) (by omega)
                        refine lv_iinc (v := (x_44)) (lv' := [(4, .int x_44), (3, .int y17_0), (2, .int y13_0), (1, .int r_11), (0, .ref (ad 0 0))]) hx hb dX10_next0_184 hl (k := 1) rfl (by rw [ex_44]; rfl) (by decide) rfl (fun ls hl => ?_)
                        refine lv_aload_n hx hb dX10_next0_187 rfl (lv_at hl 4 rfl) ?_
                        refine lv_dup hx hb dX10_next0_188 rfl ?_
                        refine gs_get (C := RX10) (T := TX10) (N := 59) hx hb hts inX10 hown hK hM 0 0 11 (by decide) rfl rfl (by decide) (hts _ gm_912) (fun _ h9 => h9) rfl dX10_next0_189 ?_
                        refine lv_topi (fun x_45 ex_45 => ?_)
                        have ex_45 : (sv16 0 0 11) = x_45 := Eq.symm (ex_45.trans (n_st_42.2 0 0 11 (show (11 : Nat) ∉ _ from by decide)))
                        subst ex_45
                        have bf_46 : (0 : Int) ≤ (sv16 0 0 11).toInt ∧ (sv16 0 0 11).toInt ≤ (800 : Int) := hB_sv16.1 0 0 11
                        refine lv_iconst (v := 1) hx hb dX10_next0_192 (by decide) ?_
                        refine lv_iadd hx hb dX10_next0_193 ?_
                        refine lv_topi (fun x_47 ex_47 => ?_)
                        try have tx_47 : x_47.toInt = (sv16 0 0 11).toInt + 1 := by rw [ex_47]; exact gz_addP (x := (sv16 0 0 11).toInt) (y := 1) rfl (by decide) (by omega) (by omega)
                        refine gs_put (C := RX10) (T := TX10) (N := 59) (ty := .int) (val := .int x_47) hx hb hts inX10 tyX10 tyX10_ok nmX10 hown hK hI hm hM hS 0 0 11 (by decide) rfl rfl (by decide) (hts _ gm_912) (fun _ h9 => h9) rfl (x_47 : Int32) rfl (by decide +kernel) rfl rfl (Nat.le_of_ble_eq_true rfl) dX10_next0_194 (fun st_48 H locs est_48 hM hS => ?_)
                        have hB_st_48 : gBN bM kM [11, 12, 13, 14, 17, 59] st st_48 := by rw [est_48]; exact hB_st_42.up (show (11 : Nat) ∈ _ from by decide) (show (0 : Int) ≤ x_47.toInt from by omega) (show x_47.toInt ≤ (800 : Int) from by omega)
                        refine lv_goto (tgt := 90) hx hb dX10_next0_197 (by decide) ?_
                        exact ih_16 st_48 (y17_0 : Int32) (x_44 : Int32) H _ ls (by have hq0 : (st_48 0 0 10).toInt = ((st 0 0 10) : Int32).toInt := congrArg Int32.toInt ((((congrFun (congrFun (congrFun est_48 0) 0) 10).trans (gU_other (by decide))).trans ((n_st_42.2 0 0 10 (show (10 : Nat) ∉ _ from by decide)).trans (hB_sv16.2 0 0 10 (show (10 : Nat) ∉ _ from by decide))))); have hb1 : (0 : Int) ≤ (st_48 0 0 10).toInt ∧ (st_48 0 0 10).toInt ≤ (800 : Int) := hB_st_48.1 0 0 10; have hq2 : (st_48 0 0 11).toInt = (x_47 : Int32).toInt := congrArg Int32.toInt (((congrFun (congrFun (congrFun est_48 0) 0) 11).trans (gU_same _ _ _ _ _))); have hb3 : (0 : Int) ≤ (st_48 0 0 11).toInt ∧ (st_48 0 0 11).toInt ≤ (800 : Int) := hB_st_48.1 0 0 11; omega) hB_st_48 (by omega) (by have h9 : (st_48 0 0 11).toInt = x_47.toInt := (congrArg Int32.toInt (((congrFun (congrFun (congrFun est_48 0) 0) 11).trans (gU_same _ _ _ _ _)))); omega) (by have h9 : (st_48 0 0 11).toInt = x_47.toInt := (congrArg Int32.toInt (((congrFun (congrFun (congrFun est_48 0) 0) 11).trans (gU_same _ _ _ _ _)))); rw [show (st_48 0 0 11).toInt = (sv16 0 0 11).toInt + 1 by omega, tEnd_go (by omega) (mrB_t (by omega))]; exact hv16_2) (fun q9 h1 h2 => by have h9 : (st_48 0 0 11).toInt = x_47.toInt := (congrArg Int32.toInt (((congrFun (congrFun (congrFun est_48 0) 0) 11).trans (gU_same _ _ _ _ _)))); by_cases h3 : q9 < (sv16 0 0 11).toInt; exact hv16_3 q9 h1 h3; rw [show q9 = (sv16 0 0 11).toInt by omega]; omega) (by rw [show x_44.toInt = y16_1.toInt + 1 by omega]; exact hv17_0) (fun h9 => by omega) (by rw [show st_48 0 0 17 = (st_42 0 0 17) from ((congrFun (congrFun (congrFun est_48 0) 0) 17).trans (gU_other (by decide))), show st_48 0 0 59 = (st_42 0 0 59) from ((congrFun (congrFun (congrFun est_48 0) 0) 59).trans (gU_other (by decide)))]; rw [hlw_st_42, if_pos (by omega), show x_44.toInt.toNat = y16_1.toInt.toNat + 1 by omega, ← pk_step (r := r_39) (by omega) (by rw [show (st_15 0 0 11).toInt + ((y16_1.toInt.toNat : Nat) : Int) = (sv16 0 0 11).toInt by omega]; omega) (by omega), ex_41, ← ex_38, ← ex_40, hv16_6, if_pos (by omega)]) hM hS (lv_sub hl [0, 1, 2, 3, 4] rfl)
                      · have ic_43 := gz_nle (by decide : (4 : Int32).toInt = 4) (rfl : y16_1.toInt = y16_1.toInt) c_43
                        have hvb9 := vlT_b (f := F) (n := N) (s := (st_15 0 0 11).toInt) (k := y16_1.toInt.toNat) (by omega) (fun q9 h1 h2 => hv16_3 q9 h1 (by omega))
                        have hv59 := hv16_5 (by omega)
                        refine lv_aload_n hx hb dX10_next0_165 rfl (lv_at hl 4 rfl) ?_
                        refine lv_bipush (v := 10) hx hb dX10_next0_166 (by decide) ?_
                        refine lv_aload_n hx hb dX10_next0_168 rfl (lv_at hl 4 rfl) ?_
                        refine gs_get (C := RX10) (T := TX10) (N := 59) hx hb hts inX10 hown hK hM 0 0 14 (by decide) rfl rfl (by decide) (hts _ gm_915) (fun _ h9 => h9) rfl dX10_next0_169 ?_
                        refine lv_topi (fun x_49 ex_49 => ?_)
                        have ex_49 : (sv16 0 0 14) = x_49 := Eq.symm (ex_49.trans (n_st_42.2 0 0 14 (show (14 : Nat) ∉ _ from by decide)))
                        subst ex_49
                        refine lv_imul hx hb dX10_next0_172 ?_
                        refine lv_topi (fun x_51 ex_51 => ?_)
                        try have tx_51 : x_51.toInt = 10 * (sv16 0 0 14).toInt := by rw [ex_51]; exact gz_mulI (x := 10) (y := (sv16 0 0 14).toInt) (by decide) rfl (by omega) (by omega)
                        refine lv_aload_n hx hb dX10_next0_173 rfl (lv_at hl 4 rfl) ?_
                        refine gs_calli (va_runV (As := []) (rest := [.int x_51, .ref (ad 0 0)]) ⟨hx, hb, hml, hown, hts⟩ (m_peek l G cy sK sV ad H.size st_42 hB_st_42.1  F N (((funext (fun j9 => n_st_42.2 7 0 j9 (show (700 : Nat) ∉ _ from by decide))).trans ((funext (fun j9 => hB_sv16.2 7 0 j9 (show (700 : Nat) ∉ _ from by decide))).trans rfl)).trans hF) ((congrArg Int32.toInt (((n_st_42.2 0 0 10 (show (10 : Nat) ∉ _ from by decide)).trans (hB_sv16.2 0 0 10 (show (10 : Nat) ∉ _ from by decide))))).trans hN)) ⟨(gz_cb (n := 0) hts gm_1104 gm_12 gm_1107 ⟨by decide +kernel, by decide +kernel, by decide +kernel⟩ ⟨Nat.le_of_ble_eq_true rfl, Nat.le_of_ble_eq_true rfl⟩), hts _ gm_1106, hts _ gs_33⟩ (gs_preV hK hov hE hI hM hm hS hA 0 0 (by decide) rfl rfl) rfl rfl hl.1 rfl (lv_room (Nat.le_of_ble_eq_true rfl)) dX10_next0_174 ⟨Nat.le_of_ble_eq_true rfl, Nat.le_of_ble_eq_true rfl⟩) hm hS hA (fun r_52 st_52 H locs hw_52 hM hS => ?_)
                        obtain ⟨n_52, hw_52⟩ := hw_52
                        have n_52 := gBN.nil n_52
                        subst n_52
                        have hqhw_520 : (st_42 0 0 11).toInt = ((sv16 0 0 11) : Int32).toInt := congrArg Int32.toInt ((n_st_42.2 0 0 11 (show (11 : Nat) ∉ _ from by decide)))
                        have hbhw_521 : (0 : Int) ≤ (st_42 0 0 11).toInt ∧ (st_42 0 0 11).toInt ≤ (800 : Int) := hB_st_42.1 0 0 11
                        obtain ⟨hw_52_0, hw_52_1, hw_52_2⟩ := hw_52
                        have hpr_52 : r_52.toInt = bA F N (sv16 0 0 11).toInt := by rw [hw_52_0, show (st_42 0 0 11).toInt = (sv16 0 0 11).toInt from (congrArg Int32.toInt ((n_st_42.2 0 0 11 (show (11 : Nat) ∉ _ from by decide))))]
                        refine lv_iadd hx hb dX10_next0_177 ?_
                        refine lv_topi (fun x_53 ex_53 => ?_)
                        try have tx_53 : x_53.toInt = x_51.toInt + r_52.toInt := by rw [ex_53]; exact gz_addI (x := x_51.toInt) (y := r_52.toInt) rfl rfl (by omega) (by omega)
                        refine lv_bipush (v := 48) hx hb dX10_next0_178 (by decide) ?_
                        refine lv_isub hx hb dX10_next0_180 ?_
                        refine lv_topi (fun x_54 ex_54 => ?_)
                        try have tx_54 : x_54.toInt = x_53.toInt - 48 := by rw [ex_54]; exact gz_subP (x := x_53.toInt) (y := 48) rfl (by decide) (by omega) (by omega)
                        refine gs_put (C := RX10) (T := TX10) (N := 59) (ty := .int) (val := .int x_54) hx hb hts inX10 tyX10 tyX10_ok nmX10 hown hK hI hm hM hS 0 0 14 (by decide) rfl rfl (by decide) (hts _ gm_915) (fun _ h9 => h9) rfl (x_54 : Int32) rfl (by decide +kernel) rfl rfl (Nat.le_of_ble_eq_true rfl) dX10_next0_181 (fun st_55 H locs est_55 hM hS => ?_)
                        have hB_st_55 : gBN bM kM [11, 12, 13, 14, 17, 59] st st_55 := by rw [est_55]; exact hB_st_42.up (show (14 : Nat) ∈ _ from by decide) (gi_lo _) (gi_hi _)
                        obtain ⟨x_56, ex_56⟩ : ∃ y : Int32, y = y16_1 + 1 := ⟨_, rfl⟩
                        try have tx_56 : x_56.toInt = y16_1.toInt + 1 := by rw [ex_56]; exact gz_addP (x := y16_1.toInt) (y := 1) rfl (by decide) (by omega) (by omega)
                        refine lv_iinc (v := (x_56)) (lv' := [(4, .int x_56), (3, .int y17_0), (2, .int y13_0), (1, .int r_11), (0, .ref (ad 0 0))]) hx hb dX10_next0_184 hl (k := 1) rfl (by rw [ex_56]; rfl) (by decide) rfl (fun ls hl => ?_)
                        refine lv_aload_n hx hb dX10_next0_187 rfl (lv_at hl 4 rfl) ?_
                        refine lv_dup hx hb dX10_next0_188 rfl ?_
                        refine gs_get (C := RX10) (T := TX10) (N := 59) hx hb hts inX10 hown hK hM 0 0 11 (by decide) rfl rfl (by decide) (hts _ gm_912) (fun _ h9 => h9) rfl dX10_next0_189 ?_
                        refine lv_topi (fun x_57 ex_57 => ?_)
                        have ex_57 : (sv16 0 0 11) = x_57 := Eq.symm (ex_57.trans (((congrFun (congrFun (congrFun est_55 0) 0) 11).trans (gU_other (by decide))).trans (n_st_42.2 0 0 11 (show (11 : Nat) ∉ _ from by decide))))
                        subst ex_57
                        have bf_58 : (0 : Int) ≤ (sv16 0 0 11).toInt ∧ (sv16 0 0 11).toInt ≤ (800 : Int) := hB_sv16.1 0 0 11
                        refine lv_iconst (v := 1) hx hb dX10_next0_192 (by decide) ?_
                        refine lv_iadd hx hb dX10_next0_193 ?_
                        refine lv_topi (fun x_59 ex_59 => ?_)
                        try have tx_59 : x_59.toInt = (sv16 0 0 11).toInt + 1 := by rw [ex_59]; exact gz_addP (x := (sv16 0 0 11).toInt) (y := 1) rfl (by decide) (by omega) (by omega)
                        refine gs_put (C := RX10) (T := TX10) (N := 59) (ty := .int) (val := .int x_59) hx hb hts inX10 tyX10 tyX10_ok nmX10 hown hK hI hm hM hS 0 0 11 (by decide) rfl rfl (by decide) (hts _ gm_912) (fun _ h9 => h9) rfl (x_59 : Int32) rfl (by decide +kernel) rfl rfl (Nat.le_of_ble_eq_true rfl) dX10_next0_194 (fun st_60 H locs est_60 hM hS => ?_)
                        have hB_st_60 : gBN bM kM [11, 12, 13, 14, 17, 59] st st_60 := by rw [est_60]; exact hB_st_55.up (show (11 : Nat) ∈ _ from by decide) (show (0 : Int) ≤ x_59.toInt from by omega) (show x_59.toInt ≤ (800 : Int) from by omega)
                        refine lv_goto (tgt := 90) hx hb dX10_next0_197 (by decide) ?_
                        exact ih_16 st_60 (y17_0 : Int32) (x_56 : Int32) H _ ls (by have hq0 : (st_60 0 0 10).toInt = ((st 0 0 10) : Int32).toInt := congrArg Int32.toInt ((((congrFun (congrFun (congrFun est_60 0) 0) 10).trans (gU_other (by decide))).trans (((congrFun (congrFun (congrFun est_55 0) 0) 10).trans (gU_other (by decide))).trans ((n_st_42.2 0 0 10 (show (10 : Nat) ∉ _ from by decide)).trans (hB_sv16.2 0 0 10 (show (10 : Nat) ∉ _ from by decide)))))); have hb1 : (0 : Int) ≤ (st_60 0 0 10).toInt ∧ (st_60 0 0 10).toInt ≤ (800 : Int) := hB_st_60.1 0 0 10; have hq2 : (st_60 0 0 11).toInt = (x_59 : Int32).toInt := congrArg Int32.toInt (((congrFun (congrFun (congrFun est_60 0) 0) 11).trans (gU_same _ _ _ _ _))); have hb3 : (0 : Int) ≤ (st_60 0 0 11).toInt ∧ (st_60 0 0 11).toInt ≤ (800 : Int) := hB_st_60.1 0 0 11; omega) hB_st_60 (by omega) (by have h9 : (st_60 0 0 11).toInt = x_59.toInt := (congrArg Int32.toInt (((congrFun (congrFun (congrFun est_60 0) 0) 11).trans (gU_same _ _ _ _ _)))); omega) (by have h9 : (st_60 0 0 11).toInt = x_59.toInt := (congrArg Int32.toInt (((congrFun (congrFun (congrFun est_60 0) 0) 11).trans (gU_same _ _ _ _ _)))); rw [show (st_60 0 0 11).toInt = (sv16 0 0 11).toInt + 1 by omega, tEnd_go (by omega) (mrB_t (by omega))]; exact hv16_2) (fun q9 h1 h2 => by have h9 : (st_60 0 0 11).toInt = x_59.toInt := (congrArg Int32.toInt (((congrFun (congrFun (congrFun est_60 0) 0) 11).trans (gU_same _ _ _ _ _)))); by_cases h3 : q9 < (sv16 0 0 11).toInt; exact hv16_3 q9 h1 h3; rw [show q9 = (sv16 0 0 11).toInt by omega]; omega) (by rw [show x_56.toInt = y16_1.toInt + 1 by omega]; exact hv17_0) (fun h8 => by rw [show (st_60 0 0 14).toInt = x_54.toInt from (congrArg Int32.toInt ((((congrFun (congrFun (congrFun est_60 0) 0) 14).trans (gU_other (by decide))).trans ((congrFun (congrFun (congrFun est_55 0) 0) 14).trans (gU_same _ _ _ _ _)))))]; rw [show x_56.toInt = y16_1.toInt + 1 by omega, vlT_n (by omega), show (st_15 0 0 11).toInt + y16_1.toInt = (sv16 0 0 11).toInt by omega]; have h7 := hv16_5 (by omega); omega) (by rw [show st_60 0 0 17 = (st_42 0 0 17) from (((congrFun (congrFun (congrFun est_60 0) 0) 17).trans (gU_other (by decide))).trans ((congrFun (congrFun (congrFun est_55 0) 0) 17).trans (gU_other (by decide)))), show st_60 0 0 59 = (st_42 0 0 59) from (((congrFun (congrFun (congrFun est_60 0) 0) 59).trans (gU_other (by decide))).trans ((congrFun (congrFun (congrFun est_55 0) 0) 59).trans (gU_other (by decide))))]; rw [hlw_st_42, if_pos (by omega), show x_56.toInt.toNat = y16_1.toInt.toNat + 1 by omega, ← pk_step (r := r_39) (by omega) (by rw [show (st_15 0 0 11).toInt + ((y16_1.toInt.toNat : Nat) : Int) = (sv16 0 0 11).toInt by omega]; omega) (by omega), ex_41, ← ex_38, ← ex_40, hv16_6, if_pos (by omega)]) hM hS (lv_sub hl [0, 1, 2, 3, 4] rfl)
                  refine lv_aload_n hx hb dX10_next0_90 rfl (lv_at hl 4 rfl) ?_
                  refine gs_calli (va_runV (As := []) (rest := []) ⟨hx, hb, hml, hown, hts⟩ (m_peek l G cy sK sV ad H.size sv16 hB_sv16.1  F N (((funext (fun j9 => hB_sv16.2 7 0 j9 (show (700 : Nat) ∉ _ from by decide))).trans rfl).trans hF) ((congrArg Int32.toInt ((hB_sv16.2 0 0 10 (show (10 : Nat) ∉ _ from by decide)))).trans hN)) ⟨(gz_cb (n := 0) hts gm_1104 gm_12 gm_1107 ⟨by decide +kernel, by decide +kernel, by decide +kernel⟩ ⟨Nat.le_of_ble_eq_true rfl, Nat.le_of_ble_eq_true rfl⟩), hts _ gm_1106, hts _ gs_33⟩ (gs_preV hK hov hE hI hM hm hS hA 0 0 (by decide) rfl rfl) rfl rfl hl.1 rfl (lv_room (Nat.le_of_ble_eq_true rfl)) dX10_next0_91 ⟨Nat.le_of_ble_eq_true rfl, Nat.le_of_ble_eq_true rfl⟩) hm hS hA (fun r_61 st_61 H locs hw_61 hM hS => ?_)
                  obtain ⟨n_61, hw_61⟩ := hw_61
                  have n_61 := gBN.nil n_61
                  subst n_61
                  have hbhw_610 : (0 : Int) ≤ (sv16 0 0 11).toInt ∧ (sv16 0 0 11).toInt ≤ (800 : Int) := hB_sv16.1 0 0 11
                  obtain ⟨hw_61_0, hw_61_1, hw_61_2⟩ := hw_61
                  refine gs_calli (va_runS (As := [.int r_61]) (rest := []) ⟨hx, hb, hml, hown, hts⟩ (m_isSmall l G cy sK sV ad H.size sv16 hB_sv16.1 r_61 r_61.toInt rfl ) ⟨(gz_cb (n := 1) hts gm_1108 gm_12 gm_1110 ⟨by decide +kernel, by decide +kernel, by decide +kernel⟩ ⟨Nat.le_of_ble_eq_true rfl, Nat.le_of_ble_eq_true rfl⟩), hts _ gm_1109⟩ (gs_preS hK hov hE hI hM hm hS hA) rfl rfl hl.1 rfl (lv_room (Nat.le_of_ble_eq_true rfl)) dX10_next0_94 ⟨Nat.le_of_ble_eq_true rfl, Nat.le_of_ble_eq_true rfl⟩) hm hS hA (fun r_62 st_62 H locs hw_62 hM hS => ?_)
                  obtain ⟨n_62, hw_62⟩ := hw_62
                  have n_62 := gBN.nil n_62
                  subst n_62
                  rcases hw_62 with ⟨rfl, hw_62_0, hw_62_1⟩ | ⟨rfl, hw_62_0⟩
                  · skip
                    refine lv_if_ne (tgt := 110) hx hb dX10_next0_97 (by decide) (fun _ => ?_) (fun h9 => absurd h9 (by decide))
                    have hin8 := bA_in (f := F) (n := N) (p := (sv16 0 0 11).toInt) (by omega)
                    refine lv_iload_n hx hb dX10_next0_110 rfl (lv_at hl 1 rfl) ?_
                    refine lv_if_eq (tgt := 129) hx hb dX10_next0_111 (by decide) (fun c_63 => ?_) (fun c_63 => ?_)
                    · have ic_63 := gz_eq (rfl : y16_0.toInt = y16_0.toInt) (by decide : (0 : Int32).toInt = 0) c_63
                      refine lv_iconst (v := 0) hx hb dX10_next0_129 (by decide) ?_
                      refine lv_istore_n (lv' := [(3, .int 0), (4, .int y16_1), (2, .int y13_0), (1, .int r_11), (0, .ref (ad 0 0))]) hx hb dX10_next0_130 rfl hl (by decide) rfl (fun ls hl => ?_)
                      have hz9 : (0 : Int32).toInt = 0 := (by decide)
                      exact jn17  ((0 : Int32) : Int32) H _ ls  (ISp.zero hv16_0 hv16_4 hsm9 (show bA F N ((st_15 0 0 11).toInt + y16_1.toInt) = bA F N (sv16 0 0 11).toInt by rw [show (st_15 0 0 11).toInt + y16_1.toInt = (sv16 0 0 11).toInt by omega]) (by omega) (by omega)) (by have hl0 : (0 : Int32).toInt = 0 := (by decide); have hb1 : (0 : Int) ≤ (sv16 0 0 11).toInt ∧ (sv16 0 0 11).toInt ≤ (800 : Int) := hB_sv16.1 0 0 11; have hq2 : (sv16 0 0 10).toInt = ((st 0 0 10) : Int32).toInt := congrArg Int32.toInt ((hB_sv16.2 0 0 10 (show (10 : Nat) ∉ _ from by decide))); have hb3 : (0 : Int) ≤ (sv16 0 0 10).toInt ∧ (sv16 0 0 10).toInt ≤ (800 : Int) := hB_sv16.1 0 0 10; omega) (by have hl0 : (0 : Int32).toInt = 0 := (by decide); have hb1 : (0 : Int) ≤ (sv16 0 0 11).toInt ∧ (sv16 0 0 11).toInt ≤ (800 : Int) := hB_sv16.1 0 0 11; omega) (by have hl0 : (0 : Int32).toInt = 0 := (by decide); have hb1 : (0 : Int) ≤ (sv16 0 0 11).toInt ∧ (sv16 0 0 11).toInt ≤ (800 : Int) := hB_sv16.1 0 0 11; omega) hM hS (lv_sub hl [0, 1, 2, 3, 4] rfl)
                    · have ic_63 := gz_ne (rfl : y16_0.toInt = y16_0.toInt) (by decide : (0 : Int32).toInt = 0) c_63
                      refine lv_aload_n hx hb dX10_next0_114 rfl (lv_at hl 4 rfl) ?_
                      refine gs_calli (va_runV (As := []) (rest := []) ⟨hx, hb, hml, hown, hts⟩ (m_peek l G cy sK sV ad H.size sv16 hB_sv16.1  F N (((funext (fun j9 => hB_sv16.2 7 0 j9 (show (700 : Nat) ∉ _ from by decide))).trans rfl).trans hF) ((congrArg Int32.toInt ((hB_sv16.2 0 0 10 (show (10 : Nat) ∉ _ from by decide)))).trans hN)) ⟨(gz_cb (n := 0) hts gm_1104 gm_12 gm_1107 ⟨by decide +kernel, by decide +kernel, by decide +kernel⟩ ⟨Nat.le_of_ble_eq_true rfl, Nat.le_of_ble_eq_true rfl⟩), hts _ gm_1106, hts _ gs_33⟩ (gs_preV hK hov hE hI hM hm hS hA 0 0 (by decide) rfl rfl) rfl rfl hl.1 rfl (lv_room (Nat.le_of_ble_eq_true rfl)) dX10_next0_115 ⟨Nat.le_of_ble_eq_true rfl, Nat.le_of_ble_eq_true rfl⟩) hm hS hA (fun r_64 st_64 H locs hw_64 hM hS => ?_)
                      obtain ⟨n_64, hw_64⟩ := hw_64
                      have n_64 := gBN.nil n_64
                      subst n_64
                      obtain ⟨hw_64_0, hw_64_1, hw_64_2⟩ := hw_64
                      refine gs_calli (va_runS (As := [.int r_64]) (rest := []) ⟨hx, hb, hml, hown, hts⟩ (m_isSmall l G cy sK sV ad H.size sv16 hB_sv16.1 r_64 r_64.toInt rfl ) ⟨(gz_cb (n := 1) hts gm_1108 gm_12 gm_1110 ⟨by decide +kernel, by decide +kernel, by decide +kernel⟩ ⟨Nat.le_of_ble_eq_true rfl, Nat.le_of_ble_eq_true rfl⟩), hts _ gm_1109⟩ (gs_preS hK hov hE hI hM hm hS hA) rfl rfl hl.1 rfl (lv_room (Nat.le_of_ble_eq_true rfl)) dX10_next0_118 ⟨Nat.le_of_ble_eq_true rfl, Nat.le_of_ble_eq_true rfl⟩) hm hS hA (fun r_65 st_65 H locs hw_65 hM hS => ?_)
                      obtain ⟨n_65, hw_65⟩ := hw_65
                      have n_65 := gBN.nil n_65
                      subst n_65
                      rcases hw_65 with ⟨rfl, hw_65_0, hw_65_1⟩ | ⟨rfl, hw_65_0⟩
                      · skip
                        refine lv_iload_n hx hb dX10_next0_121 rfl (lv_at hl 2 rfl) ?_
                        refine lv_icmp_ne (tgt := 129) hx hb dX10_next0_122 (by decide) (fun c_66 => ?_) (fun c_66 => ?_)
                        · have ic_66 := gz_ne (by decide : (1 : Int32).toInt = 1) (rfl : y13_0.toInt = y13_0.toInt) c_66
                          refine lv_iconst (v := 0) hx hb dX10_next0_129 (by decide) ?_
                          refine lv_istore_n (lv' := [(3, .int 0), (4, .int y16_1), (2, .int y13_0), (1, .int r_11), (0, .ref (ad 0 0))]) hx hb dX10_next0_130 rfl hl (by decide) rfl (fun ls hl => ?_)
                          have hz9 : (0 : Int32).toInt = 0 := (by decide)
                          exact jn17  ((0 : Int32) : Int32) H _ ls  (ISp.zero hv16_0 hv16_4 hsm9 (show bA F N ((st_15 0 0 11).toInt + y16_1.toInt) = bA F N (sv16 0 0 11).toInt by rw [show (st_15 0 0 11).toInt + y16_1.toInt = (sv16 0 0 11).toInt by omega]) (by omega) (by omega)) (by have hl0 : (0 : Int32).toInt = 0 := (by decide); have hb1 : (0 : Int) ≤ (sv16 0 0 11).toInt ∧ (sv16 0 0 11).toInt ≤ (800 : Int) := hB_sv16.1 0 0 11; have hq2 : (sv16 0 0 10).toInt = ((st 0 0 10) : Int32).toInt := congrArg Int32.toInt ((hB_sv16.2 0 0 10 (show (10 : Nat) ∉ _ from by decide))); have hb3 : (0 : Int) ≤ (sv16 0 0 10).toInt ∧ (sv16 0 0 10).toInt ≤ (800 : Int) := hB_sv16.1 0 0 10; omega) (by have hl0 : (0 : Int32).toInt = 0 := (by decide); have hb1 : (0 : Int) ≤ (sv16 0 0 11).toInt ∧ (sv16 0 0 11).toInt ≤ (800 : Int) := hB_sv16.1 0 0 11; omega) (by have hl0 : (0 : Int32).toInt = 0 := (by decide); have hb1 : (0 : Int) ≤ (sv16 0 0 11).toInt ∧ (sv16 0 0 11).toInt ≤ (800 : Int) := hB_sv16.1 0 0 11; omega) hM hS (lv_sub hl [0, 1, 2, 3, 4] rfl)
                        · have ic_66 := gz_eqn (by decide : (1 : Int32).toInt = 1) (rfl : y13_0.toInt = y13_0.toInt) c_66
                          refine lv_iconst (v := 1) hx hb dX10_next0_125 (by decide) ?_
                          refine lv_goto (tgt := 130) hx hb dX10_next0_126 (by decide) ?_
                          refine lv_istore_n (lv' := [(3, .int 1), (4, .int y16_1), (2, .int y13_0), (1, .int r_11), (0, .ref (ad 0 0))]) hx hb dX10_next0_130 rfl hl (by decide) rfl (fun ls hl => ?_)
                          have hz9 : (1 : Int32).toInt = 1 := (by decide)
                          exact jn17  ((1 : Int32) : Int32) H _ ls  (ISp.one hv16_0 hv16_4 (by omega) (show bA F N ((st_15 0 0 11).toInt + y16_1.toInt) = bA F N (sv16 0 0 11).toInt by rw [show (st_15 0 0 11).toInt + y16_1.toInt = (sv16 0 0 11).toInt by omega]) (by omega)) (by have hl0 : (1 : Int32).toInt = 1 := (by decide); have hb1 : (0 : Int) ≤ (sv16 0 0 11).toInt ∧ (sv16 0 0 11).toInt ≤ (800 : Int) := hB_sv16.1 0 0 11; have hq2 : (sv16 0 0 10).toInt = ((st 0 0 10) : Int32).toInt := congrArg Int32.toInt ((hB_sv16.2 0 0 10 (show (10 : Nat) ∉ _ from by decide))); have hb3 : (0 : Int) ≤ (sv16 0 0 10).toInt ∧ (sv16 0 0 10).toInt ≤ (800 : Int) := hB_sv16.1 0 0 10; omega) (by have hl0 : (1 : Int32).toInt = 1 := (by decide); have hb1 : (0 : Int) ≤ (sv16 0 0 11).toInt ∧ (sv16 0 0 11).toInt ≤ (800 : Int) := hB_sv16.1 0 0 11; omega) (by have hl0 : (1 : Int32).toInt = 1 := (by decide); have hb1 : (0 : Int) ≤ (sv16 0 0 11).toInt ∧ (sv16 0 0 11).toInt ≤ (800 : Int) := hB_sv16.1 0 0 11; omega) hM hS (lv_sub hl [0, 1, 2, 3, 4] rfl)
                      · skip
                        refine lv_iload_n hx hb dX10_next0_121 rfl (lv_at hl 2 rfl) ?_
                        refine lv_icmp_ne (tgt := 129) hx hb dX10_next0_122 (by decide) (fun c_67 => ?_) (fun c_67 => ?_)
                        · have ic_67 := gz_ne (by decide : (0 : Int32).toInt = 0) (rfl : y13_0.toInt = y13_0.toInt) c_67
                          refine lv_iconst (v := 0) hx hb dX10_next0_129 (by decide) ?_
                          refine lv_istore_n (lv' := [(3, .int 0), (4, .int y16_1), (2, .int y13_0), (1, .int r_11), (0, .ref (ad 0 0))]) hx hb dX10_next0_130 rfl hl (by decide) rfl (fun ls hl => ?_)
                          have hz9 : (0 : Int32).toInt = 0 := (by decide)
                          exact jn17  ((0 : Int32) : Int32) H _ ls  (ISp.zero hv16_0 hv16_4 hsm9 (show bA F N ((st_15 0 0 11).toInt + y16_1.toInt) = bA F N (sv16 0 0 11).toInt by rw [show (st_15 0 0 11).toInt + y16_1.toInt = (sv16 0 0 11).toInt by omega]) (by omega) (by omega)) (by have hl0 : (0 : Int32).toInt = 0 := (by decide); have hb1 : (0 : Int) ≤ (sv16 0 0 11).toInt ∧ (sv16 0 0 11).toInt ≤ (800 : Int) := hB_sv16.1 0 0 11; have hq2 : (sv16 0 0 10).toInt = ((st 0 0 10) : Int32).toInt := congrArg Int32.toInt ((hB_sv16.2 0 0 10 (show (10 : Nat) ∉ _ from by decide))); have hb3 : (0 : Int) ≤ (sv16 0 0 10).toInt ∧ (sv16 0 0 10).toInt ≤ (800 : Int) := hB_sv16.1 0 0 10; omega) (by have hl0 : (0 : Int32).toInt = 0 := (by decide); have hb1 : (0 : Int) ≤ (sv16 0 0 11).toInt ∧ (sv16 0 0 11).toInt ≤ (800 : Int) := hB_sv16.1 0 0 11; omega) (by have hl0 : (0 : Int32).toInt = 0 := (by decide); have hb1 : (0 : Int) ≤ (sv16 0 0 11).toInt ∧ (sv16 0 0 11).toInt ≤ (800 : Int) := hB_sv16.1 0 0 11; omega) hM hS (lv_sub hl [0, 1, 2, 3, 4] rfl)
                        · have ic_67 := gz_eqn (by decide : (0 : Int32).toInt = 0) (rfl : y13_0.toInt = y13_0.toInt) c_67
                          refine lv_iconst (v := 1) hx hb dX10_next0_125 (by decide) ?_
                          refine lv_goto (tgt := 130) hx hb dX10_next0_126 (by decide) ?_
                          refine lv_istore_n (lv' := [(3, .int 1), (4, .int y16_1), (2, .int y13_0), (1, .int r_11), (0, .ref (ad 0 0))]) hx hb dX10_next0_130 rfl hl (by decide) rfl (fun ls hl => ?_)
                          have hz9 : (1 : Int32).toInt = 1 := (by decide)
                          exact jn17  ((1 : Int32) : Int32) H _ ls  (ISp.one hv16_0 hv16_4 (by omega) (show bA F N ((st_15 0 0 11).toInt + y16_1.toInt) = bA F N (sv16 0 0 11).toInt by rw [show (st_15 0 0 11).toInt + y16_1.toInt = (sv16 0 0 11).toInt by omega]) (by omega)) (by have hl0 : (1 : Int32).toInt = 1 := (by decide); have hb1 : (0 : Int) ≤ (sv16 0 0 11).toInt ∧ (sv16 0 0 11).toInt ≤ (800 : Int) := hB_sv16.1 0 0 11; have hq2 : (sv16 0 0 10).toInt = ((st 0 0 10) : Int32).toInt := congrArg Int32.toInt ((hB_sv16.2 0 0 10 (show (10 : Nat) ∉ _ from by decide))); have hb3 : (0 : Int) ≤ (sv16 0 0 10).toInt ∧ (sv16 0 0 10).toInt ≤ (800 : Int) := hB_sv16.1 0 0 10; omega) (by have hl0 : (1 : Int32).toInt = 1 := (by decide); have hb1 : (0 : Int) ≤ (sv16 0 0 11).toInt ∧ (sv16 0 0 11).toInt ≤ (800 : Int) := hB_sv16.1 0 0 11; omega) (by have hl0 : (1 : Int32).toInt = 1 := (by decide); have hb1 : (0 : Int) ≤ (sv16 0 0 11).toInt ∧ (sv16 0 0 11).toInt ≤ (800 : Int) := hB_sv16.1 0 0 11; omega) hM hS (lv_sub hl [0, 1, 2, 3, 4] rfl)
                  · skip
                    refine lv_if_ne (tgt := 110) hx hb dX10_next0_97 (by decide) (fun h9 => absurd (by decide) h9) (fun _ => ?_)
                    refine lv_aload_n hx hb dX10_next0_100 rfl (lv_at hl 4 rfl) ?_
                    refine gs_calli (va_runV (As := []) (rest := []) ⟨hx, hb, hml, hown, hts⟩ (m_peek l G cy sK sV ad H.size sv16 hB_sv16.1  F N (((funext (fun j9 => hB_sv16.2 7 0 j9 (show (700 : Nat) ∉ _ from by decide))).trans rfl).trans hF) ((congrArg Int32.toInt ((hB_sv16.2 0 0 10 (show (10 : Nat) ∉ _ from by decide)))).trans hN)) ⟨(gz_cb (n := 0) hts gm_1104 gm_12 gm_1107 ⟨by decide +kernel, by decide +kernel, by decide +kernel⟩ ⟨Nat.le_of_ble_eq_true rfl, Nat.le_of_ble_eq_true rfl⟩), hts _ gm_1106, hts _ gs_33⟩ (gs_preV hK hov hE hI hM hm hS hA 0 0 (by decide) rfl rfl) rfl rfl hl.1 rfl (lv_room (Nat.le_of_ble_eq_true rfl)) dX10_next0_101 ⟨Nat.le_of_ble_eq_true rfl, Nat.le_of_ble_eq_true rfl⟩) hm hS hA (fun r_68 st_68 H locs hw_68 hM hS => ?_)
                    obtain ⟨n_68, hw_68⟩ := hw_68
                    have n_68 := gBN.nil n_68
                    subst n_68
                    obtain ⟨hw_68_0, hw_68_1, hw_68_2⟩ := hw_68
                    refine gs_calli (va_runS (As := [.int r_68]) (rest := []) ⟨hx, hb, hml, hown, hts⟩ (m_isDigit l G cy sK sV ad H.size sv16 hB_sv16.1 r_68 r_68.toInt rfl ) ⟨(gz_cb (n := 1) hts gm_1111 gm_12 gm_1113 ⟨by decide +kernel, by decide +kernel, by decide +kernel⟩ ⟨Nat.le_of_ble_eq_true rfl, Nat.le_of_ble_eq_true rfl⟩), hts _ gm_1112⟩ (gs_preS hK hov hE hI hM hm hS hA) rfl rfl hl.1 rfl (lv_room (Nat.le_of_ble_eq_true rfl)) dX10_next0_104 ⟨Nat.le_of_ble_eq_true rfl, Nat.le_of_ble_eq_true rfl⟩) hm hS hA (fun r_69 st_69 H locs hw_69 hM hS => ?_)
                    obtain ⟨n_69, hw_69⟩ := hw_69
                    have n_69 := gBN.nil n_69
                    subst n_69
                    rcases hw_69 with ⟨rfl, hw_69_0, hw_69_1⟩ | ⟨rfl, hw_69_0⟩
                    · skip
                      refine lv_if_eq (tgt := 200) hx hb dX10_next0_107 (by decide) (fun h9 => absurd h9 (by decide)) (fun _ => ?_)
                      have hin8 := bA_in (f := F) (n := N) (p := (sv16 0 0 11).toInt) (by omega)
                      refine lv_iload_n hx hb dX10_next0_110 rfl (lv_at hl 1 rfl) ?_
                      refine lv_if_eq (tgt := 129) hx hb dX10_next0_111 (by decide) (fun c_70 => ?_) (fun c_70 => ?_)
                      · have ic_70 := gz_eq (rfl : y16_0.toInt = y16_0.toInt) (by decide : (0 : Int32).toInt = 0) c_70
                        refine lv_iconst (v := 0) hx hb dX10_next0_129 (by decide) ?_
                        refine lv_istore_n (lv' := [(3, .int 0), (4, .int y16_1), (2, .int y13_0), (1, .int r_11), (0, .ref (ad 0 0))]) hx hb dX10_next0_130 rfl hl (by decide) rfl (fun ls hl => ?_)
                        have hz9 : (0 : Int32).toInt = 0 := (by decide)
                        exact jn17  ((0 : Int32) : Int32) H _ ls  (ISp.zero hv16_0 hv16_4 hsm9 (show bA F N ((st_15 0 0 11).toInt + y16_1.toInt) = bA F N (sv16 0 0 11).toInt by rw [show (st_15 0 0 11).toInt + y16_1.toInt = (sv16 0 0 11).toInt by omega]) (by omega) (by omega)) (by have hl0 : (0 : Int32).toInt = 0 := (by decide); have hb1 : (0 : Int) ≤ (sv16 0 0 11).toInt ∧ (sv16 0 0 11).toInt ≤ (800 : Int) := hB_sv16.1 0 0 11; have hq2 : (sv16 0 0 10).toInt = ((st 0 0 10) : Int32).toInt := congrArg Int32.toInt ((hB_sv16.2 0 0 10 (show (10 : Nat) ∉ _ from by decide))); have hb3 : (0 : Int) ≤ (sv16 0 0 10).toInt ∧ (sv16 0 0 10).toInt ≤ (800 : Int) := hB_sv16.1 0 0 10; omega) (by have hl0 : (0 : Int32).toInt = 0 := (by decide); have hb1 : (0 : Int) ≤ (sv16 0 0 11).toInt ∧ (sv16 0 0 11).toInt ≤ (800 : Int) := hB_sv16.1 0 0 11; omega) (by have hl0 : (0 : Int32).toInt = 0 := (by decide); have hb1 : (0 : Int) ≤ (sv16 0 0 11).toInt ∧ (sv16 0 0 11).toInt ≤ (800 : Int) := hB_sv16.1 0 0 11; omega) hM hS (lv_sub hl [0, 1, 2, 3, 4] rfl)
                      · have ic_70 := gz_ne (rfl : y16_0.toInt = y16_0.toInt) (by decide : (0 : Int32).toInt = 0) c_70
                        refine lv_aload_n hx hb dX10_next0_114 rfl (lv_at hl 4 rfl) ?_
                        refine gs_calli (va_runV (As := []) (rest := []) ⟨hx, hb, hml, hown, hts⟩ (m_peek l G cy sK sV ad H.size sv16 hB_sv16.1  F N (((funext (fun j9 => hB_sv16.2 7 0 j9 (show (700 : Nat) ∉ _ from by decide))).trans rfl).trans hF) ((congrArg Int32.toInt ((hB_sv16.2 0 0 10 (show (10 : Nat) ∉ _ from by decide)))).trans hN)) ⟨(gz_cb (n := 0) hts gm_1104 gm_12 gm_1107 ⟨by decide +kernel, by decide +kernel, by decide +kernel⟩ ⟨Nat.le_of_ble_eq_true rfl, Nat.le_of_ble_eq_true rfl⟩), hts _ gm_1106, hts _ gs_33⟩ (gs_preV hK hov hE hI hM hm hS hA 0 0 (by decide) rfl rfl) rfl rfl hl.1 rfl (lv_room (Nat.le_of_ble_eq_true rfl)) dX10_next0_115 ⟨Nat.le_of_ble_eq_true rfl, Nat.le_of_ble_eq_true rfl⟩) hm hS hA (fun r_71 st_71 H locs hw_71 hM hS => ?_)
                        obtain ⟨n_71, hw_71⟩ := hw_71
                        have n_71 := gBN.nil n_71
                        subst n_71
                        obtain ⟨hw_71_0, hw_71_1, hw_71_2⟩ := hw_71
                        refine gs_calli (va_runS (As := [.int r_71]) (rest := []) ⟨hx, hb, hml, hown, hts⟩ (m_isSmall l G cy sK sV ad H.size sv16 hB_sv16.1 r_71 r_71.toInt rfl ) ⟨(gz_cb (n := 1) hts gm_1108 gm_12 gm_1110 ⟨by decide +kernel, by decide +kernel, by decide +kernel⟩ ⟨Nat.le_of_ble_eq_true rfl, Nat.le_of_ble_eq_true rfl⟩), hts _ gm_1109⟩ (gs_preS hK hov hE hI hM hm hS hA) rfl rfl hl.1 rfl (lv_room (Nat.le_of_ble_eq_true rfl)) dX10_next0_118 ⟨Nat.le_of_ble_eq_true rfl, Nat.le_of_ble_eq_true rfl⟩) hm hS hA (fun r_72 st_72 H locs hw_72 hM hS => ?_)
                        obtain ⟨n_72, hw_72⟩ := hw_72
                        have n_72 := gBN.nil n_72
                        subst n_72
                        rcases hw_72 with ⟨rfl, hw_72_0, hw_72_1⟩ | ⟨rfl, hw_72_0⟩
                        · skip
                          refine lv_iload_n hx hb dX10_next0_121 rfl (lv_at hl 2 rfl) ?_
                          refine lv_icmp_ne (tgt := 129) hx hb dX10_next0_122 (by decide) (fun c_73 => ?_) (fun c_73 => ?_)
                          · have ic_73 := gz_ne (by decide : (1 : Int32).toInt = 1) (rfl : y13_0.toInt = y13_0.toInt) c_73
                            refine lv_iconst (v := 0) hx hb dX10_next0_129 (by decide) ?_
                            refine lv_istore_n (lv' := [(3, .int 0), (4, .int y16_1), (2, .int y13_0), (1, .int r_11), (0, .ref (ad 0 0))]) hx hb dX10_next0_130 rfl hl (by decide) rfl (fun ls hl => ?_)
                            have hz9 : (0 : Int32).toInt = 0 := (by decide)
                            exact jn17  ((0 : Int32) : Int32) H _ ls  (ISp.zero hv16_0 hv16_4 hsm9 (show bA F N ((st_15 0 0 11).toInt + y16_1.toInt) = bA F N (sv16 0 0 11).toInt by rw [show (st_15 0 0 11).toInt + y16_1.toInt = (sv16 0 0 11).toInt by omega]) (by omega) (by omega)) (by have hl0 : (0 : Int32).toInt = 0 := (by decide); have hb1 : (0 : Int) ≤ (sv16 0 0 11).toInt ∧ (sv16 0 0 11).toInt ≤ (800 : Int) := hB_sv16.1 0 0 11; have hq2 : (sv16 0 0 10).toInt = ((st 0 0 10) : Int32).toInt := congrArg Int32.toInt ((hB_sv16.2 0 0 10 (show (10 : Nat) ∉ _ from by decide))); have hb3 : (0 : Int) ≤ (sv16 0 0 10).toInt ∧ (sv16 0 0 10).toInt ≤ (800 : Int) := hB_sv16.1 0 0 10; omega) (by have hl0 : (0 : Int32).toInt = 0 := (by decide); have hb1 : (0 : Int) ≤ (sv16 0 0 11).toInt ∧ (sv16 0 0 11).toInt ≤ (800 : Int) := hB_sv16.1 0 0 11; omega) (by have hl0 : (0 : Int32).toInt = 0 := (by decide); have hb1 : (0 : Int) ≤ (sv16 0 0 11).toInt ∧ (sv16 0 0 11).toInt ≤ (800 : Int) := hB_sv16.1 0 0 11; omega) hM hS (lv_sub hl [0, 1, 2, 3, 4] rfl)
                          · have ic_73 := gz_eqn (by decide : (1 : Int32).toInt = 1) (rfl : y13_0.toInt = y13_0.toInt) c_73
                            refine lv_iconst (v := 1) hx hb dX10_next0_125 (by decide) ?_
                            refine lv_goto (tgt := 130) hx hb dX10_next0_126 (by decide) ?_
                            refine lv_istore_n (lv' := [(3, .int 1), (4, .int y16_1), (2, .int y13_0), (1, .int r_11), (0, .ref (ad 0 0))]) hx hb dX10_next0_130 rfl hl (by decide) rfl (fun ls hl => ?_)
                            have hz9 : (1 : Int32).toInt = 1 := (by decide)
                            exact jn17  ((1 : Int32) : Int32) H _ ls  (ISp.one hv16_0 hv16_4 (by omega) (show bA F N ((st_15 0 0 11).toInt + y16_1.toInt) = bA F N (sv16 0 0 11).toInt by rw [show (st_15 0 0 11).toInt + y16_1.toInt = (sv16 0 0 11).toInt by omega]) (by omega)) (by have hl0 : (1 : Int32).toInt = 1 := (by decide); have hb1 : (0 : Int) ≤ (sv16 0 0 11).toInt ∧ (sv16 0 0 11).toInt ≤ (800 : Int) := hB_sv16.1 0 0 11; have hq2 : (sv16 0 0 10).toInt = ((st 0 0 10) : Int32).toInt := congrArg Int32.toInt ((hB_sv16.2 0 0 10 (show (10 : Nat) ∉ _ from by decide))); have hb3 : (0 : Int) ≤ (sv16 0 0 10).toInt ∧ (sv16 0 0 10).toInt ≤ (800 : Int) := hB_sv16.1 0 0 10; omega) (by have hl0 : (1 : Int32).toInt = 1 := (by decide); have hb1 : (0 : Int) ≤ (sv16 0 0 11).toInt ∧ (sv16 0 0 11).toInt ≤ (800 : Int) := hB_sv16.1 0 0 11; omega) (by have hl0 : (1 : Int32).toInt = 1 := (by decide); have hb1 : (0 : Int) ≤ (sv16 0 0 11).toInt ∧ (sv16 0 0 11).toInt ≤ (800 : Int) := hB_sv16.1 0 0 11; omega) hM hS (lv_sub hl [0, 1, 2, 3, 4] rfl)
                        · skip
                          refine lv_iload_n hx hb dX10_next0_121 rfl (lv_at hl 2 rfl) ?_
                          refine lv_icmp_ne (tgt := 129) hx hb dX10_next0_122 (by decide) (fun c_74 => ?_) (fun c_74 => ?_)
                          · have ic_74 := gz_ne (by decide : (0 : Int32).toInt = 0) (rfl : y13_0.toInt = y13_0.toInt) c_74
                            refine lv_iconst (v := 0) hx hb dX10_next0_129 (by decide) ?_
                            refine lv_istore_n (lv' := [(3, .int 0), (4, .int y16_1), (2, .int y13_0), (1, .int r_11), (0, .ref (ad 0 0))]) hx hb dX10_next0_130 rfl hl (by decide) rfl (fun ls hl => ?_)
                            have hz9 : (0 : Int32).toInt = 0 := (by decide)
                            exact jn17  ((0 : Int32) : Int32) H _ ls  (ISp.zero hv16_0 hv16_4 hsm9 (show bA F N ((st_15 0 0 11).toInt + y16_1.toInt) = bA F N (sv16 0 0 11).toInt by rw [show (st_15 0 0 11).toInt + y16_1.toInt = (sv16 0 0 11).toInt by omega]) (by omega) (by omega)) (by have hl0 : (0 : Int32).toInt = 0 := (by decide); have hb1 : (0 : Int) ≤ (sv16 0 0 11).toInt ∧ (sv16 0 0 11).toInt ≤ (800 : Int) := hB_sv16.1 0 0 11; have hq2 : (sv16 0 0 10).toInt = ((st 0 0 10) : Int32).toInt := congrArg Int32.toInt ((hB_sv16.2 0 0 10 (show (10 : Nat) ∉ _ from by decide))); have hb3 : (0 : Int) ≤ (sv16 0 0 10).toInt ∧ (sv16 0 0 10).toInt ≤ (800 : Int) := hB_sv16.1 0 0 10; omega) (by have hl0 : (0 : Int32).toInt = 0 := (by decide); have hb1 : (0 : Int) ≤ (sv16 0 0 11).toInt ∧ (sv16 0 0 11).toInt ≤ (800 : Int) := hB_sv16.1 0 0 11; omega) (by have hl0 : (0 : Int32).toInt = 0 := (by decide); have hb1 : (0 : Int) ≤ (sv16 0 0 11).toInt ∧ (sv16 0 0 11).toInt ≤ (800 : Int) := hB_sv16.1 0 0 11; omega) hM hS (lv_sub hl [0, 1, 2, 3, 4] rfl)
                          · have ic_74 := gz_eqn (by decide : (0 : Int32).toInt = 0) (rfl : y13_0.toInt = y13_0.toInt) c_74
                            refine lv_iconst (v := 1) hx hb dX10_next0_125 (by decide) ?_
                            refine lv_goto (tgt := 130) hx hb dX10_next0_126 (by decide) ?_
                            refine lv_istore_n (lv' := [(3, .int 1), (4, .int y16_1), (2, .int y13_0), (1, .int r_11), (0, .ref (ad 0 0))]) hx hb dX10_next0_130 rfl hl (by decide) rfl (fun ls hl => ?_)
                            have hz9 : (1 : Int32).toInt = 1 := (by decide)
                            exact jn17  ((1 : Int32) : Int32) H _ ls  (ISp.one hv16_0 hv16_4 (by omega) (show bA F N ((st_15 0 0 11).toInt + y16_1.toInt) = bA F N (sv16 0 0 11).toInt by rw [show (st_15 0 0 11).toInt + y16_1.toInt = (sv16 0 0 11).toInt by omega]) (by omega)) (by have hl0 : (1 : Int32).toInt = 1 := (by decide); have hb1 : (0 : Int) ≤ (sv16 0 0 11).toInt ∧ (sv16 0 0 11).toInt ≤ (800 : Int) := hB_sv16.1 0 0 11; have hq2 : (sv16 0 0 10).toInt = ((st 0 0 10) : Int32).toInt := congrArg Int32.toInt ((hB_sv16.2 0 0 10 (show (10 : Nat) ∉ _ from by decide))); have hb3 : (0 : Int) ≤ (sv16 0 0 10).toInt ∧ (sv16 0 0 10).toInt ≤ (800 : Int) := hB_sv16.1 0 0 10; omega) (by have hl0 : (1 : Int32).toInt = 1 := (by decide); have hb1 : (0 : Int) ≤ (sv16 0 0 11).toInt ∧ (sv16 0 0 11).toInt ≤ (800 : Int) := hB_sv16.1 0 0 11; omega) (by have hl0 : (1 : Int32).toInt = 1 := (by decide); have hb1 : (0 : Int) ≤ (sv16 0 0 11).toInt ∧ (sv16 0 0 11).toInt ≤ (800 : Int) := hB_sv16.1 0 0 11; omega) hM hS (lv_sub hl [0, 1, 2, 3, 4] rfl)
                    · skip
                      refine lv_if_eq (tgt := 200) hx hb dX10_next0_107 (by decide) (fun _ => ?_) (fun h9 => absurd (by decide) h9)
                      refine lv_iload hx hb dX10_next0_200 (lv_at hl 0 rfl) ?_
                      refine lv_bipush (v := 8) hx hb dX10_next0_202 (by decide) ?_
                      refine lv_icmp_le (tgt := 212) hx hb dX10_next0_204 (by decide) (fun c_75 => ?_) (fun c_75 => ?_)
                      · have ic_75 := gz_le (rfl : y16_1.toInt = y16_1.toInt) (by decide : (8 : Int32).toInt = 8) c_75
                        refine lv_aload_n hx hb dX10_next0_212 rfl (lv_at hl 4 rfl) ?_
                        refine lv_iload_n hx hb dX10_next0_213 rfl (lv_at hl 1 rfl) ?_
                        refine lv_if_eq (tgt := 227) hx hb dX10_next0_214 (by decide) (fun c_76 => ?_) (fun c_76 => ?_)
                        · have ic_76 := gz_eq (rfl : y16_0.toInt = y16_0.toInt) (by decide : (0 : Int32).toInt = 0) c_76
                          refine lv_iconst (v := 4) hx hb dX10_next0_227 (by decide) ?_
                          refine lv_goto (tgt := 240) hx hb dX10_next0_228 (by decide) ?_
                          refine gs_put (C := RX10) (T := TX10) (N := 59) (ty := .int) (val := .int 4) hx hb hts inX10 tyX10 tyX10_ok nmX10 hown hK hI hm hM hS 0 0 12 (by decide) rfl rfl (by decide) (hts _ gm_913) (fun _ h9 => h9) rfl (4 : Int32) rfl (by decide +kernel) rfl rfl (Nat.le_of_ble_eq_true rfl) dX10_next0_240 (fun st_77 H locs est_77 hM hS => ?_)
                          have hB_st_77 : gBN bM kM [11, 12, 13, 14, 17, 59] st st_77 := by rw [est_77]; exact hB_sv16.up (show (12 : Nat) ∈ _ from by decide) (gi_lo _) (gi_hi _)
                          refine lv_goto (tgt := 288) hx hb dX10_next0_243 (by decide) ?_
                          rw [← hQe]
                          exact gs_vret hx hb hr hlocks hM hS ⟨hB_st_77, mCur_mk (mLex_run (e := (sv16 0 0 11).toInt) hsS9 hsm9.mr (by have h8 := hv16_2; rw [tEnd_no (p := (sv16 0 0 11).toInt) (Or.inr (mrB_f (by omega)))] at h8; exact h8.symm) ((by first | exact kdI_1a hv16_4 (by omega) (by omega) | exact kdI_1b hv16_4 (by omega) (by omega) (by omega) (by omega)))) (by rw [show (st_77 0 0 12).toInt = 4 from ((congrArg Int32.toInt (((congrFun (congrFun (congrFun est_77 0) 0) 12).trans (gU_same _ _ _ _ _)))).trans (by decide))]; decide) (by rw [show (st_77 0 0 11).toInt = (sv16 0 0 11).toInt from (congrArg Int32.toInt (((congrFun (congrFun (congrFun est_77 0) 0) 11).trans (gU_other (by decide)))))]; all_goals omega) (fun h9 => absurd h9 (by decide)) (fun h9 => absurd h9 (by decide)) (fun h9 => absurd h9 (by decide))⟩ (by exact Nat.le_refl _) (by exact Nat.le_refl _) dX10_next0_288
                        · have ic_76 := gz_ne (rfl : y16_0.toInt = y16_0.toInt) (by decide : (0 : Int32).toInt = 0) c_76
                          refine lv_iload_n hx hb dX10_next0_217 rfl (lv_at hl 2 rfl) ?_
                          refine lv_if_ne (tgt := 231) hx hb dX10_next0_218 (by decide) (fun c_78 => ?_) (fun c_78 => ?_)
                          · have ic_78 := gz_ne (rfl : y13_0.toInt = y13_0.toInt) (by decide : (0 : Int32).toInt = 0) c_78
                            refine lv_iload_n hx hb dX10_next0_231 rfl (lv_at hl 2 rfl) ?_
                            refine lv_if_eq (tgt := 239) hx hb dX10_next0_232 (by decide) (fun c_79 => ?_) (fun c_79 => ?_)
                            · have ic_79 := gz_eq (rfl : y13_0.toInt = y13_0.toInt) (by decide : (0 : Int32).toInt = 0) c_79
                              refine lv_iconst (v := 2) hx hb dX10_next0_239 (by decide) ?_
                              refine gs_put (C := RX10) (T := TX10) (N := 59) (ty := .int) (val := .int 2) hx hb hts inX10 tyX10 tyX10_ok nmX10 hown hK hI hm hM hS 0 0 12 (by decide) rfl rfl (by decide) (hts _ gm_913) (fun _ h9 => h9) rfl (2 : Int32) rfl (by decide +kernel) rfl rfl (Nat.le_of_ble_eq_true rfl) dX10_next0_240 (fun st_80 H locs est_80 hM hS => ?_)
                              have hB_st_80 : gBN bM kM [11, 12, 13, 14, 17, 59] st st_80 := by rw [est_80]; exact hB_sv16.up (show (12 : Nat) ∈ _ from by decide) (gi_lo _) (gi_hi _)
                              refine lv_goto (tgt := 288) hx hb dX10_next0_243 (by decide) ?_
                              rw [← hQe]
                              exact gs_vret hx hb hr hlocks hM hS ⟨hB_st_80, mCur_mk (mLex_run (e := (sv16 0 0 11).toInt) hsS9 hsm9.mr (by have h8 := hv16_2; rw [tEnd_no (p := (sv16 0 0 11).toInt) (Or.inr (mrB_f (by omega)))] at h8; exact h8.symm) (kdI_3 hv16_4 (by omega) (by omega) (by omega) (hsm9.pos hv16_0 (by rw [show (st_15 0 0 11).toInt + y16_1.toInt = (sv16 0 0 11).toInt by omega]; omega)) (by omega))) (by rw [show (st_80 0 0 12).toInt = 2 from ((congrArg Int32.toInt (((congrFun (congrFun (congrFun est_80 0) 0) 12).trans (gU_same _ _ _ _ _)))).trans (by decide))]; decide) (by rw [show (st_80 0 0 11).toInt = (sv16 0 0 11).toInt from (congrArg Int32.toInt (((congrFun (congrFun (congrFun est_80 0) 0) 11).trans (gU_other (by decide)))))]; all_goals omega) (fun _ => by rw [show ((sv16 0 0 11).toInt - (st_15 0 0 11).toInt).toNat = y16_1.toInt.toNat from (by rw [show (sv16 0 0 11).toInt - (st_15 0 0 11).toInt = y16_1.toInt by omega])]; rw [show (st_80 0 0 14).toInt = (sv16 0 0 14).toInt from (congrArg Int32.toInt (((congrFun (congrFun (congrFun est_80 0) 0) 14).trans (gU_other (by decide)))))]; exact hv16_5 (by omega)) (fun h9 => absurd h9 (by decide)) (fun h9 => absurd h9 (by decide))⟩ (by exact Nat.le_refl _) (by exact Nat.le_refl _) dX10_next0_288
                            · have ic_79 := gz_ne (rfl : y13_0.toInt = y13_0.toInt) (by decide : (0 : Int32).toInt = 0) c_79
                              refine lv_iconst (v := 1) hx hb dX10_next0_235 (by decide) ?_
                              refine lv_goto (tgt := 240) hx hb dX10_next0_236 (by decide) ?_
                              refine gs_put (C := RX10) (T := TX10) (N := 59) (ty := .int) (val := .int 1) hx hb hts inX10 tyX10 tyX10_ok nmX10 hown hK hI hm hM hS 0 0 12 (by decide) rfl rfl (by decide) (hts _ gm_913) (fun _ h9 => h9) rfl (1 : Int32) rfl (by decide +kernel) rfl rfl (Nat.le_of_ble_eq_true rfl) dX10_next0_240 (fun st_81 H locs est_81 hM hS => ?_)
                              have hB_st_81 : gBN bM kM [11, 12, 13, 14, 17, 59] st st_81 := by rw [est_81]; exact hB_sv16.up (show (12 : Nat) ∈ _ from by decide) (gi_lo _) (gi_hi _)
                              refine lv_goto (tgt := 288) hx hb dX10_next0_243 (by decide) ?_
                              rw [← hQe]
                              exact gs_vret hx hb hr hlocks hM hS ⟨hB_st_81, mCur_mk (mLex_run (e := (sv16 0 0 11).toInt) hsS9 hsm9.mr (by have h8 := hv16_2; rw [tEnd_no (p := (sv16 0 0 11).toInt) (Or.inr (mrB_f (by omega)))] at h8; exact h8.symm) (kdI_2 hv16_4 (by omega) (by omega) (by omega))) (by rw [show (st_81 0 0 12).toInt = 1 from ((congrArg Int32.toInt (((congrFun (congrFun (congrFun est_81 0) 0) 12).trans (gU_same _ _ _ _ _)))).trans (by decide))]; decide) (by rw [show (st_81 0 0 11).toInt = (sv16 0 0 11).toInt from (congrArg Int32.toInt (((congrFun (congrFun (congrFun est_81 0) 0) 11).trans (gU_other (by decide)))))]; all_goals omega) (fun h9 => absurd h9 (by decide)) (fun h9 => absurd h9 (by decide)) (fun _ => by unfold wdT; rw [show ((sv16 0 0 11).toInt - (st_15 0 0 11).toInt).toNat = y16_1.toInt.toNat from (by rw [show (sv16 0 0 11).toInt - (st_15 0 0 11).toInt = y16_1.toInt by omega]), show (sv16 0 0 11).toInt - (st_15 0 0 11).toInt = y16_1.toInt by omega]; rw [show st_81 0 0 17 = (sv16 0 0 17) from ((congrFun (congrFun (congrFun est_81 0) 0) 17).trans (gU_other (by decide))), show st_81 0 0 59 = (sv16 0 0 59) from ((congrFun (congrFun (congrFun est_81 0) 0) 59).trans (gU_other (by decide)))]; rw [hv16_6])⟩ (by exact Nat.le_refl _) (by exact Nat.le_refl _) dX10_next0_288
                          · have ic_78 := gz_eqn (rfl : y13_0.toInt = y13_0.toInt) (by decide : (0 : Int32).toInt = 0) c_78
                            refine lv_iload hx hb dX10_next0_221 (lv_at hl 0 rfl) ?_
                            refine lv_iconst (v := 4) hx hb dX10_next0_223 (by decide) ?_
                            refine lv_icmp_le (tgt := 231) hx hb dX10_next0_224 (by decide) (fun c_82 => ?_) (fun c_82 => ?_)
                            · have ic_82 := gz_le (rfl : y16_1.toInt = y16_1.toInt) (by decide : (4 : Int32).toInt = 4) c_82
                              refine lv_iload_n hx hb dX10_next0_231 rfl (lv_at hl 2 rfl) ?_
                              refine lv_if_eq (tgt := 239) hx hb dX10_next0_232 (by decide) (fun c_83 => ?_) (fun c_83 => ?_)
                              · have ic_83 := gz_eq (rfl : y13_0.toInt = y13_0.toInt) (by decide : (0 : Int32).toInt = 0) c_83
                                refine lv_iconst (v := 2) hx hb dX10_next0_239 (by decide) ?_
                                refine gs_put (C := RX10) (T := TX10) (N := 59) (ty := .int) (val := .int 2) hx hb hts inX10 tyX10 tyX10_ok nmX10 hown hK hI hm hM hS 0 0 12 (by decide) rfl rfl (by decide) (hts _ gm_913) (fun _ h9 => h9) rfl (2 : Int32) rfl (by decide +kernel) rfl rfl (Nat.le_of_ble_eq_true rfl) dX10_next0_240 (fun st_84 H locs est_84 hM hS => ?_)
                                have hB_st_84 : gBN bM kM [11, 12, 13, 14, 17, 59] st st_84 := by rw [est_84]; exact hB_sv16.up (show (12 : Nat) ∈ _ from by decide) (gi_lo _) (gi_hi _)
                                refine lv_goto (tgt := 288) hx hb dX10_next0_243 (by decide) ?_
                                rw [← hQe]
                                exact gs_vret hx hb hr hlocks hM hS ⟨hB_st_84, mCur_mk (mLex_run (e := (sv16 0 0 11).toInt) hsS9 hsm9.mr (by have h8 := hv16_2; rw [tEnd_no (p := (sv16 0 0 11).toInt) (Or.inr (mrB_f (by omega)))] at h8; exact h8.symm) (kdI_3 hv16_4 (by omega) (by omega) (by omega) (hsm9.pos hv16_0 (by rw [show (st_15 0 0 11).toInt + y16_1.toInt = (sv16 0 0 11).toInt by omega]; omega)) (by omega))) (by rw [show (st_84 0 0 12).toInt = 2 from ((congrArg Int32.toInt (((congrFun (congrFun (congrFun est_84 0) 0) 12).trans (gU_same _ _ _ _ _)))).trans (by decide))]; decide) (by rw [show (st_84 0 0 11).toInt = (sv16 0 0 11).toInt from (congrArg Int32.toInt (((congrFun (congrFun (congrFun est_84 0) 0) 11).trans (gU_other (by decide)))))]; all_goals omega) (fun _ => by rw [show ((sv16 0 0 11).toInt - (st_15 0 0 11).toInt).toNat = y16_1.toInt.toNat from (by rw [show (sv16 0 0 11).toInt - (st_15 0 0 11).toInt = y16_1.toInt by omega])]; rw [show (st_84 0 0 14).toInt = (sv16 0 0 14).toInt from (congrArg Int32.toInt (((congrFun (congrFun (congrFun est_84 0) 0) 14).trans (gU_other (by decide)))))]; exact hv16_5 (by omega)) (fun h9 => absurd h9 (by decide)) (fun h9 => absurd h9 (by decide))⟩ (by exact Nat.le_refl _) (by exact Nat.le_refl _) dX10_next0_288
                              · have ic_83 := gz_ne (rfl : y13_0.toInt = y13_0.toInt) (by decide : (0 : Int32).toInt = 0) c_83
                                refine lv_iconst (v := 1) hx hb dX10_next0_235 (by decide) ?_
                                refine lv_goto (tgt := 240) hx hb dX10_next0_236 (by decide) ?_
                                refine gs_put (C := RX10) (T := TX10) (N := 59) (ty := .int) (val := .int 1) hx hb hts inX10 tyX10 tyX10_ok nmX10 hown hK hI hm hM hS 0 0 12 (by decide) rfl rfl (by decide) (hts _ gm_913) (fun _ h9 => h9) rfl (1 : Int32) rfl (by decide +kernel) rfl rfl (Nat.le_of_ble_eq_true rfl) dX10_next0_240 (fun st_85 H locs est_85 hM hS => ?_)
                                have hB_st_85 : gBN bM kM [11, 12, 13, 14, 17, 59] st st_85 := by rw [est_85]; exact hB_sv16.up (show (12 : Nat) ∈ _ from by decide) (gi_lo _) (gi_hi _)
                                refine lv_goto (tgt := 288) hx hb dX10_next0_243 (by decide) ?_
                                rw [← hQe]
                                exact gs_vret hx hb hr hlocks hM hS ⟨hB_st_85, mCur_mk (mLex_run (e := (sv16 0 0 11).toInt) hsS9 hsm9.mr (by have h8 := hv16_2; rw [tEnd_no (p := (sv16 0 0 11).toInt) (Or.inr (mrB_f (by omega)))] at h8; exact h8.symm) (kdI_2 hv16_4 (by omega) (by omega) (by omega))) (by rw [show (st_85 0 0 12).toInt = 1 from ((congrArg Int32.toInt (((congrFun (congrFun (congrFun est_85 0) 0) 12).trans (gU_same _ _ _ _ _)))).trans (by decide))]; decide) (by rw [show (st_85 0 0 11).toInt = (sv16 0 0 11).toInt from (congrArg Int32.toInt (((congrFun (congrFun (congrFun est_85 0) 0) 11).trans (gU_other (by decide)))))]; all_goals omega) (fun h9 => absurd h9 (by decide)) (fun h9 => absurd h9 (by decide)) (fun _ => by unfold wdT; rw [show ((sv16 0 0 11).toInt - (st_15 0 0 11).toInt).toNat = y16_1.toInt.toNat from (by rw [show (sv16 0 0 11).toInt - (st_15 0 0 11).toInt = y16_1.toInt by omega]), show (sv16 0 0 11).toInt - (st_15 0 0 11).toInt = y16_1.toInt by omega]; rw [show st_85 0 0 17 = (sv16 0 0 17) from ((congrFun (congrFun (congrFun est_85 0) 0) 17).trans (gU_other (by decide))), show st_85 0 0 59 = (sv16 0 0 59) from ((congrFun (congrFun (congrFun est_85 0) 0) 59).trans (gU_other (by decide)))]; rw [hv16_6])⟩ (by exact Nat.le_refl _) (by exact Nat.le_refl _) dX10_next0_288
                            · have ic_82 := gz_nle (rfl : y16_1.toInt = y16_1.toInt) (by decide : (4 : Int32).toInt = 4) c_82
                              refine lv_iconst (v := 4) hx hb dX10_next0_227 (by decide) ?_
                              refine lv_goto (tgt := 240) hx hb dX10_next0_228 (by decide) ?_
                              refine gs_put (C := RX10) (T := TX10) (N := 59) (ty := .int) (val := .int 4) hx hb hts inX10 tyX10 tyX10_ok nmX10 hown hK hI hm hM hS 0 0 12 (by decide) rfl rfl (by decide) (hts _ gm_913) (fun _ h9 => h9) rfl (4 : Int32) rfl (by decide +kernel) rfl rfl (Nat.le_of_ble_eq_true rfl) dX10_next0_240 (fun st_86 H locs est_86 hM hS => ?_)
                              have hB_st_86 : gBN bM kM [11, 12, 13, 14, 17, 59] st st_86 := by rw [est_86]; exact hB_sv16.up (show (12 : Nat) ∈ _ from by decide) (gi_lo _) (gi_hi _)
                              refine lv_goto (tgt := 288) hx hb dX10_next0_243 (by decide) ?_
                              rw [← hQe]
                              exact gs_vret hx hb hr hlocks hM hS ⟨hB_st_86, mCur_mk (mLex_run (e := (sv16 0 0 11).toInt) hsS9 hsm9.mr (by have h8 := hv16_2; rw [tEnd_no (p := (sv16 0 0 11).toInt) (Or.inr (mrB_f (by omega)))] at h8; exact h8.symm) ((by first | exact kdI_1a hv16_4 (by omega) (by omega) | exact kdI_1b hv16_4 (by omega) (by omega) (by omega) (by omega)))) (by rw [show (st_86 0 0 12).toInt = 4 from ((congrArg Int32.toInt (((congrFun (congrFun (congrFun est_86 0) 0) 12).trans (gU_same _ _ _ _ _)))).trans (by decide))]; decide) (by rw [show (st_86 0 0 11).toInt = (sv16 0 0 11).toInt from (congrArg Int32.toInt (((congrFun (congrFun (congrFun est_86 0) 0) 11).trans (gU_other (by decide)))))]; all_goals omega) (fun h9 => absurd h9 (by decide)) (fun h9 => absurd h9 (by decide)) (fun h9 => absurd h9 (by decide))⟩ (by exact Nat.le_refl _) (by exact Nat.le_refl _) dX10_next0_288
                      · have ic_75 := gz_nle (rfl : y16_1.toInt = y16_1.toInt) (by decide : (8 : Int32).toInt = 8) c_75
                        refine lv_aload_n hx hb dX10_next0_207 rfl (lv_at hl 4 rfl) ?_
                        refine lv_lconst (v := 0) hx hb dX10_next0_208 (by decide) ?_
                        refine gs_putL (C := RX10) (T := TX10) (N := 59) (ty := .long) hx hb hts inX10 tyX10 tyX10_ok nmX10 hown hK hI hm hM hS 0 0 17 59 (by decide) rfl rfl (by decide) (hts _ gm_918) (fun _ h9 => h9) rfl (fun w1 w2 h9 => by rw [← h9]; rfl) (by decide +kernel) rfl rfl (Nat.le_of_ble_eq_true rfl) dX10_next0_209 (fun wast_87 wbst_87 st_87 H locs hl9st_87 est_87 hM hS => ?_)
                        have hlw_st_87 : lw (st_87 0 0 17) (st_87 0 0 59) = 0 := by rw [est_87, gU_other (show (17 : Nat) ≠ 59 by decide), gU_same, gU_same]; exact hl9st_87
                        have hB_st_87 : gBN bM kM [11, 12, 13, 14, 17, 59] st st_87 := by rw [est_87]; exact ((hB_sv16).up (k := 0) (i := 0) (j := 17) (v := wast_87) (by decide) (gi_lo _) (gi_hi _)).up (k := 0) (i := 0) (j := 59) (v := wbst_87) (by decide) (gi_lo _) (gi_hi _)
                        have n_st_87 : gBN bM kM [17, 59] sv16 st_87 := by rw [est_87]; exact ((gBN.rf hB_sv16.1).up (k := 0) (i := 0) (j := 17) (v := wast_87) (by decide) (gi_lo _) (gi_hi _)).up (k := 0) (i := 0) (j := 59) (v := wbst_87) (by decide) (gi_lo _) (gi_hi _)
                        refine lv_aload_n hx hb dX10_next0_212 rfl (lv_at hl 4 rfl) ?_
                        refine lv_iload_n hx hb dX10_next0_213 rfl (lv_at hl 1 rfl) ?_
                        refine lv_if_eq (tgt := 227) hx hb dX10_next0_214 (by decide) (fun c_88 => ?_) (fun c_88 => ?_)
                        · have ic_88 := gz_eq (rfl : y16_0.toInt = y16_0.toInt) (by decide : (0 : Int32).toInt = 0) c_88
                          refine lv_iconst (v := 4) hx hb dX10_next0_227 (by decide) ?_
                          refine lv_goto (tgt := 240) hx hb dX10_next0_228 (by decide) ?_
                          refine gs_put (C := RX10) (T := TX10) (N := 59) (ty := .int) (val := .int 4) hx hb hts inX10 tyX10 tyX10_ok nmX10 hown hK hI hm hM hS 0 0 12 (by decide) rfl rfl (by decide) (hts _ gm_913) (fun _ h9 => h9) rfl (4 : Int32) rfl (by decide +kernel) rfl rfl (Nat.le_of_ble_eq_true rfl) dX10_next0_240 (fun st_89 H locs est_89 hM hS => ?_)
                          have hB_st_89 : gBN bM kM [11, 12, 13, 14, 17, 59] st st_89 := by rw [est_89]; exact hB_st_87.up (show (12 : Nat) ∈ _ from by decide) (gi_lo _) (gi_hi _)
                          refine lv_goto (tgt := 288) hx hb dX10_next0_243 (by decide) ?_
                          rw [← hQe]
                          exact gs_vret hx hb hr hlocks hM hS ⟨hB_st_89, mCur_mk (mLex_run (e := (sv16 0 0 11).toInt) hsS9 hsm9.mr (by have h8 := hv16_2; rw [tEnd_no (p := (sv16 0 0 11).toInt) (Or.inr (mrB_f (by omega)))] at h8; exact h8.symm) ((by first | exact kdI_1a hv16_4 (by omega) (by omega) | exact kdI_1b hv16_4 (by omega) (by omega) (by omega) (by omega)))) (by rw [show (st_89 0 0 12).toInt = 4 from ((congrArg Int32.toInt (((congrFun (congrFun (congrFun est_89 0) 0) 12).trans (gU_same _ _ _ _ _)))).trans (by decide))]; decide) (by rw [show (st_89 0 0 11).toInt = (sv16 0 0 11).toInt from (congrArg Int32.toInt ((((congrFun (congrFun (congrFun est_89 0) 0) 11).trans (gU_other (by decide))).trans (n_st_87.2 0 0 11 (show (11 : Nat) ∉ _ from by decide)))))]; all_goals omega) (fun h9 => absurd h9 (by decide)) (fun h9 => absurd h9 (by decide)) (fun h9 => absurd h9 (by decide))⟩ (by exact Nat.le_refl _) (by exact Nat.le_refl _) dX10_next0_288
                        · have ic_88 := gz_ne (rfl : y16_0.toInt = y16_0.toInt) (by decide : (0 : Int32).toInt = 0) c_88
                          refine lv_iload_n hx hb dX10_next0_217 rfl (lv_at hl 2 rfl) ?_
                          refine lv_if_ne (tgt := 231) hx hb dX10_next0_218 (by decide) (fun c_90 => ?_) (fun c_90 => ?_)
                          · have ic_90 := gz_ne (rfl : y13_0.toInt = y13_0.toInt) (by decide : (0 : Int32).toInt = 0) c_90
                            refine lv_iload_n hx hb dX10_next0_231 rfl (lv_at hl 2 rfl) ?_
                            refine lv_if_eq (tgt := 239) hx hb dX10_next0_232 (by decide) (fun c_91 => ?_) (fun c_91 => ?_)
                            · have ic_91 := gz_eq (rfl : y13_0.toInt = y13_0.toInt) (by decide : (0 : Int32).toInt = 0) c_91
                              refine lv_iconst (v := 2) hx hb dX10_next0_239 (by decide) ?_
                              refine gs_put (C := RX10) (T := TX10) (N := 59) (ty := .int) (val := .int 2) hx hb hts inX10 tyX10 tyX10_ok nmX10 hown hK hI hm hM hS 0 0 12 (by decide) rfl rfl (by decide) (hts _ gm_913) (fun _ h9 => h9) rfl (2 : Int32) rfl (by decide +kernel) rfl rfl (Nat.le_of_ble_eq_true rfl) dX10_next0_240 (fun st_92 H locs est_92 hM hS => ?_)
                              have hB_st_92 : gBN bM kM [11, 12, 13, 14, 17, 59] st st_92 := by rw [est_92]; exact hB_st_87.up (show (12 : Nat) ∈ _ from by decide) (gi_lo _) (gi_hi _)
                              refine lv_goto (tgt := 288) hx hb dX10_next0_243 (by decide) ?_
                              rw [← hQe]
                              exact gs_vret hx hb hr hlocks hM hS ⟨hB_st_92, mCur_mk (mLex_run (e := (sv16 0 0 11).toInt) hsS9 hsm9.mr (by have h8 := hv16_2; rw [tEnd_no (p := (sv16 0 0 11).toInt) (Or.inr (mrB_f (by omega)))] at h8; exact h8.symm) (kdI_3 hv16_4 (by omega) (by omega) (by omega) (hsm9.pos hv16_0 (by rw [show (st_15 0 0 11).toInt + y16_1.toInt = (sv16 0 0 11).toInt by omega]; omega)) (by omega))) (by rw [show (st_92 0 0 12).toInt = 2 from ((congrArg Int32.toInt (((congrFun (congrFun (congrFun est_92 0) 0) 12).trans (gU_same _ _ _ _ _)))).trans (by decide))]; decide) (by rw [show (st_92 0 0 11).toInt = (sv16 0 0 11).toInt from (congrArg Int32.toInt ((((congrFun (congrFun (congrFun est_92 0) 0) 11).trans (gU_other (by decide))).trans (n_st_87.2 0 0 11 (show (11 : Nat) ∉ _ from by decide)))))]; all_goals omega) (fun _ => by rw [show ((sv16 0 0 11).toInt - (st_15 0 0 11).toInt).toNat = y16_1.toInt.toNat from (by rw [show (sv16 0 0 11).toInt - (st_15 0 0 11).toInt = y16_1.toInt by omega])]; rw [show (st_92 0 0 14).toInt = (sv16 0 0 14).toInt from (congrArg Int32.toInt ((((congrFun (congrFun (congrFun est_92 0) 0) 14).trans (gU_other (by decide))).trans (n_st_87.2 0 0 14 (show (14 : Nat) ∉ _ from by decide)))))]; exact hv16_5 (by omega)) (fun h9 => absurd h9 (by decide)) (fun h9 => absurd h9 (by decide))⟩ (by exact Nat.le_refl _) (by exact Nat.le_refl _) dX10_next0_288
                            · have ic_91 := gz_ne (rfl : y13_0.toInt = y13_0.toInt) (by decide : (0 : Int32).toInt = 0) c_91
                              refine lv_iconst (v := 1) hx hb dX10_next0_235 (by decide) ?_
                              refine lv_goto (tgt := 240) hx hb dX10_next0_236 (by decide) ?_
                              refine gs_put (C := RX10) (T := TX10) (N := 59) (ty := .int) (val := .int 1) hx hb hts inX10 tyX10 tyX10_ok nmX10 hown hK hI hm hM hS 0 0 12 (by decide) rfl rfl (by decide) (hts _ gm_913) (fun _ h9 => h9) rfl (1 : Int32) rfl (by decide +kernel) rfl rfl (Nat.le_of_ble_eq_true rfl) dX10_next0_240 (fun st_93 H locs est_93 hM hS => ?_)
                              have hB_st_93 : gBN bM kM [11, 12, 13, 14, 17, 59] st st_93 := by rw [est_93]; exact hB_st_87.up (show (12 : Nat) ∈ _ from by decide) (gi_lo _) (gi_hi _)
                              refine lv_goto (tgt := 288) hx hb dX10_next0_243 (by decide) ?_
                              rw [← hQe]
                              exact gs_vret hx hb hr hlocks hM hS ⟨hB_st_93, mCur_mk (mLex_run (e := (sv16 0 0 11).toInt) hsS9 hsm9.mr (by have h8 := hv16_2; rw [tEnd_no (p := (sv16 0 0 11).toInt) (Or.inr (mrB_f (by omega)))] at h8; exact h8.symm) (kdI_2 hv16_4 (by omega) (by omega) (by omega))) (by rw [show (st_93 0 0 12).toInt = 1 from ((congrArg Int32.toInt (((congrFun (congrFun (congrFun est_93 0) 0) 12).trans (gU_same _ _ _ _ _)))).trans (by decide))]; decide) (by rw [show (st_93 0 0 11).toInt = (sv16 0 0 11).toInt from (congrArg Int32.toInt ((((congrFun (congrFun (congrFun est_93 0) 0) 11).trans (gU_other (by decide))).trans (n_st_87.2 0 0 11 (show (11 : Nat) ∉ _ from by decide)))))]; all_goals omega) (fun h9 => absurd h9 (by decide)) (fun h9 => absurd h9 (by decide)) (fun _ => by unfold wdT; rw [show ((sv16 0 0 11).toInt - (st_15 0 0 11).toInt).toNat = y16_1.toInt.toNat from (by rw [show (sv16 0 0 11).toInt - (st_15 0 0 11).toInt = y16_1.toInt by omega]), show (sv16 0 0 11).toInt - (st_15 0 0 11).toInt = y16_1.toInt by omega]; rw [show st_93 0 0 17 = (st_87 0 0 17) from ((congrFun (congrFun (congrFun est_93 0) 0) 17).trans (gU_other (by decide))), show st_93 0 0 59 = (st_87 0 0 59) from ((congrFun (congrFun (congrFun est_93 0) 0) 59).trans (gU_other (by decide)))]; rw [hlw_st_87]; rw [if_neg (by omega)])⟩ (by exact Nat.le_refl _) (by exact Nat.le_refl _) dX10_next0_288
                          · have ic_90 := gz_eqn (rfl : y13_0.toInt = y13_0.toInt) (by decide : (0 : Int32).toInt = 0) c_90
                            refine lv_iload hx hb dX10_next0_221 (lv_at hl 0 rfl) ?_
                            refine lv_iconst (v := 4) hx hb dX10_next0_223 (by decide) ?_
                            refine lv_icmp_le (tgt := 231) hx hb dX10_next0_224 (by decide) (fun c_94 => ?_) (fun c_94 => ?_)
                            · have ic_94 := gz_le (rfl : y16_1.toInt = y16_1.toInt) (by decide : (4 : Int32).toInt = 4) c_94
                              refine lv_iload_n hx hb dX10_next0_231 rfl (lv_at hl 2 rfl) ?_
                              refine lv_if_eq (tgt := 239) hx hb dX10_next0_232 (by decide) (fun c_95 => ?_) (fun c_95 => ?_)
                              · have ic_95 := gz_eq (rfl : y13_0.toInt = y13_0.toInt) (by decide : (0 : Int32).toInt = 0) c_95
                                refine lv_iconst (v := 2) hx hb dX10_next0_239 (by decide) ?_
                                refine gs_put (C := RX10) (T := TX10) (N := 59) (ty := .int) (val := .int 2) hx hb hts inX10 tyX10 tyX10_ok nmX10 hown hK hI hm hM hS 0 0 12 (by decide) rfl rfl (by decide) (hts _ gm_913) (fun _ h9 => h9) rfl (2 : Int32) rfl (by decide +kernel) rfl rfl (Nat.le_of_ble_eq_true rfl) dX10_next0_240 (fun st_96 H locs est_96 hM hS => ?_)
                                have hB_st_96 : gBN bM kM [11, 12, 13, 14, 17, 59] st st_96 := by rw [est_96]; exact hB_st_87.up (show (12 : Nat) ∈ _ from by decide) (gi_lo _) (gi_hi _)
                                refine lv_goto (tgt := 288) hx hb dX10_next0_243 (by decide) ?_
                                rw [← hQe]
                                exact gs_vret hx hb hr hlocks hM hS ⟨hB_st_96, mCur_mk (mLex_run (e := (sv16 0 0 11).toInt) hsS9 hsm9.mr (by have h8 := hv16_2; rw [tEnd_no (p := (sv16 0 0 11).toInt) (Or.inr (mrB_f (by omega)))] at h8; exact h8.symm) (kdI_3 hv16_4 (by omega) (by omega) (by omega) (hsm9.pos hv16_0 (by rw [show (st_15 0 0 11).toInt + y16_1.toInt = (sv16 0 0 11).toInt by omega]; omega)) (by omega))) (by rw [show (st_96 0 0 12).toInt = 2 from ((congrArg Int32.toInt (((congrFun (congrFun (congrFun est_96 0) 0) 12).trans (gU_same _ _ _ _ _)))).trans (by decide))]; decide) (by rw [show (st_96 0 0 11).toInt = (sv16 0 0 11).toInt from (congrArg Int32.toInt ((((congrFun (congrFun (congrFun est_96 0) 0) 11).trans (gU_other (by decide))).trans (n_st_87.2 0 0 11 (show (11 : Nat) ∉ _ from by decide)))))]; all_goals omega) (fun _ => by rw [show ((sv16 0 0 11).toInt - (st_15 0 0 11).toInt).toNat = y16_1.toInt.toNat from (by rw [show (sv16 0 0 11).toInt - (st_15 0 0 11).toInt = y16_1.toInt by omega])]; rw [show (st_96 0 0 14).toInt = (sv16 0 0 14).toInt from (congrArg Int32.toInt ((((congrFun (congrFun (congrFun est_96 0) 0) 14).trans (gU_other (by decide))).trans (n_st_87.2 0 0 14 (show (14 : Nat) ∉ _ from by decide)))))]; exact hv16_5 (by omega)) (fun h9 => absurd h9 (by decide)) (fun h9 => absurd h9 (by decide))⟩ (by exact Nat.le_refl _) (by exact Nat.le_refl _) dX10_next0_288
                              · have ic_95 := gz_ne (rfl : y13_0.toInt = y13_0.toInt) (by decide : (0 : Int32).toInt = 0) c_95
                                refine lv_iconst (v := 1) hx hb dX10_next0_235 (by decide) ?_
                                refine lv_goto (tgt := 240) hx hb dX10_next0_236 (by decide) ?_
                                refine gs_put (C := RX10) (T := TX10) (N := 59) (ty := .int) (val := .int 1) hx hb hts inX10 tyX10 tyX10_ok nmX10 hown hK hI hm hM hS 0 0 12 (by decide) rfl rfl (by decide) (hts _ gm_913) (fun _ h9 => h9) rfl (1 : Int32) rfl (by decide +kernel) rfl rfl (Nat.le_of_ble_eq_true rfl) dX10_next0_240 (fun st_97 H locs est_97 hM hS => ?_)
                                have hB_st_97 : gBN bM kM [11, 12, 13, 14, 17, 59] st st_97 := by rw [est_97]; exact hB_st_87.up (show (12 : Nat) ∈ _ from by decide) (gi_lo _) (gi_hi _)
                                refine lv_goto (tgt := 288) hx hb dX10_next0_243 (by decide) ?_
                                rw [← hQe]
                                exact gs_vret hx hb hr hlocks hM hS ⟨hB_st_97, mCur_mk (mLex_run (e := (sv16 0 0 11).toInt) hsS9 hsm9.mr (by have h8 := hv16_2; rw [tEnd_no (p := (sv16 0 0 11).toInt) (Or.inr (mrB_f (by omega)))] at h8; exact h8.symm) (kdI_2 hv16_4 (by omega) (by omega) (by omega))) (by rw [show (st_97 0 0 12).toInt = 1 from ((congrArg Int32.toInt (((congrFun (congrFun (congrFun est_97 0) 0) 12).trans (gU_same _ _ _ _ _)))).trans (by decide))]; decide) (by rw [show (st_97 0 0 11).toInt = (sv16 0 0 11).toInt from (congrArg Int32.toInt ((((congrFun (congrFun (congrFun est_97 0) 0) 11).trans (gU_other (by decide))).trans (n_st_87.2 0 0 11 (show (11 : Nat) ∉ _ from by decide)))))]; all_goals omega) (fun h9 => absurd h9 (by decide)) (fun h9 => absurd h9 (by decide)) (fun _ => by unfold wdT; rw [show ((sv16 0 0 11).toInt - (st_15 0 0 11).toInt).toNat = y16_1.toInt.toNat from (by rw [show (sv16 0 0 11).toInt - (st_15 0 0 11).toInt = y16_1.toInt by omega]), show (sv16 0 0 11).toInt - (st_15 0 0 11).toInt = y16_1.toInt by omega]; rw [show st_97 0 0 17 = (st_87 0 0 17) from ((congrFun (congrFun (congrFun est_97 0) 0) 17).trans (gU_other (by decide))), show st_97 0 0 59 = (st_87 0 0 59) from ((congrFun (congrFun (congrFun est_97 0) 0) 59).trans (gU_other (by decide)))]; rw [hlw_st_87]; rw [if_neg (by omega)])⟩ (by exact Nat.le_refl _) (by exact Nat.le_refl _) dX10_next0_288
                            · have ic_94 := gz_nle (rfl : y16_1.toInt = y16_1.toInt) (by decide : (4 : Int32).toInt = 4) c_94
                              refine lv_iconst (v := 4) hx hb dX10_next0_227 (by decide) ?_
                              refine lv_goto (tgt := 240) hx hb dX10_next0_228 (by decide) ?_
                              refine gs_put (C := RX10) (T := TX10) (N := 59) (ty := .int) (val := .int 4) hx hb hts inX10 tyX10 tyX10_ok nmX10 hown hK hI hm hM hS 0 0 12 (by decide) rfl rfl (by decide) (hts _ gm_913) (fun _ h9 => h9) rfl (4 : Int32) rfl (by decide +kernel) rfl rfl (Nat.le_of_ble_eq_true rfl) dX10_next0_240 (fun st_98 H locs est_98 hM hS => ?_)
                              have hB_st_98 : gBN bM kM [11, 12, 13, 14, 17, 59] st st_98 := by rw [est_98]; exact hB_st_87.up (show (12 : Nat) ∈ _ from by decide) (gi_lo _) (gi_hi _)
                              refine lv_goto (tgt := 288) hx hb dX10_next0_243 (by decide) ?_
                              rw [← hQe]
                              exact gs_vret hx hb hr hlocks hM hS ⟨hB_st_98, mCur_mk (mLex_run (e := (sv16 0 0 11).toInt) hsS9 hsm9.mr (by have h8 := hv16_2; rw [tEnd_no (p := (sv16 0 0 11).toInt) (Or.inr (mrB_f (by omega)))] at h8; exact h8.symm) ((by first | exact kdI_1a hv16_4 (by omega) (by omega) | exact kdI_1b hv16_4 (by omega) (by omega) (by omega) (by omega)))) (by rw [show (st_98 0 0 12).toInt = 4 from ((congrArg Int32.toInt (((congrFun (congrFun (congrFun est_98 0) 0) 12).trans (gU_same _ _ _ _ _)))).trans (by decide))]; decide) (by rw [show (st_98 0 0 11).toInt = (sv16 0 0 11).toInt from (congrArg Int32.toInt ((((congrFun (congrFun (congrFun est_98 0) 0) 11).trans (gU_other (by decide))).trans (n_st_87.2 0 0 11 (show (11 : Nat) ∉ _ from by decide)))))]; all_goals omega) (fun h9 => absurd h9 (by decide)) (fun h9 => absurd h9 (by decide)) (fun h9 => absurd h9 (by decide))⟩ (by exact Nat.le_refl _) (by exact Nat.le_refl _) dX10_next0_288
              exact lp16 (((st_15 0 0 10).toInt - (st_15 0 0 11).toInt).toNat + 1) st_15 ((1 : Int32) : Int32) ((0 : Int32) : Int32) H _ ls (Nat.lt_succ_self _) hB_st_15 (by have hl0 : (1 : Int32).toInt = 1 := (by decide); have hl1 : (0 : Int32).toInt = 0 := (by decide); omega) (by have h8 : (0 : Int32).toInt = 0 := (by decide); omega) rfl (fun q9 h1 h2 => by omega) (ISp.new hsm9) (fun _ => by rw [show (st_15 0 0 14).toInt = 0 from ((congrArg Int32.toInt (((congrFun (congrFun (congrFun est_15 0) 0) 14).trans (gU_same _ _ _ _ _)))).trans (by decide))]; show (0 : Int) = (0 : Int); rfl) (by rw [show st_15 0 0 17 = (st_14 0 0 17) from ((congrFun (congrFun (congrFun est_15 0) 0) 17).trans (gU_other (by decide))), show st_15 0 0 59 = (st_14 0 0 59) from ((congrFun (congrFun (congrFun est_15 0) 0) 59).trans (gU_other (by decide)))]; rw [hlw_st_14]; first | decide | rfl) hM hS (lv_sub hl [0, 1, 2, 3, 4] rfl)
            refine lv_iload_n hx hb dX10_next0_56 rfl (lv_at hl 0 rfl) ?_
            refine gs_calli (va_runS (As := [.int r_11]) (rest := []) ⟨hx, hb, hml, hown, hts⟩ (m_isSmall l G cy sK sV ad H.size st_10 hB_st_10.1 r_11 r_11.toInt rfl ) ⟨(gz_cb (n := 1) hts gm_1108 gm_12 gm_1110 ⟨by decide +kernel, by decide +kernel, by decide +kernel⟩ ⟨Nat.le_of_ble_eq_true rfl, Nat.le_of_ble_eq_true rfl⟩), hts _ gm_1109⟩ (gs_preS hK hov hE hI hM hm hS hA) rfl rfl hl.1 rfl (lv_room (Nat.le_of_ble_eq_true rfl)) dX10_next0_57 ⟨Nat.le_of_ble_eq_true rfl, Nat.le_of_ble_eq_true rfl⟩) hm hS hA (fun r_99 st_99 H locs hw_99 hM hS => ?_)
            obtain ⟨n_99, hw_99⟩ := hw_99
            have n_99 := gBN.nil n_99
            subst n_99
            rcases hw_99 with ⟨rfl, hw_99_0, hw_99_1⟩ | ⟨rfl, hw_99_0⟩
            · skip
              refine lv_if_ne (tgt := 70) hx hb dX10_next0_60 (by decide) (fun _ => ?_) (fun h9 => absurd h9 (by decide))
              refine lv_iload_n hx hb dX10_next0_70 rfl (lv_at hl 0 rfl) ?_
              refine gs_calli (va_runS (As := [.int r_11]) (rest := []) ⟨hx, hb, hml, hown, hts⟩ (m_isSmall l G cy sK sV ad H.size st_10 hB_st_10.1 r_11 r_11.toInt rfl ) ⟨(gz_cb (n := 1) hts gm_1108 gm_12 gm_1110 ⟨by decide +kernel, by decide +kernel, by decide +kernel⟩ ⟨Nat.le_of_ble_eq_true rfl, Nat.le_of_ble_eq_true rfl⟩), hts _ gm_1109⟩ (gs_preS hK hov hE hI hM hm hS hA) rfl rfl hl.1 rfl (lv_room (Nat.le_of_ble_eq_true rfl)) dX10_next0_71 ⟨Nat.le_of_ble_eq_true rfl, Nat.le_of_ble_eq_true rfl⟩) hm hS hA (fun r_100 st_100 H locs hw_100 hM hS => ?_)
              obtain ⟨n_100, hw_100⟩ := hw_100
              have n_100 := gBN.nil n_100
              subst n_100
              rcases hw_100 with ⟨rfl, hw_100_0, hw_100_1⟩ | ⟨rfl, hw_100_0⟩
              · skip
                refine lv_istore_n (lv' := [(2, .int 1), (1, .int r_11), (0, .ref (ad 0 0))]) hx hb dX10_next0_74 rfl hl (by decide) rfl (fun ls hl => ?_)
                have hz9 : (1 : Int32).toInt = 1 := (by decide)
                exact jn13  ((1 : Int32) : Int32) H _ ls  (by unfold SMp; omega) hM hS (lv_sub hl [0, 1, 2] rfl)
              · skip
                refine lv_istore_n (lv' := [(2, .int 0), (1, .int r_11), (0, .ref (ad 0 0))]) hx hb dX10_next0_74 rfl hl (by decide) rfl (fun ls hl => ?_)
                have hz9 : (0 : Int32).toInt = 0 := (by decide)
                exact jn13  ((0 : Int32) : Int32) H _ ls  (by unfold SMp; omega) hM hS (lv_sub hl [0, 1, 2] rfl)
            · skip
              refine lv_if_ne (tgt := 70) hx hb dX10_next0_60 (by decide) (fun h9 => absurd (by decide) h9) (fun _ => ?_)
              refine lv_iload_n hx hb dX10_next0_63 rfl (lv_at hl 0 rfl) ?_
              refine gs_calli (va_runS (As := [.int r_11]) (rest := []) ⟨hx, hb, hml, hown, hts⟩ (m_isDigit l G cy sK sV ad H.size st_10 hB_st_10.1 r_11 r_11.toInt rfl ) ⟨(gz_cb (n := 1) hts gm_1111 gm_12 gm_1113 ⟨by decide +kernel, by decide +kernel, by decide +kernel⟩ ⟨Nat.le_of_ble_eq_true rfl, Nat.le_of_ble_eq_true rfl⟩), hts _ gm_1112⟩ (gs_preS hK hov hE hI hM hm hS hA) rfl rfl hl.1 rfl (lv_room (Nat.le_of_ble_eq_true rfl)) dX10_next0_64 ⟨Nat.le_of_ble_eq_true rfl, Nat.le_of_ble_eq_true rfl⟩) hm hS hA (fun r_101 st_101 H locs hw_101 hM hS => ?_)
              obtain ⟨n_101, hw_101⟩ := hw_101
              have n_101 := gBN.nil n_101
              subst n_101
              rcases hw_101 with ⟨rfl, hw_101_0, hw_101_1⟩ | ⟨rfl, hw_101_0⟩
              · skip
                refine lv_if_eq (tgt := 246) hx hb dX10_next0_67 (by decide) (fun h9 => absurd h9 (by decide)) (fun _ => ?_)
                refine lv_iload_n hx hb dX10_next0_70 rfl (lv_at hl 0 rfl) ?_
                refine gs_calli (va_runS (As := [.int r_11]) (rest := []) ⟨hx, hb, hml, hown, hts⟩ (m_isSmall l G cy sK sV ad H.size st_10 hB_st_10.1 r_11 r_11.toInt rfl ) ⟨(gz_cb (n := 1) hts gm_1108 gm_12 gm_1110 ⟨by decide +kernel, by decide +kernel, by decide +kernel⟩ ⟨Nat.le_of_ble_eq_true rfl, Nat.le_of_ble_eq_true rfl⟩), hts _ gm_1109⟩ (gs_preS hK hov hE hI hM hm hS hA) rfl rfl hl.1 rfl (lv_room (Nat.le_of_ble_eq_true rfl)) dX10_next0_71 ⟨Nat.le_of_ble_eq_true rfl, Nat.le_of_ble_eq_true rfl⟩) hm hS hA (fun r_102 st_102 H locs hw_102 hM hS => ?_)
                obtain ⟨n_102, hw_102⟩ := hw_102
                have n_102 := gBN.nil n_102
                subst n_102
                rcases hw_102 with ⟨rfl, hw_102_0, hw_102_1⟩ | ⟨rfl, hw_102_0⟩
                · skip
                  refine lv_istore_n (lv' := [(2, .int 1), (1, .int r_11), (0, .ref (ad 0 0))]) hx hb dX10_next0_74 rfl hl (by decide) rfl (fun ls hl => ?_)
                  have hz9 : (1 : Int32).toInt = 1 := (by decide)
                  exact jn13  ((1 : Int32) : Int32) H _ ls  (by unfold SMp; omega) hM hS (lv_sub hl [0, 1, 2] rfl)
                · skip
                  refine lv_istore_n (lv' := [(2, .int 0), (1, .int r_11), (0, .ref (ad 0 0))]) hx hb dX10_next0_74 rfl hl (by decide) rfl (fun ls hl => ?_)
                  have hz9 : (0 : Int32).toInt = 0 := (by decide)
                  exact jn13  ((0 : Int32) : Int32) H _ ls  (by unfold SMp; omega) hM hS (lv_sub hl [0, 1, 2] rfl)
              · skip
                refine lv_if_eq (tgt := 246) hx hb dX10_next0_67 (by decide) (fun _ => ?_) (fun h9 => absurd (by decide) h9)
                refine lv_aload_n hx hb dX10_next0_246 rfl (lv_at hl 1 rfl) ?_
                refine lv_iload_n hx hb dX10_next0_247 rfl (lv_at hl 0 rfl) ?_
                refine lv_bipush (v := 58) hx hb dX10_next0_248 (by decide) ?_
                refine lv_icmp_eq (tgt := 265) hx hb dX10_next0_250 (by decide) (fun c_103 => ?_) (fun c_103 => ?_)
                · have ic_103 := gz_eq (rfl : r_11.toInt = r_11.toInt) (by decide : (58 : Int32).toInt = 58) c_103
                  refine lv_iconst (v := 3) hx hb dX10_next0_265 (by decide) ?_
                  refine lv_goto (tgt := 270) hx hb dX10_next0_266 (by decide) ?_
                  refine gs_put (C := RX10) (T := TX10) (N := 59) (ty := .int) (val := .int 3) hx hb hts inX10 tyX10 tyX10_ok nmX10 hown hK hI hm hM hS 0 0 12 (by decide) rfl rfl (by decide) (hts _ gm_913) (fun _ h9 => h9) rfl (3 : Int32) rfl (by decide +kernel) rfl rfl (Nat.le_of_ble_eq_true rfl) dX10_next0_270 (fun st_104 H locs est_104 hM hS => ?_)
                  have hB_st_104 : gBN bM kM [11, 12, 13, 14, 17, 59] st st_104 := by rw [est_104]; exact hB_st_10.up (show (12 : Nat) ∈ _ from by decide) (gi_lo _) (gi_hi _)
                  refine lv_aload_n hx hb dX10_next0_273 rfl (lv_at hl 1 rfl) ?_
                  refine lv_iload_n hx hb dX10_next0_274 rfl (lv_at hl 0 rfl) ?_
                  refine gs_put (C := RX10) (T := TX10) (N := 59) (ty := .int) (val := .int r_11) hx hb hts inX10 tyX10 tyX10_ok nmX10 hown hK hI hm hM hS 0 0 14 (by decide) rfl rfl (by decide) (hts _ gm_915) (fun _ h9 => h9) rfl (r_11 : Int32) rfl (by decide +kernel) rfl rfl (Nat.le_of_ble_eq_true rfl) dX10_next0_275 (fun st_105 H locs est_105 hM hS => ?_)
                  have hB_st_105 : gBN bM kM [11, 12, 13, 14, 17, 59] st st_105 := by rw [est_105]; exact hB_st_104.up (show (14 : Nat) ∈ _ from by decide) (gi_lo _) (gi_hi _)
                  refine lv_aload_n hx hb dX10_next0_278 rfl (lv_at hl 1 rfl) ?_
                  refine lv_dup hx hb dX10_next0_279 rfl ?_
                  refine gs_get (C := RX10) (T := TX10) (N := 59) hx hb hts inX10 hown hK hM 0 0 11 (by decide) rfl rfl (by decide) (hts _ gm_912) (fun _ h9 => h9) rfl dX10_next0_280 ?_
                  refine lv_topi (fun x_106 ex_106 => ?_)
                  have ex_106 : (sv1 0 0 11) = x_106 := Eq.symm (ex_106.trans (((congrFun (congrFun (congrFun est_105 0) 0) 11).trans (gU_other (by decide))).trans (((congrFun (congrFun (congrFun est_104 0) 0) 11).trans (gU_other (by decide))).trans ((congrFun (congrFun (congrFun est_10 0) 0) 11).trans (gU_other (by decide))))))
                  subst ex_106
                  have bf_107 : (0 : Int) ≤ (sv1 0 0 11).toInt ∧ (sv1 0 0 11).toInt ≤ (800 : Int) := hB_sv1.1 0 0 11
                  refine lv_iconst (v := 1) hx hb dX10_next0_283 (by decide) ?_
                  refine lv_iadd hx hb dX10_next0_284 ?_
                  refine lv_topi (fun x_108 ex_108 => ?_)
                  try have tx_108 : x_108.toInt = (sv1 0 0 11).toInt + 1 := by rw [ex_108]; exact gz_addP (x := (sv1 0 0 11).toInt) (y := 1) rfl (by decide) (by omega) (by omega)
                  refine gs_put (C := RX10) (T := TX10) (N := 59) (ty := .int) (val := .int x_108) hx hb hts inX10 tyX10 tyX10_ok nmX10 hown hK hI hm hM hS 0 0 11 (by decide) rfl rfl (by decide) (hts _ gm_912) (fun _ h9 => h9) rfl (x_108 : Int32) rfl (by decide +kernel) rfl rfl (Nat.le_of_ble_eq_true rfl) dX10_next0_285 (fun st_109 H locs est_109 hM hS => ?_)
                  have hB_st_109 : gBN bM kM [11, 12, 13, 14, 17, 59] st st_109 := by rw [est_109]; exact hB_st_105.up (show (11 : Nat) ∈ _ from by decide) (show (0 : Int) ≤ x_108.toInt from by omega) (show x_108.toInt ≤ (800 : Int) from by omega)
                  rw [← hQe]
                  exact gs_vret hx hb hr hlocks hM hS ⟨hB_st_109, mCur_mk (mLex_sg hs9 (by omega)) (by rw [show (st_109 0 0 12).toInt = 3 from ((congrArg Int32.toInt ((((congrFun (congrFun (congrFun est_109 0) 0) 12).trans (gU_other (by decide))).trans (((congrFun (congrFun (congrFun est_105 0) 0) 12).trans (gU_other (by decide))).trans ((congrFun (congrFun (congrFun est_104 0) 0) 12).trans (gU_same _ _ _ _ _)))))).trans (by decide))]; decide) (by rw [show (st_109 0 0 11).toInt = x_108.toInt from (congrArg Int32.toInt (((congrFun (congrFun (congrFun est_109 0) 0) 11).trans (gU_same _ _ _ _ _))))]; all_goals omega) (fun h9 => absurd h9 (by decide)) (fun _ => by rw [show (st_109 0 0 14).toInt = r_11.toInt from (congrArg Int32.toInt ((((congrFun (congrFun (congrFun est_109 0) 0) 14).trans (gU_other (by decide))).trans ((congrFun (congrFun (congrFun est_105 0) 0) 14).trans (gU_same _ _ _ _ _)))))]; omega) (fun h9 => absurd h9 (by decide))⟩ (by exact Nat.le_refl _) (by exact Nat.le_refl _) dX10_next0_288
                · have ic_103 := gz_ne (rfl : r_11.toInt = r_11.toInt) (by decide : (58 : Int32).toInt = 58) c_103
                  refine lv_iload_n hx hb dX10_next0_253 rfl (lv_at hl 0 rfl) ?_
                  refine lv_bipush (v := 44) hx hb dX10_next0_254 (by decide) ?_
                  refine lv_icmp_eq (tgt := 265) hx hb dX10_next0_256 (by decide) (fun c_110 => ?_) (fun c_110 => ?_)
                  · have ic_110 := gz_eq (rfl : r_11.toInt = r_11.toInt) (by decide : (44 : Int32).toInt = 44) c_110
                    refine lv_iconst (v := 3) hx hb dX10_next0_265 (by decide) ?_
                    refine lv_goto (tgt := 270) hx hb dX10_next0_266 (by decide) ?_
                    refine gs_put (C := RX10) (T := TX10) (N := 59) (ty := .int) (val := .int 3) hx hb hts inX10 tyX10 tyX10_ok nmX10 hown hK hI hm hM hS 0 0 12 (by decide) rfl rfl (by decide) (hts _ gm_913) (fun _ h9 => h9) rfl (3 : Int32) rfl (by decide +kernel) rfl rfl (Nat.le_of_ble_eq_true rfl) dX10_next0_270 (fun st_111 H locs est_111 hM hS => ?_)
                    have hB_st_111 : gBN bM kM [11, 12, 13, 14, 17, 59] st st_111 := by rw [est_111]; exact hB_st_10.up (show (12 : Nat) ∈ _ from by decide) (gi_lo _) (gi_hi _)
                    refine lv_aload_n hx hb dX10_next0_273 rfl (lv_at hl 1 rfl) ?_
                    refine lv_iload_n hx hb dX10_next0_274 rfl (lv_at hl 0 rfl) ?_
                    refine gs_put (C := RX10) (T := TX10) (N := 59) (ty := .int) (val := .int r_11) hx hb hts inX10 tyX10 tyX10_ok nmX10 hown hK hI hm hM hS 0 0 14 (by decide) rfl rfl (by decide) (hts _ gm_915) (fun _ h9 => h9) rfl (r_11 : Int32) rfl (by decide +kernel) rfl rfl (Nat.le_of_ble_eq_true rfl) dX10_next0_275 (fun st_112 H locs est_112 hM hS => ?_)
                    have hB_st_112 : gBN bM kM [11, 12, 13, 14, 17, 59] st st_112 := by rw [est_112]; exact hB_st_111.up (show (14 : Nat) ∈ _ from by decide) (gi_lo _) (gi_hi _)
                    refine lv_aload_n hx hb dX10_next0_278 rfl (lv_at hl 1 rfl) ?_
                    refine lv_dup hx hb dX10_next0_279 rfl ?_
                    refine gs_get (C := RX10) (T := TX10) (N := 59) hx hb hts inX10 hown hK hM 0 0 11 (by decide) rfl rfl (by decide) (hts _ gm_912) (fun _ h9 => h9) rfl dX10_next0_280 ?_
                    refine lv_topi (fun x_113 ex_113 => ?_)
                    have ex_113 : (sv1 0 0 11) = x_113 := Eq.symm (ex_113.trans (((congrFun (congrFun (congrFun est_112 0) 0) 11).trans (gU_other (by decide))).trans (((congrFun (congrFun (congrFun est_111 0) 0) 11).trans (gU_other (by decide))).trans ((congrFun (congrFun (congrFun est_10 0) 0) 11).trans (gU_other (by decide))))))
                    subst ex_113
                    have bf_114 : (0 : Int) ≤ (sv1 0 0 11).toInt ∧ (sv1 0 0 11).toInt ≤ (800 : Int) := hB_sv1.1 0 0 11
                    refine lv_iconst (v := 1) hx hb dX10_next0_283 (by decide) ?_
                    refine lv_iadd hx hb dX10_next0_284 ?_
                    refine lv_topi (fun x_115 ex_115 => ?_)
                    try have tx_115 : x_115.toInt = (sv1 0 0 11).toInt + 1 := by rw [ex_115]; exact gz_addP (x := (sv1 0 0 11).toInt) (y := 1) rfl (by decide) (by omega) (by omega)
                    refine gs_put (C := RX10) (T := TX10) (N := 59) (ty := .int) (val := .int x_115) hx hb hts inX10 tyX10 tyX10_ok nmX10 hown hK hI hm hM hS 0 0 11 (by decide) rfl rfl (by decide) (hts _ gm_912) (fun _ h9 => h9) rfl (x_115 : Int32) rfl (by decide +kernel) rfl rfl (Nat.le_of_ble_eq_true rfl) dX10_next0_285 (fun st_116 H locs est_116 hM hS => ?_)
                    have hB_st_116 : gBN bM kM [11, 12, 13, 14, 17, 59] st st_116 := by rw [est_116]; exact hB_st_112.up (show (11 : Nat) ∈ _ from by decide) (show (0 : Int) ≤ x_115.toInt from by omega) (show x_115.toInt ≤ (800 : Int) from by omega)
                    rw [← hQe]
                    exact gs_vret hx hb hr hlocks hM hS ⟨hB_st_116, mCur_mk (mLex_sg hs9 (by omega)) (by rw [show (st_116 0 0 12).toInt = 3 from ((congrArg Int32.toInt ((((congrFun (congrFun (congrFun est_116 0) 0) 12).trans (gU_other (by decide))).trans (((congrFun (congrFun (congrFun est_112 0) 0) 12).trans (gU_other (by decide))).trans ((congrFun (congrFun (congrFun est_111 0) 0) 12).trans (gU_same _ _ _ _ _)))))).trans (by decide))]; decide) (by rw [show (st_116 0 0 11).toInt = x_115.toInt from (congrArg Int32.toInt (((congrFun (congrFun (congrFun est_116 0) 0) 11).trans (gU_same _ _ _ _ _))))]; all_goals omega) (fun h9 => absurd h9 (by decide)) (fun _ => by rw [show (st_116 0 0 14).toInt = r_11.toInt from (congrArg Int32.toInt ((((congrFun (congrFun (congrFun est_116 0) 0) 14).trans (gU_other (by decide))).trans ((congrFun (congrFun (congrFun est_112 0) 0) 14).trans (gU_same _ _ _ _ _)))))]; omega) (fun h9 => absurd h9 (by decide))⟩ (by exact Nat.le_refl _) (by exact Nat.le_refl _) dX10_next0_288
                  · have ic_110 := gz_ne (rfl : r_11.toInt = r_11.toInt) (by decide : (44 : Int32).toInt = 44) c_110
                    refine lv_iload_n hx hb dX10_next0_259 rfl (lv_at hl 0 rfl) ?_
                    refine lv_bipush (v := 59) hx hb dX10_next0_260 (by decide) ?_
                    refine lv_icmp_ne (tgt := 269) hx hb dX10_next0_262 (by decide) (fun c_117 => ?_) (fun c_117 => ?_)
                    · have ic_117 := gz_ne (rfl : r_11.toInt = r_11.toInt) (by decide : (59 : Int32).toInt = 59) c_117
                      refine lv_iconst (v := 4) hx hb dX10_next0_269 (by decide) ?_
                      refine gs_put (C := RX10) (T := TX10) (N := 59) (ty := .int) (val := .int 4) hx hb hts inX10 tyX10 tyX10_ok nmX10 hown hK hI hm hM hS 0 0 12 (by decide) rfl rfl (by decide) (hts _ gm_913) (fun _ h9 => h9) rfl (4 : Int32) rfl (by decide +kernel) rfl rfl (Nat.le_of_ble_eq_true rfl) dX10_next0_270 (fun st_118 H locs est_118 hM hS => ?_)
                      have hB_st_118 : gBN bM kM [11, 12, 13, 14, 17, 59] st st_118 := by rw [est_118]; exact hB_st_10.up (show (12 : Nat) ∈ _ from by decide) (gi_lo _) (gi_hi _)
                      refine lv_aload_n hx hb dX10_next0_273 rfl (lv_at hl 1 rfl) ?_
                      refine lv_iload_n hx hb dX10_next0_274 rfl (lv_at hl 0 rfl) ?_
                      refine gs_put (C := RX10) (T := TX10) (N := 59) (ty := .int) (val := .int r_11) hx hb hts inX10 tyX10 tyX10_ok nmX10 hown hK hI hm hM hS 0 0 14 (by decide) rfl rfl (by decide) (hts _ gm_915) (fun _ h9 => h9) rfl (r_11 : Int32) rfl (by decide +kernel) rfl rfl (Nat.le_of_ble_eq_true rfl) dX10_next0_275 (fun st_119 H locs est_119 hM hS => ?_)
                      have hB_st_119 : gBN bM kM [11, 12, 13, 14, 17, 59] st st_119 := by rw [est_119]; exact hB_st_118.up (show (14 : Nat) ∈ _ from by decide) (gi_lo _) (gi_hi _)
                      refine lv_aload_n hx hb dX10_next0_278 rfl (lv_at hl 1 rfl) ?_
                      refine lv_dup hx hb dX10_next0_279 rfl ?_
                      refine gs_get (C := RX10) (T := TX10) (N := 59) hx hb hts inX10 hown hK hM 0 0 11 (by decide) rfl rfl (by decide) (hts _ gm_912) (fun _ h9 => h9) rfl dX10_next0_280 ?_
                      refine lv_topi (fun x_120 ex_120 => ?_)
                      have ex_120 : (sv1 0 0 11) = x_120 := Eq.symm (ex_120.trans (((congrFun (congrFun (congrFun est_119 0) 0) 11).trans (gU_other (by decide))).trans (((congrFun (congrFun (congrFun est_118 0) 0) 11).trans (gU_other (by decide))).trans ((congrFun (congrFun (congrFun est_10 0) 0) 11).trans (gU_other (by decide))))))
                      subst ex_120
                      have bf_121 : (0 : Int) ≤ (sv1 0 0 11).toInt ∧ (sv1 0 0 11).toInt ≤ (800 : Int) := hB_sv1.1 0 0 11
                      refine lv_iconst (v := 1) hx hb dX10_next0_283 (by decide) ?_
                      refine lv_iadd hx hb dX10_next0_284 ?_
                      refine lv_topi (fun x_122 ex_122 => ?_)
                      try have tx_122 : x_122.toInt = (sv1 0 0 11).toInt + 1 := by rw [ex_122]; exact gz_addP (x := (sv1 0 0 11).toInt) (y := 1) rfl (by decide) (by omega) (by omega)
                      refine gs_put (C := RX10) (T := TX10) (N := 59) (ty := .int) (val := .int x_122) hx hb hts inX10 tyX10 tyX10_ok nmX10 hown hK hI hm hM hS 0 0 11 (by decide) rfl rfl (by decide) (hts _ gm_912) (fun _ h9 => h9) rfl (x_122 : Int32) rfl (by decide +kernel) rfl rfl (Nat.le_of_ble_eq_true rfl) dX10_next0_285 (fun st_123 H locs est_123 hM hS => ?_)
                      have hB_st_123 : gBN bM kM [11, 12, 13, 14, 17, 59] st st_123 := by rw [est_123]; exact hB_st_119.up (show (11 : Nat) ∈ _ from by decide) (show (0 : Int) ≤ x_122.toInt from by omega) (show x_122.toInt ≤ (800 : Int) from by omega)
                      rw [← hQe]
                      exact gs_vret hx hb hr hlocks hM hS ⟨hB_st_123, mCur_mk (mLex_no hs9 (by omega) (by omega) (by omega)) (by rw [show (st_123 0 0 12).toInt = 4 from ((congrArg Int32.toInt ((((congrFun (congrFun (congrFun est_123 0) 0) 12).trans (gU_other (by decide))).trans (((congrFun (congrFun (congrFun est_119 0) 0) 12).trans (gU_other (by decide))).trans ((congrFun (congrFun (congrFun est_118 0) 0) 12).trans (gU_same _ _ _ _ _)))))).trans (by decide))]; decide) (by rw [show (st_123 0 0 11).toInt = x_122.toInt from (congrArg Int32.toInt (((congrFun (congrFun (congrFun est_123 0) 0) 11).trans (gU_same _ _ _ _ _))))]; all_goals omega) (fun h9 => absurd h9 (by decide)) (fun h9 => absurd h9 (by decide)) (fun h9 => absurd h9 (by decide))⟩ (by exact Nat.le_refl _) (by exact Nat.le_refl _) dX10_next0_288
                    · have ic_117 := gz_eqn (rfl : r_11.toInt = r_11.toInt) (by decide : (59 : Int32).toInt = 59) c_117
                      refine lv_iconst (v := 3) hx hb dX10_next0_265 (by decide) ?_
                      refine lv_goto (tgt := 270) hx hb dX10_next0_266 (by decide) ?_
                      refine gs_put (C := RX10) (T := TX10) (N := 59) (ty := .int) (val := .int 3) hx hb hts inX10 tyX10 tyX10_ok nmX10 hown hK hI hm hM hS 0 0 12 (by decide) rfl rfl (by decide) (hts _ gm_913) (fun _ h9 => h9) rfl (3 : Int32) rfl (by decide +kernel) rfl rfl (Nat.le_of_ble_eq_true rfl) dX10_next0_270 (fun st_124 H locs est_124 hM hS => ?_)
                      have hB_st_124 : gBN bM kM [11, 12, 13, 14, 17, 59] st st_124 := by rw [est_124]; exact hB_st_10.up (show (12 : Nat) ∈ _ from by decide) (gi_lo _) (gi_hi _)
                      refine lv_aload_n hx hb dX10_next0_273 rfl (lv_at hl 1 rfl) ?_
                      refine lv_iload_n hx hb dX10_next0_274 rfl (lv_at hl 0 rfl) ?_
                      refine gs_put (C := RX10) (T := TX10) (N := 59) (ty := .int) (val := .int r_11) hx hb hts inX10 tyX10 tyX10_ok nmX10 hown hK hI hm hM hS 0 0 14 (by decide) rfl rfl (by decide) (hts _ gm_915) (fun _ h9 => h9) rfl (r_11 : Int32) rfl (by decide +kernel) rfl rfl (Nat.le_of_ble_eq_true rfl) dX10_next0_275 (fun st_125 H locs est_125 hM hS => ?_)
                      have hB_st_125 : gBN bM kM [11, 12, 13, 14, 17, 59] st st_125 := by rw [est_125]; exact hB_st_124.up (show (14 : Nat) ∈ _ from by decide) (gi_lo _) (gi_hi _)
                      refine lv_aload_n hx hb dX10_next0_278 rfl (lv_at hl 1 rfl) ?_
                      refine lv_dup hx hb dX10_next0_279 rfl ?_
                      refine gs_get (C := RX10) (T := TX10) (N := 59) hx hb hts inX10 hown hK hM 0 0 11 (by decide) rfl rfl (by decide) (hts _ gm_912) (fun _ h9 => h9) rfl dX10_next0_280 ?_
                      refine lv_topi (fun x_126 ex_126 => ?_)
                      have ex_126 : (sv1 0 0 11) = x_126 := Eq.symm (ex_126.trans (((congrFun (congrFun (congrFun est_125 0) 0) 11).trans (gU_other (by decide))).trans (((congrFun (congrFun (congrFun est_124 0) 0) 11).trans (gU_other (by decide))).trans ((congrFun (congrFun (congrFun est_10 0) 0) 11).trans (gU_other (by decide))))))
                      subst ex_126
                      have bf_127 : (0 : Int) ≤ (sv1 0 0 11).toInt ∧ (sv1 0 0 11).toInt ≤ (800 : Int) := hB_sv1.1 0 0 11
                      refine lv_iconst (v := 1) hx hb dX10_next0_283 (by decide) ?_
                      refine lv_iadd hx hb dX10_next0_284 ?_
                      refine lv_topi (fun x_128 ex_128 => ?_)
                      try have tx_128 : x_128.toInt = (sv1 0 0 11).toInt + 1 := by rw [ex_128]; exact gz_addP (x := (sv1 0 0 11).toInt) (y := 1) rfl (by decide) (by omega) (by omega)
                      refine gs_put (C := RX10) (T := TX10) (N := 59) (ty := .int) (val := .int x_128) hx hb hts inX10 tyX10 tyX10_ok nmX10 hown hK hI hm hM hS 0 0 11 (by decide) rfl rfl (by decide) (hts _ gm_912) (fun _ h9 => h9) rfl (x_128 : Int32) rfl (by decide +kernel) rfl rfl (Nat.le_of_ble_eq_true rfl) dX10_next0_285 (fun st_129 H locs est_129 hM hS => ?_)
                      have hB_st_129 : gBN bM kM [11, 12, 13, 14, 17, 59] st st_129 := by rw [est_129]; exact hB_st_125.up (show (11 : Nat) ∈ _ from by decide) (show (0 : Int) ≤ x_128.toInt from by omega) (show x_128.toInt ≤ (800 : Int) from by omega)
                      rw [← hQe]
                      exact gs_vret hx hb hr hlocks hM hS ⟨hB_st_129, mCur_mk (mLex_sg hs9 (by omega)) (by rw [show (st_129 0 0 12).toInt = 3 from ((congrArg Int32.toInt ((((congrFun (congrFun (congrFun est_129 0) 0) 12).trans (gU_other (by decide))).trans (((congrFun (congrFun (congrFun est_125 0) 0) 12).trans (gU_other (by decide))).trans ((congrFun (congrFun (congrFun est_124 0) 0) 12).trans (gU_same _ _ _ _ _)))))).trans (by decide))]; decide) (by rw [show (st_129 0 0 11).toInt = x_128.toInt from (congrArg Int32.toInt (((congrFun (congrFun (congrFun est_129 0) 0) 11).trans (gU_same _ _ _ _ _))))]; all_goals omega) (fun h9 => absurd h9 (by decide)) (fun _ => by rw [show (st_129 0 0 14).toInt = r_11.toInt from (congrArg Int32.toInt ((((congrFun (congrFun (congrFun est_129 0) 0) 14).trans (gU_other (by decide))).trans ((congrFun (congrFun (congrFun est_125 0) 0) 14).trans (gU_same _ _ _ _ _)))))]; omega) (fun h9 => absurd h9 (by decide))⟩ (by exact Nat.le_refl _) (by exact Nat.le_refl _) dX10_next0_288
          · have ic_12 := gz_nle (by decide : (0 : Int32).toInt = 0) (rfl : r_11.toInt = r_11.toInt) c_12
            refine lv_aload_n hx hb dX10_next0_48 rfl (lv_at hl 1 rfl) ?_
            refine lv_iconst (v := 0) hx hb dX10_next0_49 (by decide) ?_
            refine gs_put (C := RX10) (T := TX10) (N := 59) (ty := .int) (val := .int 0) hx hb hts inX10 tyX10 tyX10_ok nmX10 hown hK hI hm hM hS 0 0 12 (by decide) rfl rfl (by decide) (hts _ gm_913) (fun _ h9 => h9) rfl (0 : Int32) rfl (by decide +kernel) rfl rfl (Nat.le_of_ble_eq_true rfl) dX10_next0_50 (fun st_130 H locs est_130 hM hS => ?_)
            have hB_st_130 : gBN bM kM [11, 12, 13, 14, 17, 59] st st_130 := by rw [est_130]; exact hB_st_10.up (show (12 : Nat) ∈ _ from by decide) (gi_lo _) (gi_hi _)
            refine lv_goto (tgt := 288) hx hb dX10_next0_53 (by decide) ?_
            rw [← hQe]
            exact gs_vret hx hb hr hlocks hM hS ⟨hB_st_130, mCur_mk (mLex_end hs9 (by omega)) (by rw [show (st_130 0 0 12).toInt = 0 from ((congrArg Int32.toInt (((congrFun (congrFun (congrFun est_130 0) 0) 12).trans (gU_same _ _ _ _ _)))).trans (by decide))]; decide) (by rw [show (st_130 0 0 11).toInt = (sv1 0 0 11).toInt from (congrArg Int32.toInt ((((congrFun (congrFun (congrFun est_130 0) 0) 11).trans (gU_other (by decide))).trans ((congrFun (congrFun (congrFun est_10 0) 0) 11).trans (gU_other (by decide))))))]; all_goals omega) (fun h9 => absurd h9 (by decide)) (fun h9 => absurd h9 (by decide)) (fun h9 => absurd h9 (by decide))⟩ (by exact Nat.le_refl _) (by exact Nat.le_refl _) dX10_next0_288
        · have ic_8 := gz_eqn (rfl : r_7.toInt = r_7.toInt) (by decide : (10 : Int32).toInt = 10) c_8
          have hin9 := bA_in (f := F) (n := N) (p := (sv1 0 0 11).toInt) (by omega)
          refine lv_aload_n hx hb dX10_next0_18 rfl (lv_at hl 0 rfl) ?_
          refine lv_dup hx hb dX10_next0_19 rfl ?_
          refine gs_get (C := RX10) (T := TX10) (N := 59) hx hb hts inX10 hown hK hM 0 0 11 (by decide) rfl rfl (by decide) (hts _ gm_912) (fun _ h9 => h9) rfl dX10_next0_20 ?_
          have bf_131 : (0 : Int) ≤ (sv1 0 0 11).toInt ∧ (sv1 0 0 11).toInt ≤ (800 : Int) := hB_sv1.1 0 0 11
          refine lv_iconst (v := 1) hx hb dX10_next0_23 (by decide) ?_
          refine lv_iadd hx hb dX10_next0_24 ?_
          refine lv_topi (fun x_132 ex_132 => ?_)
          try have tx_132 : x_132.toInt = (sv1 0 0 11).toInt + 1 := by rw [ex_132]; exact gz_addP (x := (sv1 0 0 11).toInt) (y := 1) rfl (by decide) (by omega) (by omega)
          refine gs_put (C := RX10) (T := TX10) (N := 59) (ty := .int) (val := .int x_132) hx hb hts inX10 tyX10 tyX10_ok nmX10 hown hK hI hm hM hS 0 0 11 (by decide) rfl rfl (by decide) (hts _ gm_912) (fun _ h9 => h9) rfl (x_132 : Int32) rfl (by decide +kernel) rfl rfl (Nat.le_of_ble_eq_true rfl) dX10_next0_25 (fun st_133 H locs est_133 hM hS => ?_)
          have hB_st_133 : gBN bM kM [11, 12, 13, 14, 17, 59] st st_133 := by rw [est_133]; exact hB_sv1.up (show (11 : Nat) ∈ _ from by decide) (show (0 : Int) ≤ x_132.toInt from by omega) (show x_132.toInt ≤ (800 : Int) from by omega)
          refine lv_goto (tgt := 0) hx hb dX10_next0_28 (by decide) ?_
          exact ih_1 st_133  H _ ls (by have hq0 : (st_133 0 0 10).toInt = ((st 0 0 10) : Int32).toInt := congrArg Int32.toInt ((((congrFun (congrFun (congrFun est_133 0) 0) 10).trans (gU_other (by decide))).trans (hB_sv1.2 0 0 10 (show (10 : Nat) ∉ _ from by decide)))); have hb1 : (0 : Int) ≤ (st_133 0 0 10).toInt ∧ (st_133 0 0 10).toInt ≤ (800 : Int) := hB_st_133.1 0 0 10; have hq2 : (st_133 0 0 11).toInt = (x_132 : Int32).toInt := congrArg Int32.toInt (((congrFun (congrFun (congrFun est_133 0) 0) 11).trans (gU_same _ _ _ _ _))); have hb3 : (0 : Int) ≤ (st_133 0 0 11).toInt ∧ (st_133 0 0 11).toInt ≤ (800 : Int) := hB_st_133.1 0 0 11; omega) hB_st_133 (by have h9 : (st_133 0 0 11).toInt = x_132.toInt := (congrArg Int32.toInt (((congrFun (congrFun (congrFun est_133 0) 0) 11).trans (gU_same _ _ _ _ _)))); rw [show (st_133 0 0 11).toInt = (sv1 0 0 11).toInt + 1 by omega, tEnd_go (by omega) (blB_t (by omega))]; exact hv1_0) hM hS (lv_sub hl [0] rfl)
  exact lp1 (((st 0 0 10).toInt - (st 0 0 11).toInt).toNat + 1) st  H _ ls (Nat.lt_succ_self _) hB_st rfl hM hS (lv_sub hl [0] rfl)
