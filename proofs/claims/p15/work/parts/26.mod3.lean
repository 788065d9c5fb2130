theorem gm_939 : (Jvm.Cond.fieldLink "WellCourtModel" (79 : Nat) "WellCourtModel" "isHerd" "[Z") ∈ gz_T := gz_at 939 (by decide +kernel) rfl
theorem gm_940 : (Jvm.Cond.fieldLink "WellCourtModel" (82 : Nat) "WellCourtModel" "hClan" "[I") ∈ gz_T := gz_at 940 (by decide +kernel) rfl
theorem gm_941 : (Jvm.Cond.fieldLink "WellCourtModel" (85 : Nat) "WellCourtModel" "hDraw" "[I") ∈ gz_T := gz_at 941 (by decide +kernel) rfl
theorem gm_942 : (Jvm.Cond.fieldLink "WellCourtModel" (88 : Nat) "WellCourtModel" "hLast" "[I") ∈ gz_T := gz_at 942 (by decide +kernel) rfl
theorem gm_943 : (Jvm.Cond.fieldLink "WellCourtModel" (91 : Nat) "WellCourtModel" "hWell" "[I") ∈ gz_T := gz_at 943 (by decide +kernel) rfl
theorem gm_944 : (Jvm.Cond.fieldLink "WellCourtModel" (94 : Nat) "WellCourtModel" "hDrank" "[I") ∈ gz_T := gz_at 944 (by decide +kernel) rfl
theorem gm_945 : (Jvm.Cond.fieldLink "WellCourtModel" (97 : Nat) "WellCourtModel" "ways" "[I") ∈ gz_T := gz_at 945 (by decide +kernel) rfl
theorem gm_946 : (Jvm.Cond.fieldLink "WellCourtModel" (100 : Nat) "WellCourtModel" "sLevel" "[I") ∈ gz_T := gz_at 946 (by decide +kernel) rfl
theorem gm_947 : (Jvm.Cond.fieldLink "WellCourtModel" (103 : Nat) "WellCourtModel" "sWell" "[I") ∈ gz_T := gz_at 947 (by decide +kernel) rfl
theorem gm_948 : (Jvm.Cond.fieldLink "WellCourtModel" (106 : Nat) "WellCourtModel" "sThere" "[I") ∈ gz_T := gz_at 948 (by decide +kernel) rfl
theorem gm_949 : (Jvm.Cond.fieldLink "WellCourtModel" (109 : Nat) "WellCourtModel" "sDrank" "[I") ∈ gz_T := gz_at 949 (by decide +kernel) rfl
theorem gm_952 : (Jvm.Cond.fieldLink "WellCourtModel" (118 : Nat) "WellCourtModel" "sMorning" "[I") ∈ gz_T := gz_at 952 (by decide +kernel) rfl
theorem gm_953 : (Jvm.Cond.fieldLink "WellCourtModel" (121 : Nat) "WellCourtModel" "sOwner" "[I") ∈ gz_T := gz_at 953 (by decide +kernel) rfl
theorem gm_954 : (Jvm.Cond.fieldLink "WellCourtModel" (124 : Nat) "WellCourtModel" "planned" "[I") ∈ gz_T := gz_at 954 (by decide +kernel) rfl
theorem gm_955 : (Jvm.Cond.fieldLink "WellCourtModel" (127 : Nat) "WellCourtModel" "plannedHerd" "[Z") ∈ gz_T := gz_at 955 (by decide +kernel) rfl
theorem gm_956 : (Jvm.Cond.fieldLink "WellCourtModel" (130 : Nat) "WellCourtModel" "planFrom" "I") ∈ gz_T := gz_at 956 (by decide +kernel) rfl
theorem gm_957 : (Jvm.Cond.fieldLink "WellCourtModel" (309 : Nat) "WellCourtModel" "planDays" "I") ∈ gz_T := gz_at 957 (by decide +kernel) rfl
theorem gm_958 : (Jvm.Cond.fieldLink "WellCourtModel" (299 : Nat) "WellCourtModel" "looks" "I") ∈ gz_T := gz_at 958 (by decide +kernel) rfl
theorem gm_959 : (Jvm.Cond.fieldLink "WellCourtModel" (302 : Nat) "WellCourtModel" "far" "I") ∈ gz_T := gz_at 959 (by decide +kernel) rfl
theorem dX10_count_0 : decode cX10_count 0 = .ok (.aload_n 0, 1) := by decide +kernel
theorem dX10_count_1 : decode cX10_count 1 = .ok (.iconst 0, 1) := by decide +kernel
theorem dX10_count_2 : decode cX10_count 2 = .ok (.putfield 1, 3) := by decide +kernel
theorem dX10_count_5 : decode cX10_count 5 = .ok (.iconst 0, 1) := by decide +kernel
theorem dX10_count_6 : decode cX10_count 6 = .ok (.istore_n 2, 1) := by decide +kernel
theorem dX10_count_7 : decode cX10_count 7 = .ok (.iload_n 1, 1) := by decide +kernel
theorem dX10_count_8 : decode cX10_count 8 = .ok (.tableswitch 134 0 6 #[44, 49, 82, 87, 119, 124, 129], 44) := by decide +kernel
theorem dX10_count_52 : decode cX10_count 52 = .ok (.aload_n 0, 1) := by decide +kernel
theorem dX10_count_53 : decode cX10_count 53 = .ok (.getfield 213, 3) := by decide +kernel
theorem dX10_count_56 : decode cX10_count 56 = .ok (.ireturn, 1) := by decide +kernel
theorem dX10_count_57 : decode cX10_count 57 = .ok (.iconst 0, 1) := by decide +kernel
theorem dX10_count_58 : decode cX10_count 58 = .ok (.istore_n 3, 1) := by decide +kernel
theorem dX10_count_59 : decode cX10_count 59 = .ok (.iload_n 3, 1) := by decide +kernel
theorem dX10_count_60 : decode cX10_count 60 = .ok (.bipush 6, 2) := by decide +kernel
theorem dX10_count_62 : decode cX10_count 62 = .ok (.if_icmp .ge 26, 3) := by decide +kernel
theorem dX10_count_65 : decode cX10_count 65 = .ok (.iload_n 2, 1) := by decide +kernel
theorem dX10_count_66 : decode cX10_count 66 = .ok (.aload_n 0, 1) := by decide +kernel
theorem dX10_count_67 : decode cX10_count 67 = .ok (.getfield 13, 3) := by decide +kernel
theorem dX10_count_70 : decode cX10_count 70 = .ok (.iload_n 3, 1) := by decide +kernel
theorem dX10_count_71 : decode cX10_count 71 = .ok (.baload, 1) := by decide +kernel
theorem dX10_count_72 : decode cX10_count 72 = .ok (.ifCond .eq 7, 3) := by decide +kernel
theorem dX10_count_75 : decode cX10_count 75 = .ok (.iconst 1, 1) := by decide +kernel
theorem dX10_count_76 : decode cX10_count 76 = .ok (.goto 4, 3) := by decide +kernel
theorem dX10_count_79 : decode cX10_count 79 = .ok (.iconst 0, 1) := by decide +kernel
theorem dX10_count_80 : decode cX10_count 80 = .ok (.iadd, 1) := by decide +kernel
theorem dX10_count_81 : decode cX10_count 81 = .ok (.istore_n 2, 1) := by decide +kernel
theorem dX10_count_82 : decode cX10_count 82 = .ok (.iinc 3 1, 3) := by decide +kernel
theorem dX10_count_85 : decode cX10_count 85 = .ok (.goto (-26), 3) := by decide +kernel
theorem dX10_count_88 : decode cX10_count 88 = .ok (.iload_n 2, 1) := by decide +kernel
theorem dX10_count_89 : decode cX10_count 89 = .ok (.ireturn, 1) := by decide +kernel
theorem dX10_count_90 : decode cX10_count 90 = .ok (.aload_n 0, 1) := by decide +kernel
theorem dX10_count_91 : decode cX10_count 91 = .ok (.getfield 210, 3) := by decide +kernel
theorem dX10_count_94 : decode cX10_count 94 = .ok (.ireturn, 1) := by decide +kernel
theorem dX10_count_95 : decode cX10_count 95 = .ok (.iconst 0, 1) := by decide +kernel
theorem dX10_count_96 : decode cX10_count 96 = .ok (.istore_n 3, 1) := by decide +kernel
theorem dX10_count_97 : decode cX10_count 97 = .ok (.iload_n 3, 1) := by decide +kernel
theorem dX10_count_98 : decode cX10_count 98 = .ok (.iconst 4, 1) := by decide +kernel
theorem dX10_count_99 : decode cX10_count 99 = .ok (.if_icmp .ge 26, 3) := by decide +kernel
theorem dX10_count_102 : decode cX10_count 102 = .ok (.iload_n 2, 1) := by decide +kernel
theorem dX10_count_103 : decode cX10_count 103 = .ok (.aload_n 0, 1) := by decide +kernel
theorem dX10_count_104 : decode cX10_count 104 = .ok (.getfield 79, 3) := by decide +kernel
theorem dX10_count_107 : decode cX10_count 107 = .ok (.iload_n 3, 1) := by decide +kernel
theorem dX10_count_108 : decode cX10_count 108 = .ok (.baload, 1) := by decide +kernel
theorem dX10_count_109 : decode cX10_count 109 = .ok (.ifCond .eq 7, 3) := by decide +kernel
theorem dX10_count_112 : decode cX10_count 112 = .ok (.iconst 1, 1) := by decide +kernel
theorem dX10_count_113 : decode cX10_count 113 = .ok (.goto 4, 3) := by decide +kernel
theorem dX10_count_116 : decode cX10_count 116 = .ok (.iconst 0, 1) := by decide +kernel
theorem dX10_count_117 : decode cX10_count 117 = .ok (.iadd, 1) := by decide +kernel
theorem dX10_count_118 : decode cX10_count 118 = .ok (.istore_n 2, 1) := by decide +kernel
theorem dX10_count_119 : decode cX10_count 119 = .ok (.iinc 3 1, 3) := by decide +kernel
theorem dX10_count_122 : decode cX10_count 122 = .ok (.goto (-25), 3) := by decide +kernel
theorem dX10_count_125 : decode cX10_count 125 = .ok (.iload_n 2, 1) := by decide +kernel
theorem dX10_count_126 : decode cX10_count 126 = .ok (.ireturn, 1) := by decide +kernel
theorem dX10_count_127 : decode cX10_count 127 = .ok (.aload_n 0, 1) := by decide +kernel
theorem dX10_count_128 : decode cX10_count 128 = .ok (.getfield 287, 3) := by decide +kernel
theorem dX10_count_131 : decode cX10_count 131 = .ok (.ireturn, 1) := by decide +kernel
theorem dX10_count_132 : decode cX10_count 132 = .ok (.aload_n 0, 1) := by decide +kernel
theorem dX10_count_133 : decode cX10_count 133 = .ok (.getfield 133, 3) := by decide +kernel
theorem dX10_count_136 : decode cX10_count 136 = .ok (.ireturn, 1) := by decide +kernel
theorem dX10_count_137 : decode cX10_count 137 = .ok (.aload_n 0, 1) := by decide +kernel
theorem dX10_count_138 : decode cX10_count 138 = .ok (.getfield 299, 3) := by decide +kernel
theorem dX10_count_141 : decode cX10_count 141 = .ok (.ireturn, 1) := by decide +kernel
theorem dX10_count_142 : decode cX10_count 142 = .ok (.iconst (-1), 1) := by decide +kernel
theorem dX10_count_143 : decode cX10_count 143 = .ok (.ireturn, 1) := by decide +kernel
theorem dX10_dawn_0 : decode cX10_dawn 0 = .ok (.iconst 0, 1) := by decide +kernel
theorem dX10_dawn_1 : decode cX10_dawn 1 = .ok (.istore_n 3, 1) := by decide +kernel
theorem dX10_dawn_2 : decode cX10_dawn 2 = .ok (.iload_n 3, 1) := by decide +kernel
theorem dX10_dawn_3 : decode cX10_dawn 3 = .ok (.bipush 6, 2) := by decide +kernel
theorem dX10_dawn_5 : decode cX10_dawn 5 = .ok (.if_icmp .ge 150, 3) := by decide +kernel
theorem dX10_dawn_8 : decode cX10_dawn 8 = .ok (.aload_n 0, 1) := by decide +kernel
theorem dX10_dawn_9 : decode cX10_dawn 9 = .ok (.getfield 100, 3) := by decide +kernel
theorem dX10_dawn_12 : decode cX10_dawn 12 = .ok (.bipush 6, 2) := by decide +kernel
theorem dX10_dawn_14 : decode cX10_dawn 14 = .ok (.iload_n 1, 1) := by decide +kernel
theorem dX10_dawn_15 : decode cX10_dawn 15 = .ok (.imul, 1) := by decide +kernel
theorem dX10_dawn_16 : decode cX10_dawn 16 = .ok (.iload_n 3, 1) := by decide +kernel
theorem dX10_dawn_17 : decode cX10_dawn 17 = .ok (.iadd, 1) := by decide +kernel
theorem dX10_dawn_18 : decode cX10_dawn 18 = .ok (.iaload, 1) := by decide +kernel
theorem dX10_dawn_19 : decode cX10_dawn 19 = .ok (.istore 4, 2) := by decide +kernel
theorem dX10_dawn_21 : decode cX10_dawn 21 = .ok (.aload_n 0, 1) := by decide +kernel
theorem dX10_dawn_22 : decode cX10_dawn 22 = .ok (.getfield 13, 3) := by decide +kernel
theorem dX10_dawn_25 : decode cX10_dawn 25 = .ok (.iload_n 3, 1) := by decide +kernel
theorem dX10_dawn_26 : decode cX10_dawn 26 = .ok (.baload, 1) := by decide +kernel
theorem dX10_dawn_27 : decode cX10_dawn 27 = .ok (.ifCond .eq 41, 3) := by decide +kernel
theorem dX10_dawn_30 : decode cX10_dawn 30 = .ok (.iload 4, 2) := by decide +kernel
theorem dX10_dawn_32 : decode cX10_dawn 32 = .ok (.aload_n 0, 1) := by decide +kernel
theorem dX10_dawn_33 : decode cX10_dawn 33 = .ok (.getfield 21, 3) := by decide +kernel
theorem dX10_dawn_36 : decode cX10_dawn 36 = .ok (.iload_n 3, 1) := by decide +kernel
theorem dX10_dawn_37 : decode cX10_dawn 37 = .ok (.iaload, 1) := by decide +kernel
theorem dX10_dawn_38 : decode cX10_dawn 38 = .ok (.iadd, 1) := by decide +kernel
theorem dX10_dawn_39 : decode cX10_dawn 39 = .ok (.aload_n 0, 1) := by decide +kernel
theorem dX10_dawn_40 : decode cX10_dawn 40 = .ok (.getfield 17, 3) := by decide +kernel
theorem dX10_dawn_43 : decode cX10_dawn 43 = .ok (.iload_n 3, 1) := by decide +kernel
theorem dX10_dawn_44 : decode cX10_dawn 44 = .ok (.iaload, 1) := by decide +kernel
theorem dX10_dawn_45 : decode cX10_dawn 45 = .ok (.if_icmp .le 12, 3) := by decide +kernel
theorem dX10_dawn_48 : decode cX10_dawn 48 = .ok (.aload_n 0, 1) := by decide +kernel
theorem dX10_dawn_49 : decode cX10_dawn 49 = .ok (.getfield 17, 3) := by decide +kernel
theorem dX10_dawn_52 : decode cX10_dawn 52 = .ok (.iload_n 3, 1) := by decide +kernel
theorem dX10_dawn_53 : decode cX10_dawn 53 = .ok (.iaload, 1) := by decide +kernel
theorem dX10_dawn_54 : decode cX10_dawn 54 = .ok (.goto 12, 3) := by decide +kernel
theorem dX10_dawn_57 : decode cX10_dawn 57 = .ok (.iload 4, 2) := by decide +kernel
theorem dX10_dawn_59 : decode cX10_dawn 59 = .ok (.aload_n 0, 1) := by decide +kernel
theorem dX10_dawn_60 : decode cX10_dawn 60 = .ok (.getfield 21, 3) := by decide +kernel
theorem dX10_dawn_63 : decode cX10_dawn 63 = .ok (.iload_n 3, 1) := by decide +kernel
theorem dX10_dawn_64 : decode cX10_dawn 64 = .ok (.iaload, 1) := by decide +kernel
theorem dX10_dawn_65 : decode cX10_dawn 65 = .ok (.iadd, 1) := by decide +kernel
theorem dX10_dawn_66 : decode cX10_dawn 66 = .ok (.istore 4, 2) := by decide +kernel
theorem dX10_dawn_68 : decode cX10_dawn 68 = .ok (.aload_n 0, 1) := by decide +kernel
theorem dX10_dawn_69 : decode cX10_dawn 69 = .ok (.getfield 100, 3) := by decide +kernel
theorem dX10_dawn_72 : decode cX10_dawn 72 = .ok (.bipush 6, 2) := by decide +kernel
theorem dX10_dawn_74 : decode cX10_dawn 74 = .ok (.iload_n 1, 1) := by decide +kernel
theorem dX10_dawn_75 : decode cX10_dawn 75 = .ok (.imul, 1) := by decide +kernel
theorem dX10_dawn_76 : decode cX10_dawn 76 = .ok (.iload_n 3, 1) := by decide +kernel
theorem dX10_dawn_77 : decode cX10_dawn 77 = .ok (.iadd, 1) := by decide +kernel
theorem dX10_dawn_78 : decode cX10_dawn 78 = .ok (.iload 4, 2) := by decide +kernel
theorem dX10_dawn_80 : decode cX10_dawn 80 = .ok (.iastore, 1) := by decide +kernel
theorem dX10_dawn_81 : decode cX10_dawn 81 = .ok (.aload_n 0, 1) := by decide +kernel
theorem dX10_dawn_82 : decode cX10_dawn 82 = .ok (.getfield 118, 3) := by decide +kernel
theorem dX10_dawn_85 : decode cX10_dawn 85 = .ok (.bipush 6, 2) := by decide +kernel
theorem dX10_dawn_87 : decode cX10_dawn 87 = .ok (.iload_n 1, 1) := by decide +kernel
theorem dX10_dawn_88 : decode cX10_dawn 88 = .ok (.imul, 1) := by decide +kernel
theorem dX10_dawn_89 : decode cX10_dawn 89 = .ok (.iload_n 3, 1) := by decide +kernel
theorem dX10_dawn_90 : decode cX10_dawn 90 = .ok (.iadd, 1) := by decide +kernel
theorem dX10_dawn_91 : decode cX10_dawn 91 = .ok (.iload 4, 2) := by decide +kernel
theorem dX10_dawn_93 : decode cX10_dawn 93 = .ok (.iastore, 1) := by decide +kernel
theorem dX10_dawn_94 : decode cX10_dawn 94 = .ok (.aload_n 0, 1) := by decide +kernel
theorem dX10_dawn_95 : decode cX10_dawn 95 = .ok (.getfield 13, 3) := by decide +kernel
theorem dX10_dawn_98 : decode cX10_dawn 98 = .ok (.iload_n 3, 1) := by decide +kernel
theorem dX10_dawn_99 : decode cX10_dawn 99 = .ok (.baload, 1) := by decide +kernel
theorem dX10_dawn_100 : decode cX10_dawn 100 = .ok (.ifCond .eq 13, 3) := by decide +kernel
theorem dX10_dawn_103 : decode cX10_dawn 103 = .ok (.aload_n 0, 1) := by decide +kernel
theorem dX10_dawn_104 : decode cX10_dawn 104 = .ok (.iload_n 3, 1) := by decide +kernel
theorem dX10_dawn_105 : decode cX10_dawn 105 = .ok (.iload 4, 2) := by decide +kernel
theorem dX10_dawn_107 : decode cX10_dawn 107 = .ok (.invokevirtual 268, 3) := by decide +kernel
theorem dX10_dawn_110 : decode cX10_dawn 110 = .ok (.goto 4, 3) := by decide +kernel
theorem dX10_dawn_113 : decode cX10_dawn 113 = .ok (.iconst (-1), 1) := by decide +kernel
theorem dX10_dawn_114 : decode cX10_dawn 114 = .ok (.istore 5, 2) := by decide +kernel
theorem dX10_dawn_116 : decode cX10_dawn 116 = .ok (.aload_n 0, 1) := by decide +kernel
theorem dX10_dawn_117 : decode cX10_dawn 117 = .ok (.getfield 121, 3) := by decide +kernel
theorem dX10_dawn_120 : decode cX10_dawn 120 = .ok (.bipush 6, 2) := by decide +kernel
theorem dX10_dawn_122 : decode cX10_dawn 122 = .ok (.iload_n 1, 1) := by decide +kernel
theorem dX10_dawn_123 : decode cX10_dawn 123 = .ok (.imul, 1) := by decide +kernel
theorem dX10_dawn_124 : decode cX10_dawn 124 = .ok (.iload_n 3, 1) := by decide +kernel
theorem dX10_dawn_125 : decode cX10_dawn 125 = .ok (.iadd, 1) := by decide +kernel
theorem dX10_dawn_126 : decode cX10_dawn 126 = .ok (.iload 5, 2) := by decide +kernel
theorem dX10_dawn_128 : decode cX10_dawn 128 = .ok (.ifCond .lt 8, 3) := by decide +kernel
theorem dX10_dawn_131 : decode cX10_dawn 131 = .ok (.iload 5, 2) := by decide +kernel
theorem dX10_dawn_133 : decode cX10_dawn 133 = .ok (.goto 15, 3) := by decide +kernel
theorem dX10_dawn_136 : decode cX10_dawn 136 = .ok (.aload_n 0, 1) := by decide +kernel
theorem dX10_dawn_137 : decode cX10_dawn 137 = .ok (.getfield 30, 3) := by decide +kernel
theorem dX10_dawn_140 : decode cX10_dawn 140 = .ok (.sipush 200, 3) := by decide +kernel
theorem dX10_dawn_143 : decode cX10_dawn 143 = .ok (.iload_n 3, 1) := by decide +kernel
theorem dX10_dawn_144 : decode cX10_dawn 144 = .ok (.imul, 1) := by decide +kernel
theorem dX10_dawn_145 : decode cX10_dawn 145 = .ok (.iload_n 2, 1) := by decide +kernel
theorem dX10_dawn_146 : decode cX10_dawn 146 = .ok (.iadd, 1) := by decide +kernel
theorem dX10_dawn_147 : decode cX10_dawn 147 = .ok (.iaload, 1) := by decide +kernel
theorem dX10_dawn_148 : decode cX10_dawn 148 = .ok (.iastore, 1) := by decide +kernel
theorem dX10_dawn_149 : decode cX10_dawn 149 = .ok (.iinc 3 1, 3) := by decide +kernel
theorem dX10_dawn_152 : decode cX10_dawn 152 = .ok (.goto (-150), 3) := by decide +kernel
theorem dX10_dawn_155 : decode cX10_dawn 155 = .ok (.return_, 1) := by decide +kernel
theorem dX10_drop_0 : decode cX10_drop 0 = .ok (.aload_n 0, 1) := by decide +kernel
theorem dX10_drop_1 : decode cX10_drop 1 = .ok (.iconst 0, 1) := by decide +kernel
theorem dX10_drop_2 : decode cX10_drop 2 = .ok (.putfield 1, 3) := by decide +kernel
theorem dX10_drop_5 : decode cX10_drop 5 = .ok (.iload_n 1, 1) := by decide +kernel
theorem dX10_drop_6 : decode cX10_drop 6 = .ok (.ifCond .lt 17, 3) := by decide +kernel
theorem dX10_drop_9 : decode cX10_drop 9 = .ok (.iload_n 1, 1) := by decide +kernel
theorem dX10_drop_10 : decode cX10_drop 10 = .ok (.iconst 4, 1) := by decide +kernel
theorem dX10_drop_11 : decode cX10_drop 11 = .ok (.if_icmp .ge 12, 3) := by decide +kernel
theorem dX10_drop_14 : decode cX10_drop 14 = .ok (.aload_n 0, 1) := by decide +kernel
theorem dX10_drop_15 : decode cX10_drop 15 = .ok (.getfield 79, 3) := by decide +kernel
theorem dX10_drop_18 : decode cX10_drop 18 = .ok (.iload_n 1, 1) := by decide +kernel
theorem dX10_drop_19 : decode cX10_drop 19 = .ok (.baload, 1) := by decide +kernel
theorem dX10_drop_20 : decode cX10_drop 20 = .ok (.ifCond .ne 5, 3) := by decide +kernel
theorem dX10_drop_23 : decode cX10_drop 23 = .ok (.iconst 0, 1) := by decide +kernel
theorem dX10_drop_24 : decode cX10_drop 24 = .ok (.ireturn, 1) := by decide +kernel
theorem dX10_drop_25 : decode cX10_drop 25 = .ok (.aload_n 0, 1) := by decide +kernel
theorem dX10_drop_26 : decode cX10_drop 26 = .ok (.getfield 79, 3) := by decide +kernel
theorem dX10_drop_29 : decode cX10_drop 29 = .ok (.iload_n 1, 1) := by decide +kernel
theorem dX10_drop_30 : decode cX10_drop 30 = .ok (.iconst 0, 1) := by decide +kernel
theorem dX10_drop_31 : decode cX10_drop 31 = .ok (.bastore, 1) := by decide +kernel
theorem dX10_drop_32 : decode cX10_drop 32 = .ok (.iconst 1, 1) := by decide +kernel
theorem dX10_drop_33 : decode cX10_drop 33 = .ok (.ireturn, 1) := by decide +kernel
theorem dX10_far_0 : decode cX10_far 0 = .ok (.aload_n 0, 1) := by decide +kernel
theorem dX10_far_1 : decode cX10_far 1 = .ok (.iconst 0, 1) := by decide +kernel
theorem dX10_far_2 : decode cX10_far 2 = .ok (.putfield 1, 3) := by decide +kernel
theorem dX10_far_5 : decode cX10_far 5 = .ok (.aload_n 0, 1) := by decide +kernel
theorem dX10_far_6 : decode cX10_far 6 = .ok (.getfield 302, 3) := by decide +kernel
theorem dX10_far_9 : decode cX10_far 9 = .ok (.ireturn, 1) := by decide +kernel
theorem dX10_goes_0 : decode cX10_goes 0 = .ok (.iload_n 1, 1) := by decide +kernel
theorem dX10_goes_1 : decode cX10_goes 1 = .ok (.iconst 1, 1) := by decide +kernel
theorem dX10_goes_2 : decode cX10_goes 2 = .ok (.iadd, 1) := by decide +kernel
theorem dX10_goes_3 : decode cX10_goes 3 = .ok (.istore 5, 2) := by decide +kernel
theorem dX10_goes_5 : decode cX10_goes 5 = .ok (.iconst 0, 1) := by decide +kernel
theorem dX10_goes_6 : decode cX10_goes 6 = .ok (.istore 6, 2) := by decide +kernel
theorem dX10_goes_8 : decode cX10_goes 8 = .ok (.iload 6, 2) := by decide +kernel
theorem dX10_goes_10 : decode cX10_goes 10 = .ok (.bipush 6, 2) := by decide +kernel
theorem dX10_goes_12 : decode cX10_goes 12 = .ok (.if_icmp .ge 84, 3) := by decide +kernel
theorem dX10_goes_15 : decode cX10_goes 15 = .ok (.aload_n 0, 1) := by decide +kernel
theorem dX10_goes_16 : decode cX10_goes 16 = .ok (.getfield 100, 3) := by decide +kernel
theorem dX10_goes_19 : decode cX10_goes 19 = .ok (.bipush 6, 2) := by decide +kernel
theorem dX10_goes_21 : decode cX10_goes 21 = .ok (.iload 5, 2) := by decide +kernel
theorem dX10_goes_23 : decode cX10_goes 23 = .ok (.imul, 1) := by decide +kernel
theorem dX10_goes_24 : decode cX10_goes 24 = .ok (.iload 6, 2) := by decide +kernel
theorem dX10_goes_26 : decode cX10_goes 26 = .ok (.iadd, 1) := by decide +kernel
theorem dX10_goes_27 : decode cX10_goes 27 = .ok (.aload_n 0, 1) := by decide +kernel
theorem dX10_goes_28 : decode cX10_goes 28 = .ok (.getfield 100, 3) := by decide +kernel
theorem dX10_goes_31 : decode cX10_goes 31 = .ok (.bipush 6, 2) := by decide +kernel
theorem dX10_goes_33 : decode cX10_goes 33 = .ok (.iload_n 1, 1) := by decide +kernel
theorem dX10_goes_34 : decode cX10_goes 34 = .ok (.imul, 1) := by decide +kernel
theorem dX10_goes_35 : decode cX10_goes 35 = .ok (.iload 6, 2) := by decide +kernel
theorem dX10_goes_37 : decode cX10_goes 37 = .ok (.iadd, 1) := by decide +kernel
theorem dX10_goes_38 : decode cX10_goes 38 = .ok (.iaload, 1) := by decide +kernel
theorem dX10_goes_39 : decode cX10_goes 39 = .ok (.iastore, 1) := by decide +kernel
theorem dX10_goes_40 : decode cX10_goes 40 = .ok (.aload_n 0, 1) := by decide +kernel
theorem dX10_goes_41 : decode cX10_goes 41 = .ok (.getfield 118, 3) := by decide +kernel
theorem dX10_goes_44 : decode cX10_goes 44 = .ok (.bipush 6, 2) := by decide +kernel
theorem dX10_goes_46 : decode cX10_goes 46 = .ok (.iload 5, 2) := by decide +kernel
theorem dX10_goes_48 : decode cX10_goes 48 = .ok (.imul, 1) := by decide +kernel
theorem dX10_goes_49 : decode cX10_goes 49 = .ok (.iload 6, 2) := by decide +kernel
theorem dX10_goes_51 : decode cX10_goes 51 = .ok (.iadd, 1) := by decide +kernel
theorem dX10_goes_52 : decode cX10_goes 52 = .ok (.aload_n 0, 1) := by decide +kernel
theorem dX10_goes_53 : decode cX10_goes 53 = .ok (.getfield 118, 3) := by decide +kernel
theorem dX10_goes_56 : decode cX10_goes 56 = .ok (.bipush 6, 2) := by decide +kernel
theorem dX10_goes_58 : decode cX10_goes 58 = .ok (.iload_n 1, 1) := by decide +kernel
theorem dX10_goes_59 : decode cX10_goes 59 = .ok (.imul, 1) := by decide +kernel
theorem dX10_goes_60 : decode cX10_goes 60 = .ok (.iload 6, 2) := by decide +kernel
theorem dX10_goes_62 : decode cX10_goes 62 = .ok (.iadd, 1) := by decide +kernel
theorem dX10_goes_63 : decode cX10_goes 63 = .ok (.iaload, 1) := by decide +kernel
theorem dX10_goes_64 : decode cX10_goes 64 = .ok (.iastore, 1) := by decide +kernel
theorem dX10_goes_65 : decode cX10_goes 65 = .ok (.aload_n 0, 1) := by decide +kernel
theorem dX10_goes_66 : decode cX10_goes 66 = .ok (.getfield 121, 3) := by decide +kernel
theorem dX10_goes_69 : decode cX10_goes 69 = .ok (.bipush 6, 2) := by decide +kernel
theorem dX10_goes_71 : decode cX10_goes 71 = .ok (.iload 5, 2) := by decide +kernel
theorem dX10_goes_73 : decode cX10_goes 73 = .ok (.imul, 1) := by decide +kernel
theorem dX10_goes_74 : decode cX10_goes 74 = .ok (.iload 6, 2) := by decide +kernel
theorem dX10_goes_76 : decode cX10_goes 76 = .ok (.iadd, 1) := by decide +kernel
theorem dX10_goes_77 : decode cX10_goes 77 = .ok (.aload_n 0, 1) := by decide +kernel
theorem dX10_goes_78 : decode cX10_goes 78 = .ok (.getfield 121, 3) := by decide +kernel
theorem dX10_goes_81 : decode cX10_goes 81 = .ok (.bipush 6, 2) := by decide +kernel
theorem dX10_goes_83 : decode cX10_goes 83 = .ok (.iload_n 1, 1) := by decide +kernel
theorem dX10_goes_84 : decode cX10_goes 84 = .ok (.imul, 1) := by decide +kernel
theorem dX10_goes_85 : decode cX10_goes 85 = .ok (.iload 6, 2) := by decide +kernel
theorem dX10_goes_87 : decode cX10_goes 87 = .ok (.iadd, 1) := by decide +kernel
theorem dX10_goes_88 : decode cX10_goes 88 = .ok (.iaload, 1) := by decide +kernel
theorem dX10_goes_89 : decode cX10_goes 89 = .ok (.iastore, 1) := by decide +kernel
theorem dX10_goes_90 : decode cX10_goes 90 = .ok (.iinc 6 1, 3) := by decide +kernel
theorem dX10_goes_93 : decode cX10_goes 93 = .ok (.goto (-85), 3) := by decide +kernel
theorem dX10_goes_96 : decode cX10_goes 96 = .ok (.iconst 0, 1) := by decide +kernel
theorem dX10_goes_97 : decode cX10_goes 97 = .ok (.istore 6, 2) := by decide +kernel
theorem dX10_goes_99 : decode cX10_goes 99 = .ok (.iload 6, 2) := by decide +kernel
theorem dX10_goes_101 : decode cX10_goes 101 = .ok (.iconst 4, 1) := by decide +kernel
theorem dX10_goes_102 : decode cX10_goes 102 = .ok (.if_icmp .ge 78, 3) := by decide +kernel
theorem dX10_goes_105 : decode cX10_goes 105 = .ok (.aload_n 0, 1) := by decide +kernel
theorem dX10_goes_106 : decode cX10_goes 106 = .ok (.getfield 103, 3) := by decide +kernel
theorem dX10_goes_109 : decode cX10_goes 109 = .ok (.iconst 4, 1) := by decide +kernel
theorem dX10_goes_110 : decode cX10_goes 110 = .ok (.iload 5, 2) := by decide +kernel
theorem dX10_goes_112 : decode cX10_goes 112 = .ok (.imul, 1) := by decide +kernel
theorem dX10_goes_113 : decode cX10_goes 113 = .ok (.iload 6, 2) := by decide +kernel
theorem dX10_goes_115 : decode cX10_goes 115 = .ok (.iadd, 1) := by decide +kernel
theorem dX10_goes_116 : decode cX10_goes 116 = .ok (.aload_n 0, 1) := by decide +kernel
theorem dX10_goes_117 : decode cX10_goes 117 = .ok (.getfield 103, 3) := by decide +kernel
theorem dX10_goes_120 : decode cX10_goes 120 = .ok (.iconst 4, 1) := by decide +kernel
theorem dX10_goes_121 : decode cX10_goes 121 = .ok (.iload_n 1, 1) := by decide +kernel
theorem dX10_goes_122 : decode cX10_goes 122 = .ok (.imul, 1) := by decide +kernel
theorem dX10_goes_123 : decode cX10_goes 123 = .ok (.iload 6, 2) := by decide +kernel
theorem dX10_goes_125 : decode cX10_goes 125 = .ok (.iadd, 1) := by decide +kernel
theorem dX10_goes_126 : decode cX10_goes 126 = .ok (.iaload, 1) := by decide +kernel
theorem dX10_goes_127 : decode cX10_goes 127 = .ok (.iastore, 1) := by decide +kernel
theorem dX10_goes_128 : decode cX10_goes 128 = .ok (.aload_n 0, 1) := by decide +kernel
theorem dX10_goes_129 : decode cX10_goes 129 = .ok (.getfield 106, 3) := by decide +kernel
theorem dX10_goes_132 : decode cX10_goes 132 = .ok (.iconst 4, 1) := by decide +kernel
theorem dX10_goes_133 : decode cX10_goes 133 = .ok (.iload 5, 2) := by decide +kernel
theorem dX10_goes_135 : decode cX10_goes 135 = .ok (.imul, 1) := by decide +kernel
theorem dX10_goes_136 : decode cX10_goes 136 = .ok (.iload 6, 2) := by decide +kernel
theorem dX10_goes_138 : decode cX10_goes 138 = .ok (.iadd, 1) := by decide +kernel
theorem dX10_goes_139 : decode cX10_goes 139 = .ok (.aload_n 0, 1) := by decide +kernel
theorem dX10_goes_140 : decode cX10_goes 140 = .ok (.getfield 106, 3) := by decide +kernel
theorem dX10_goes_143 : decode cX10_goes 143 = .ok (.iconst 4, 1) := by decide +kernel
theorem dX10_goes_144 : decode cX10_goes 144 = .ok (.iload_n 1, 1) := by decide +kernel
theorem dX10_goes_145 : decode cX10_goes 145 = .ok (.imul, 1) := by decide +kernel
theorem dX10_goes_146 : decode cX10_goes 146 = .ok (.iload 6, 2) := by decide +kernel
theorem dX10_goes_148 : decode cX10_goes 148 = .ok (.iadd, 1) := by decide +kernel
theorem dX10_goes_149 : decode cX10_goes 149 = .ok (.iaload, 1) := by decide +kernel
theorem dX10_goes_150 : decode cX10_goes 150 = .ok (.iastore, 1) := by decide +kernel
theorem dX10_goes_151 : decode cX10_goes 151 = .ok (.aload_n 0, 1) := by decide +kernel
theorem dX10_goes_152 : decode cX10_goes 152 = .ok (.getfield 109, 3) := by decide +kernel
theorem dX10_goes_155 : decode cX10_goes 155 = .ok (.iconst 4, 1) := by decide +kernel
theorem dX10_goes_156 : decode cX10_goes 156 = .ok (.iload 5, 2) := by decide +kernel
theorem dX10_goes_158 : decode cX10_goes 158 = .ok (.imul, 1) := by decide +kernel
theorem dX10_goes_159 : decode cX10_goes 159 = .ok (.iload 6, 2) := by decide +kernel
theorem dX10_goes_161 : decode cX10_goes 161 = .ok (.iadd, 1) := by decide +kernel
theorem dX10_goes_162 : decode cX10_goes 162 = .ok (.aload_n 0, 1) := by decide +kernel
theorem dX10_goes_163 : decode cX10_goes 163 = .ok (.getfield 109, 3) := by decide +kernel
theorem dX10_goes_166 : decode cX10_goes 166 = .ok (.iconst 4, 1) := by decide +kernel
theorem dX10_goes_167 : decode cX10_goes 167 = .ok (.iload_n 1, 1) := by decide +kernel
theorem dX10_goes_168 : decode cX10_goes 168 = .ok (.imul, 1) := by decide +kernel
theorem dX10_goes_169 : decode cX10_goes 169 = .ok (.iload 6, 2) := by decide +kernel
theorem dX10_goes_171 : decode cX10_goes 171 = .ok (.iadd, 1) := by decide +kernel
theorem dX10_goes_172 : decode cX10_goes 172 = .ok (.iaload, 1) := by decide +kernel
theorem dX10_goes_173 : decode cX10_goes 173 = .ok (.iastore, 1) := by decide +kernel
theorem dX10_goes_174 : decode cX10_goes 174 = .ok (.iinc 6 1, 3) := by decide +kernel
theorem dX10_goes_177 : decode cX10_goes 177 = .ok (.goto (-78), 3) := by decide +kernel
theorem dX10_goes_180 : decode cX10_goes 180 = .ok (.aload_n 0, 1) := by decide +kernel
theorem dX10_goes_181 : decode cX10_goes 181 = .ok (.getfield 103, 3) := by decide +kernel
theorem dX10_goes_184 : decode cX10_goes 184 = .ok (.iconst 4, 1) := by decide +kernel
theorem dX10_goes_185 : decode cX10_goes 185 = .ok (.iload_n 1, 1) := by decide +kernel
theorem dX10_goes_186 : decode cX10_goes 186 = .ok (.imul, 1) := by decide +kernel
theorem dX10_goes_187 : decode cX10_goes 187 = .ok (.iload_n 2, 1) := by decide +kernel
theorem dX10_goes_188 : decode cX10_goes 188 = .ok (.iadd, 1) := by decide +kernel
theorem dX10_goes_189 : decode cX10_goes 189 = .ok (.iaload, 1) := by decide +kernel
theorem dX10_goes_190 : decode cX10_goes 190 = .ok (.istore 6, 2) := by decide +kernel
theorem dX10_goes_192 : decode cX10_goes 192 = .ok (.iload_n 3, 1) := by decide +kernel
theorem dX10_goes_193 : decode cX10_goes 193 = .ok (.ifCond .ne 41, 3) := by decide +kernel
theorem dX10_goes_196 : decode cX10_goes 196 = .ok (.aload_n 0, 1) := by decide +kernel
theorem dX10_goes_197 : decode cX10_goes 197 = .ok (.getfield 100, 3) := by decide +kernel
theorem dX10_goes_200 : decode cX10_goes 200 = .ok (.bipush 6, 2) := by decide +kernel
theorem dX10_goes_202 : decode cX10_goes 202 = .ok (.iload 5, 2) := by decide +kernel
theorem dX10_goes_204 : decode cX10_goes 204 = .ok (.imul, 1) := by decide +kernel
theorem dX10_goes_205 : decode cX10_goes 205 = .ok (.iload 6, 2) := by decide +kernel
theorem dX10_goes_207 : decode cX10_goes 207 = .ok (.iadd, 1) := by decide +kernel
theorem dX10_goes_208 : decode cX10_goes 208 = .ok (.dup2, 1) := by decide +kernel
theorem dX10_goes_209 : decode cX10_goes 209 = .ok (.iaload, 1) := by decide +kernel
theorem dX10_goes_210 : decode cX10_goes 210 = .ok (.aload_n 0, 1) := by decide +kernel
theorem dX10_goes_211 : decode cX10_goes 211 = .ok (.getfield 85, 3) := by decide +kernel
theorem dX10_goes_214 : decode cX10_goes 214 = .ok (.iload_n 2, 1) := by decide +kernel
theorem dX10_goes_215 : decode cX10_goes 215 = .ok (.iaload, 1) := by decide +kernel
theorem dX10_goes_216 : decode cX10_goes 216 = .ok (.isub, 1) := by decide +kernel
theorem dX10_goes_217 : decode cX10_goes 217 = .ok (.iastore, 1) := by decide +kernel
theorem dX10_goes_218 : decode cX10_goes 218 = .ok (.aload_n 0, 1) := by decide +kernel
theorem dX10_goes_219 : decode cX10_goes 219 = .ok (.getfield 109, 3) := by decide +kernel
theorem dX10_goes_222 : decode cX10_goes 222 = .ok (.iconst 4, 1) := by decide +kernel
theorem dX10_goes_223 : decode cX10_goes 223 = .ok (.iload 5, 2) := by decide +kernel
theorem dX10_goes_225 : decode cX10_goes 225 = .ok (.imul, 1) := by decide +kernel
theorem dX10_goes_226 : decode cX10_goes 226 = .ok (.iload_n 2, 1) := by decide +kernel
theorem dX10_goes_227 : decode cX10_goes 227 = .ok (.iadd, 1) := by decide +kernel
theorem dX10_goes_228 : decode cX10_goes 228 = .ok (.iload 4, 2) := by decide +kernel
theorem dX10_goes_230 : decode cX10_goes 230 = .ok (.iastore, 1) := by decide +kernel
theorem dX10_goes_231 : decode cX10_goes 231 = .ok (.goto 56, 3) := by decide +kernel
theorem dX10_goes_234 : decode cX10_goes 234 = .ok (.iload_n 3, 1) := by decide +kernel
theorem dX10_goes_235 : decode cX10_goes 235 = .ok (.iconst 1, 1) := by decide +kernel
theorem dX10_goes_236 : decode cX10_goes 236 = .ok (.if_icmp .le 51, 3) := by decide +kernel
theorem dX10_goes_239 : decode cX10_goes 239 = .ok (.iload_n 3, 1) := by decide +kernel
theorem dX10_goes_240 : decode cX10_goes 240 = .ok (.bipush 9, 2) := by decide +kernel
theorem dX10_goes_242 : decode cX10_goes 242 = .ok (.if_icmp .ge 45, 3) := by decide +kernel
theorem dX10_goes_245 : decode cX10_goes 245 = .ok (.aload_n 0, 1) := by decide +kernel
theorem dX10_goes_246 : decode cX10_goes 246 = .ok (.getfield 103, 3) := by decide +kernel
theorem dX10_goes_249 : decode cX10_goes 249 = .ok (.iconst 4, 1) := by decide +kernel
theorem dX10_goes_250 : decode cX10_goes 250 = .ok (.iload 5, 2) := by decide +kernel
theorem dX10_goes_252 : decode cX10_goes 252 = .ok (.imul, 1) := by decide +kernel
theorem dX10_goes_253 : decode cX10_goes 253 = .ok (.iload_n 2, 1) := by decide +kernel
theorem dX10_goes_254 : decode cX10_goes 254 = .ok (.iadd, 1) := by decide +kernel
theorem dX10_goes_255 : decode cX10_goes 255 = .ok (.iload_n 3, 1) := by decide +kernel
theorem dX10_goes_256 : decode cX10_goes 256 = .ok (.iconst 2, 1) := by decide +kernel
theorem dX10_goes_257 : decode cX10_goes 257 = .ok (.isub, 1) := by decide +kernel
theorem dX10_goes_258 : decode cX10_goes 258 = .ok (.iastore, 1) := by decide +kernel
theorem dX10_goes_259 : decode cX10_goes 259 = .ok (.aload_n 0, 1) := by decide +kernel
theorem dX10_goes_260 : decode cX10_goes 260 = .ok (.getfield 106, 3) := by decide +kernel
theorem dX10_goes_263 : decode cX10_goes 263 = .ok (.iconst 4, 1) := by decide +kernel
theorem dX10_goes_264 : decode cX10_goes 264 = .ok (.iload 5, 2) := by decide +kernel
theorem dX10_goes_266 : decode cX10_goes 266 = .ok (.imul, 1) := by decide +kernel
theorem dX10_goes_267 : decode cX10_goes 267 = .ok (.iload_n 2, 1) := by decide +kernel
theorem dX10_goes_268 : decode cX10_goes 268 = .ok (.iadd, 1) := by decide +kernel
theorem dX10_goes_269 : decode cX10_goes 269 = .ok (.iload 4, 2) := by decide +kernel
theorem dX10_goes_271 : decode cX10_goes 271 = .ok (.aload_n 0, 1) := by decide +kernel
theorem dX10_goes_272 : decode cX10_goes 272 = .ok (.getfield 97, 3) := by decide +kernel
theorem dX10_goes_275 : decode cX10_goes 275 = .ok (.bipush 6, 2) := by decide +kernel
theorem dX10_goes_277 : decode cX10_goes 277 = .ok (.iload 6, 2) := by decide +kernel
theorem dX10_goes_279 : decode cX10_goes 279 = .ok (.imul, 1) := by decide +kernel
theorem dX10_goes_280 : decode cX10_goes 280 = .ok (.iload_n 3, 1) := by decide +kernel
theorem dX10_goes_281 : decode cX10_goes 281 = .ok (.iadd, 1) := by decide +kernel
theorem dX10_goes_282 : decode cX10_goes 282 = .ok (.iconst 2, 1) := by decide +kernel
theorem dX10_goes_283 : decode cX10_goes 283 = .ok (.isub, 1) := by decide +kernel
theorem dX10_goes_284 : decode cX10_goes 284 = .ok (.iaload, 1) := by decide +kernel
theorem dX10_goes_285 : decode cX10_goes 285 = .ok (.iadd, 1) := by decide +kernel
theorem dX10_goes_286 : decode cX10_goes 286 = .ok (.iastore, 1) := by decide +kernel
theorem dX10_goes_287 : decode cX10_goes 287 = .ok (.return_, 1) := by decide +kernel
theorem dX10_herd_0 : decode cX10_herd 0 = .ok (.aload_n 0, 1) := by decide +kernel
theorem dX10_herd_1 : decode cX10_herd 1 = .ok (.iconst 0, 1) := by decide +kernel
theorem dX10_herd_2 : decode cX10_herd 2 = .ok (.putfield 1, 3) := by decide +kernel
theorem dX10_herd_5 : decode cX10_herd 5 = .ok (.iload_n 1, 1) := by decide +kernel
theorem dX10_herd_6 : decode cX10_herd 6 = .ok (.ifCond .lt 48, 3) := by decide +kernel
theorem dX10_herd_9 : decode cX10_herd 9 = .ok (.iload_n 1, 1) := by decide +kernel
theorem dX10_herd_10 : decode cX10_herd 10 = .ok (.iconst 4, 1) := by decide +kernel
theorem dX10_herd_11 : decode cX10_herd 11 = .ok (.if_icmp .ge 43, 3) := by decide +kernel
theorem dX10_herd_14 : decode cX10_herd 14 = .ok (.iload_n 2, 1) := by decide +kernel
theorem dX10_herd_15 : decode cX10_herd 15 = .ok (.invokestatic 278, 3) := by decide +kernel
theorem dX10_herd_18 : decode cX10_herd 18 = .ok (.ifCond .eq 36, 3) := by decide +kernel
theorem dX10_herd_21 : decode cX10_herd 21 = .ok (.iload_n 3, 1) := by decide +kernel
theorem dX10_herd_22 : decode cX10_herd 22 = .ok (.iconst 1, 1) := by decide +kernel
theorem dX10_herd_23 : decode cX10_herd 23 = .ok (.if_icmp .lt 31, 3) := by decide +kernel
theorem dX10_herd_26 : decode cX10_herd 26 = .ok (.iload_n 3, 1) := by decide +kernel
theorem dX10_herd_27 : decode cX10_herd 27 = .ok (.bipush 100, 2) := by decide +kernel
theorem dX10_herd_29 : decode cX10_herd 29 = .ok (.if_icmp .gt 25, 3) := by decide +kernel
theorem dX10_herd_32 : decode cX10_herd 32 = .ok (.iload 4, 2) := by decide +kernel
theorem dX10_herd_34 : decode cX10_herd 34 = .ok (.iconst 1, 1) := by decide +kernel
theorem dX10_herd_35 : decode cX10_herd 35 = .ok (.if_icmp .lt 19, 3) := by decide +kernel
theorem dX10_herd_38 : decode cX10_herd 38 = .ok (.iload 4, 2) := by decide +kernel
theorem dX10_herd_40 : decode cX10_herd 40 = .ok (.bipush 9, 2) := by decide +kernel
theorem dX10_herd_42 : decode cX10_herd 42 = .ok (.if_icmp .gt 12, 3) := by decide +kernel
theorem dX10_herd_45 : decode cX10_herd 45 = .ok (.aload_n 0, 1) := by decide +kernel
theorem dX10_herd_46 : decode cX10_herd 46 = .ok (.iload 5, 2) := by decide +kernel
theorem dX10_herd_48 : decode cX10_herd 48 = .ok (.invokevirtual 271, 3) := by decide +kernel
theorem dX10_herd_51 : decode cX10_herd 51 = .ok (.ifCond .ne 5, 3) := by decide +kernel
theorem dX10_herd_54 : decode cX10_herd 54 = .ok (.iconst 0, 1) := by decide +kernel
theorem dX10_herd_55 : decode cX10_herd 55 = .ok (.ireturn, 1) := by decide +kernel
theorem dX10_herd_56 : decode cX10_herd 56 = .ok (.aload_n 0, 1) := by decide +kernel
theorem dX10_herd_57 : decode cX10_herd 57 = .ok (.getfield 79, 3) := by decide +kernel
theorem dX10_herd_60 : decode cX10_herd 60 = .ok (.iload_n 1, 1) := by decide +kernel
theorem dX10_herd_61 : decode cX10_herd 61 = .ok (.iconst 1, 1) := by decide +kernel
theorem dX10_herd_62 : decode cX10_herd 62 = .ok (.bastore, 1) := by decide +kernel
theorem dX10_herd_63 : decode cX10_herd 63 = .ok (.aload_n 0, 1) := by decide +kernel
theorem dX10_herd_64 : decode cX10_herd 64 = .ok (.getfield 82, 3) := by decide +kernel
theorem dX10_herd_67 : decode cX10_herd 67 = .ok (.iload_n 1, 1) := by decide +kernel
theorem dX10_herd_68 : decode cX10_herd 68 = .ok (.iload_n 2, 1) := by decide +kernel
theorem dX10_herd_69 : decode cX10_herd 69 = .ok (.iastore, 1) := by decide +kernel
theorem dX10_herd_70 : decode cX10_herd 70 = .ok (.aload_n 0, 1) := by decide +kernel
theorem dX10_herd_71 : decode cX10_herd 71 = .ok (.getfield 85, 3) := by decide +kernel
theorem dX10_herd_74 : decode cX10_herd 74 = .ok (.iload_n 1, 1) := by decide +kernel
theorem dX10_herd_75 : decode cX10_herd 75 = .ok (.iload_n 3, 1) := by decide +kernel
theorem dX10_herd_76 : decode cX10_herd 76 = .ok (.iastore, 1) := by decide +kernel
theorem dX10_herd_77 : decode cX10_herd 77 = .ok (.aload_n 0, 1) := by decide +kernel
theorem dX10_herd_78 : decode cX10_herd 78 = .ok (.getfield 88, 3) := by decide +kernel
theorem dX10_herd_81 : decode cX10_herd 81 = .ok (.iload_n 1, 1) := by decide +kernel
theorem dX10_herd_82 : decode cX10_herd 82 = .ok (.iload 4, 2) := by decide +kernel
theorem dX10_herd_84 : decode cX10_herd 84 = .ok (.iastore, 1) := by decide +kernel
theorem dX10_herd_85 : decode cX10_herd 85 = .ok (.aload_n 0, 1) := by decide +kernel
theorem dX10_herd_86 : decode cX10_herd 86 = .ok (.getfield 91, 3) := by decide +kernel
theorem dX10_herd_89 : decode cX10_herd 89 = .ok (.iload_n 1, 1) := by decide +kernel
theorem dX10_herd_90 : decode cX10_herd 90 = .ok (.iload 5, 2) := by decide +kernel
theorem dX10_herd_92 : decode cX10_herd 92 = .ok (.iastore, 1) := by decide +kernel
theorem dX10_herd_93 : decode cX10_herd 93 = .ok (.aload_n 0, 1) := by decide +kernel
theorem dX10_herd_94 : decode cX10_herd 94 = .ok (.getfield 94, 3) := by decide +kernel
theorem dX10_herd_97 : decode cX10_herd 97 = .ok (.iload_n 1, 1) := by decide +kernel
theorem dX10_herd_98 : decode cX10_herd 98 = .ok (.aload_n 0, 1) := by decide +kernel
theorem dX10_herd_99 : decode cX10_herd 99 = .ok (.getfield 213, 3) := by decide +kernel
theorem dX10_herd_102 : decode cX10_herd 102 = .ok (.iastore, 1) := by decide +kernel
theorem dX10_herd_103 : decode cX10_herd 103 = .ok (.iconst 1, 1) := by decide +kernel
theorem dX10_herd_104 : decode cX10_herd 104 = .ok (.ireturn, 1) := by decide +kernel
theorem dX10_isGood_0 : decode cX10_isGood 0 = .ok (.iconst 0, 1) := by decide +kernel
theorem dX10_isGood_1 : decode cX10_isGood 1 = .ok (.istore_n 3, 1) := by decide +kernel
theorem dX10_isGood_2 : decode cX10_isGood 2 = .ok (.iload_n 3, 1) := by decide +kernel
theorem dX10_isGood_3 : decode cX10_isGood 3 = .ok (.iconst 4, 1) := by decide +kernel
theorem dX10_isGood_4 : decode cX10_isGood 4 = .ok (.if_icmp .ge 41, 3) := by decide +kernel
theorem dX10_isGood_7 : decode cX10_isGood 7 = .ok (.aload_n 0, 1) := by decide +kernel
theorem dX10_isGood_8 : decode cX10_isGood 8 = .ok (.getfield 79, 3) := by decide +kernel
theorem dX10_isGood_11 : decode cX10_isGood 11 = .ok (.iload_n 3, 1) := by decide +kernel
theorem dX10_isGood_12 : decode cX10_isGood 12 = .ok (.baload, 1) := by decide +kernel
theorem dX10_isGood_13 : decode cX10_isGood 13 = .ok (.ifCond .eq 26, 3) := by decide +kernel
theorem dX10_isGood_16 : decode cX10_isGood 16 = .ok (.iload_n 2, 1) := by decide +kernel
theorem dX10_isGood_17 : decode cX10_isGood 17 = .ok (.aload_n 0, 1) := by decide +kernel
theorem dX10_isGood_18 : decode cX10_isGood 18 = .ok (.getfield 109, 3) := by decide +kernel
theorem dX10_isGood_21 : decode cX10_isGood 21 = .ok (.iconst 4, 1) := by decide +kernel
theorem dX10_isGood_22 : decode cX10_isGood 22 = .ok (.iload_n 1, 1) := by decide +kernel
theorem dX10_isGood_23 : decode cX10_isGood 23 = .ok (.imul, 1) := by decide +kernel
theorem dX10_isGood_24 : decode cX10_isGood 24 = .ok (.iload_n 3, 1) := by decide +kernel
theorem dX10_isGood_25 : decode cX10_isGood 25 = .ok (.iadd, 1) := by decide +kernel
theorem dX10_isGood_26 : decode cX10_isGood 26 = .ok (.iaload, 1) := by decide +kernel
theorem dX10_isGood_27 : decode cX10_isGood 27 = .ok (.isub, 1) := by decide +kernel
theorem dX10_isGood_28 : decode cX10_isGood 28 = .ok (.aload_n 0, 1) := by decide +kernel
theorem dX10_isGood_29 : decode cX10_isGood 29 = .ok (.getfield 88, 3) := by decide +kernel
theorem dX10_isGood_32 : decode cX10_isGood 32 = .ok (.iload_n 3, 1) := by decide +kernel
theorem dX10_isGood_33 : decode cX10_isGood 33 = .ok (.iaload, 1) := by decide +kernel
theorem dX10_isGood_34 : decode cX10_isGood 34 = .ok (.if_icmp .le 5, 3) := by decide +kernel
theorem dX10_isGood_37 : decode cX10_isGood 37 = .ok (.iconst 0, 1) := by decide +kernel
theorem dX10_isGood_38 : decode cX10_isGood 38 = .ok (.ireturn, 1) := by decide +kernel
theorem dX10_isGood_39 : decode cX10_isGood 39 = .ok (.iinc 3 1, 3) := by decide +kernel
theorem dX10_isGood_42 : decode cX10_isGood 42 = .ok (.goto (-40), 3) := by decide +kernel
theorem dX10_isGood_45 : decode cX10_isGood 45 = .ok (.iconst 1, 1) := by decide +kernel
theorem dX10_isGood_46 : decode cX10_isGood 46 = .ok (.ireturn, 1) := by decide +kernel
theorem dX10_mayDo_0 : decode cX10_mayDo 0 = .ok (.aload_n 0, 1) := by decide +kernel
theorem dX10_mayDo_1 : decode cX10_mayDo 1 = .ok (.getfield 103, 3) := by decide +kernel
theorem dX10_mayDo_4 : decode cX10_mayDo 4 = .ok (.iconst 4, 1) := by decide +kernel
theorem dX10_mayDo_5 : decode cX10_mayDo 5 = .ok (.iload_n 1, 1) := by decide +kernel
theorem dX10_mayDo_6 : decode cX10_mayDo 6 = .ok (.imul, 1) := by decide +kernel
theorem dX10_mayDo_7 : decode cX10_mayDo 7 = .ok (.iload_n 2, 1) := by decide +kernel
theorem dX10_mayDo_8 : decode cX10_mayDo 8 = .ok (.iadd, 1) := by decide +kernel
theorem dX10_mayDo_9 : decode cX10_mayDo 9 = .ok (.iaload, 1) := by decide +kernel
theorem dX10_mayDo_10 : decode cX10_mayDo 10 = .ok (.istore 4, 2) := by decide +kernel
theorem dX10_mayDo_12 : decode cX10_mayDo 12 = .ok (.iload_n 3, 1) := by decide +kernel
theorem dX10_mayDo_13 : decode cX10_mayDo 13 = .ok (.ifCond .ne 72, 3) := by decide +kernel
theorem dX10_mayDo_16 : decode cX10_mayDo 16 = .ok (.aload_n 0, 1) := by decide +kernel
theorem dX10_mayDo_17 : decode cX10_mayDo 17 = .ok (.getfield 13, 3) := by decide +kernel
theorem dX10_mayDo_20 : decode cX10_mayDo 20 = .ok (.iload 4, 2) := by decide +kernel
theorem dX10_mayDo_22 : decode cX10_mayDo 22 = .ok (.baload, 1) := by decide +kernel
theorem dX10_mayDo_23 : decode cX10_mayDo 23 = .ok (.ifCond .eq 60, 3) := by decide +kernel
theorem dX10_mayDo_26 : decode cX10_mayDo 26 = .ok (.aload_n 0, 1) := by decide +kernel
theorem dX10_mayDo_27 : decode cX10_mayDo 27 = .ok (.getfield 100, 3) := by decide +kernel
theorem dX10_mayDo_30 : decode cX10_mayDo 30 = .ok (.bipush 6, 2) := by decide +kernel
theorem dX10_mayDo_32 : decode cX10_mayDo 32 = .ok (.iload_n 1, 1) := by decide +kernel
theorem dX10_mayDo_33 : decode cX10_mayDo 33 = .ok (.imul, 1) := by decide +kernel
theorem dX10_mayDo_34 : decode cX10_mayDo 34 = .ok (.iload 4, 2) := by decide +kernel
theorem dX10_mayDo_36 : decode cX10_mayDo 36 = .ok (.iadd, 1) := by decide +kernel
theorem dX10_mayDo_37 : decode cX10_mayDo 37 = .ok (.iaload, 1) := by decide +kernel
theorem dX10_mayDo_38 : decode cX10_mayDo 38 = .ok (.aload_n 0, 1) := by decide +kernel
theorem dX10_mayDo_39 : decode cX10_mayDo 39 = .ok (.getfield 85, 3) := by decide +kernel
theorem dX10_mayDo_42 : decode cX10_mayDo 42 = .ok (.iload_n 2, 1) := by decide +kernel
theorem dX10_mayDo_43 : decode cX10_mayDo 43 = .ok (.iaload, 1) := by decide +kernel
theorem dX10_mayDo_44 : decode cX10_mayDo 44 = .ok (.if_icmp .lt 39, 3) := by decide +kernel
theorem dX10_mayDo_47 : decode cX10_mayDo 47 = .ok (.aload_n 0, 1) := by decide +kernel
theorem dX10_mayDo_48 : decode cX10_mayDo 48 = .ok (.iload 4, 2) := by decide +kernel
theorem dX10_mayDo_50 : decode cX10_mayDo 50 = .ok (.aload_n 0, 1) := by decide +kernel
theorem dX10_mayDo_51 : decode cX10_mayDo 51 = .ok (.getfield 82, 3) := by decide +kernel
theorem dX10_mayDo_54 : decode cX10_mayDo 54 = .ok (.iload_n 2, 1) := by decide +kernel
theorem dX10_mayDo_55 : decode cX10_mayDo 55 = .ok (.iaload, 1) := by decide +kernel
theorem dX10_mayDo_56 : decode cX10_mayDo 56 = .ok (.aload_n 0, 1) := by decide +kernel
theorem dX10_mayDo_57 : decode cX10_mayDo 57 = .ok (.getfield 121, 3) := by decide +kernel
theorem dX10_mayDo_60 : decode cX10_mayDo 60 = .ok (.bipush 6, 2) := by decide +kernel
theorem dX10_mayDo_62 : decode cX10_mayDo 62 = .ok (.iload_n 1, 1) := by decide +kernel
theorem dX10_mayDo_63 : decode cX10_mayDo 63 = .ok (.imul, 1) := by decide +kernel
theorem dX10_mayDo_64 : decode cX10_mayDo 64 = .ok (.iconst 1, 1) := by decide +kernel
theorem dX10_mayDo_65 : decode cX10_mayDo 65 = .ok (.aload_n 0, 1) := by decide +kernel
theorem dX10_mayDo_66 : decode cX10_mayDo 66 = .ok (.getfield 118, 3) := by decide +kernel
theorem dX10_mayDo_69 : decode cX10_mayDo 69 = .ok (.bipush 6, 2) := by decide +kernel
theorem dX10_mayDo_71 : decode cX10_mayDo 71 = .ok (.iload_n 1, 1) := by decide +kernel
theorem dX10_mayDo_72 : decode cX10_mayDo 72 = .ok (.imul, 1) := by decide +kernel
theorem dX10_mayDo_73 : decode cX10_mayDo 73 = .ok (.invokevirtual 274, 3) := by decide +kernel
theorem dX10_mayDo_76 : decode cX10_mayDo 76 = .ok (.ifCond .eq 7, 3) := by decide +kernel
theorem dX10_mayDo_79 : decode cX10_mayDo 79 = .ok (.iconst 1, 1) := by decide +kernel
theorem dX10_mayDo_80 : decode cX10_mayDo 80 = .ok (.goto 4, 3) := by decide +kernel
theorem dX10_mayDo_83 : decode cX10_mayDo 83 = .ok (.iconst 0, 1) := by decide +kernel
theorem dX10_mayDo_84 : decode cX10_mayDo 84 = .ok (.ireturn, 1) := by decide +kernel
theorem dX10_mayDo_85 : decode cX10_mayDo 85 = .ok (.iload_n 3, 1) := by decide +kernel
theorem dX10_mayDo_86 : decode cX10_mayDo 86 = .ok (.iconst 1, 1) := by decide +kernel
theorem dX10_mayDo_87 : decode cX10_mayDo 87 = .ok (.if_icmp .eq 20, 3) := by decide +kernel
theorem dX10_mayDo_90 : decode cX10_mayDo 90 = .ok (.aload_n 0, 1) := by decide +kernel
theorem dX10_mayDo_91 : decode cX10_mayDo 91 = .ok (.getfield 97, 3) := by decide +kernel
theorem dX10_mayDo_94 : decode cX10_mayDo 94 = .ok (.bipush 6, 2) := by decide +kernel
theorem dX10_mayDo_96 : decode cX10_mayDo 96 = .ok (.iload 4, 2) := by decide +kernel
theorem dX10_mayDo_98 : decode cX10_mayDo 98 = .ok (.imul, 1) := by decide +kernel
theorem dX10_mayDo_99 : decode cX10_mayDo 99 = .ok (.iload_n 3, 1) := by decide +kernel
theorem dX10_mayDo_100 : decode cX10_mayDo 100 = .ok (.iadd, 1) := by decide +kernel
theorem dX10_mayDo_101 : decode cX10_mayDo 101 = .ok (.iconst 2, 1) := by decide +kernel
theorem dX10_mayDo_102 : decode cX10_mayDo 102 = .ok (.isub, 1) := by decide +kernel
theorem dX10_mayDo_103 : decode cX10_mayDo 103 = .ok (.iaload, 1) := by decide +kernel
theorem dX10_mayDo_104 : decode cX10_mayDo 104 = .ok (.ifCond .le 7, 3) := by decide +kernel
theorem dX10_mayDo_107 : decode cX10_mayDo 107 = .ok (.iconst 1, 1) := by decide +kernel
theorem dX10_mayDo_108 : decode cX10_mayDo 108 = .ok (.goto 4, 3) := by decide +kernel
theorem dX10_mayDo_111 : decode cX10_mayDo 111 = .ok (.iconst 0, 1) := by decide +kernel
theorem dX10_mayDo_112 : decode cX10_mayDo 112 = .ok (.ireturn, 1) := by decide +kernel
theorem dX10_step_0 : decode cX10_step 0 = .ok (.aload_n 0, 1) := by decide +kernel
theorem dX10_step_1 : decode cX10_step 1 = .ok (.iconst 0, 1) := by decide +kernel
theorem dX10_step_2 : decode cX10_step 2 = .ok (.putfield 1, 3) := by decide +kernel
theorem dX10_step_5 : decode cX10_step 5 = .ok (.iload_n 1, 1) := by decide +kernel
theorem dX10_step_6 : decode cX10_step 6 = .ok (.ifCond .lt 45, 3) := by decide +kernel
theorem dX10_step_9 : decode cX10_step 9 = .ok (.iload_n 1, 1) := by decide +kernel
theorem dX10_step_10 : decode cX10_step 10 = .ok (.iconst 4, 1) := by decide +kernel
theorem dX10_step_11 : decode cX10_step 11 = .ok (.if_icmp .ge 40, 3) := by decide +kernel
theorem dX10_step_14 : decode cX10_step 14 = .ok (.aload_n 0, 1) := by decide +kernel
theorem dX10_step_15 : decode cX10_step 15 = .ok (.getfield 130, 3) := by decide +kernel
theorem dX10_step_18 : decode cX10_step 18 = .ok (.ifCond .lt 33, 3) := by decide +kernel
theorem dX10_step_21 : decode cX10_step 21 = .ok (.aload_n 0, 1) := by decide +kernel
theorem dX10_step_22 : decode cX10_step 22 = .ok (.getfield 127, 3) := by decide +kernel
theorem dX10_step_25 : decode cX10_step 25 = .ok (.iload_n 1, 1) := by decide +kernel
theorem dX10_step_26 : decode cX10_step 26 = .ok (.baload, 1) := by decide +kernel
theorem dX10_step_27 : decode cX10_step 27 = .ok (.ifCond .eq 24, 3) := by decide +kernel
theorem dX10_step_30 : decode cX10_step 30 = .ok (.iload_n 2, 1) := by decide +kernel
theorem dX10_step_31 : decode cX10_step 31 = .ok (.aload_n 0, 1) := by decide +kernel
theorem dX10_step_32 : decode cX10_step 32 = .ok (.getfield 130, 3) := by decide +kernel
theorem dX10_step_35 : decode cX10_step 35 = .ok (.if_icmp .lt 16, 3) := by decide +kernel
theorem dX10_step_38 : decode cX10_step 38 = .ok (.iload_n 2, 1) := by decide +kernel
theorem dX10_step_39 : decode cX10_step 39 = .ok (.aload_n 0, 1) := by decide +kernel
theorem dX10_step_40 : decode cX10_step 40 = .ok (.getfield 130, 3) := by decide +kernel
theorem dX10_step_43 : decode cX10_step 43 = .ok (.aload_n 0, 1) := by decide +kernel
theorem dX10_step_44 : decode cX10_step 44 = .ok (.getfield 309, 3) := by decide +kernel
theorem dX10_step_47 : decode cX10_step 47 = .ok (.iadd, 1) := by decide +kernel
theorem dX10_step_48 : decode cX10_step 48 = .ok (.if_icmp .lt 5, 3) := by decide +kernel
theorem dX10_step_51 : decode cX10_step 51 = .ok (.iconst (-1), 1) := by decide +kernel
theorem dX10_step_52 : decode cX10_step 52 = .ok (.ireturn, 1) := by decide +kernel
theorem dX10_step_53 : decode cX10_step 53 = .ok (.aload_n 0, 1) := by decide +kernel
theorem dX10_step_54 : decode cX10_step 54 = .ok (.getfield 124, 3) := by decide +kernel
theorem dX10_step_57 : decode cX10_step 57 = .ok (.iconst 4, 1) := by decide +kernel
theorem dX10_step_58 : decode cX10_step 58 = .ok (.iload_n 2, 1) := by decide +kernel
theorem dX10_step_59 : decode cX10_step 59 = .ok (.aload_n 0, 1) := by decide +kernel
theorem dX10_step_60 : decode cX10_step 60 = .ok (.getfield 130, 3) := by decide +kernel
theorem dX10_step_63 : decode cX10_step 63 = .ok (.isub, 1) := by decide +kernel
theorem dX10_step_64 : decode cX10_step 64 = .ok (.imul, 1) := by decide +kernel
theorem dX10_step_65 : decode cX10_step 65 = .ok (.iload_n 1, 1) := by decide +kernel
theorem dX10_step_66 : decode cX10_step 66 = .ok (.iadd, 1) := by decide +kernel
theorem dX10_step_67 : decode cX10_step 67 = .ok (.iaload, 1) := by decide +kernel
theorem dX10_step_68 : decode cX10_step 68 = .ok (.ireturn, 1) := by decide +kernel
theorem dX10_thrown_0 : decode cX10_thrown 0 = .ok (.aload_n 0, 1) := by decide +kernel
theorem dX10_thrown_1 : decode cX10_thrown 1 = .ok (.getfield 1, 3) := by decide +kernel
theorem dX10_thrown_4 : decode cX10_thrown 4 = .ok (.ireturn, 1) := by decide +kernel
theorem dX10_way_0 : decode cX10_way 0 = .ok (.aload_n 0, 1) := by decide +kernel
theorem dX10_way_1 : decode cX10_way 1 = .ok (.iconst 0, 1) := by decide +kernel
theorem dX10_way_2 : decode cX10_way 2 = .ok (.putfield 1, 3) := by decide +kernel
theorem dX10_way_5 : decode cX10_way 5 = .ok (.iload_n 1, 1) := by decide +kernel
theorem dX10_way_6 : decode cX10_way 6 = .ok (.ifCond .lt 34, 3) := by decide +kernel
theorem dX10_way_9 : decode cX10_way 9 = .ok (.iload_n 1, 1) := by decide +kernel
theorem dX10_way_10 : decode cX10_way 10 = .ok (.bipush 6, 2) := by decide +kernel
theorem dX10_way_12 : decode cX10_way 12 = .ok (.if_icmp .ge 28, 3) := by decide +kernel
theorem dX10_way_15 : decode cX10_way 15 = .ok (.iload_n 2, 1) := by decide +kernel
theorem dX10_way_16 : decode cX10_way 16 = .ok (.ifCond .lt 24, 3) := by decide +kernel
theorem dX10_way_19 : decode cX10_way 19 = .ok (.iload_n 2, 1) := by decide +kernel
theorem dX10_way_20 : decode cX10_way 20 = .ok (.bipush 6, 2) := by decide +kernel
theorem dX10_way_22 : decode cX10_way 22 = .ok (.if_icmp .ge 18, 3) := by decide +kernel
theorem dX10_way_25 : decode cX10_way 25 = .ok (.iload_n 1, 1) := by decide +kernel
theorem dX10_way_26 : decode cX10_way 26 = .ok (.iload_n 2, 1) := by decide +kernel
theorem dX10_way_27 : decode cX10_way 27 = .ok (.if_icmp .eq 13, 3) := by decide +kernel
theorem dX10_way_30 : decode cX10_way 30 = .ok (.iload_n 3, 1) := by decide +kernel
theorem dX10_way_31 : decode cX10_way 31 = .ok (.ifCond .lt 9, 3) := by decide +kernel
theorem dX10_way_34 : decode cX10_way 34 = .ok (.iload_n 3, 1) := by decide +kernel
theorem dX10_way_35 : decode cX10_way 35 = .ok (.bipush 9, 2) := by decide +kernel
theorem dX10_way_37 : decode cX10_way 37 = .ok (.if_icmp .le 5, 3) := by decide +kernel
theorem dX10_way_40 : decode cX10_way 40 = .ok (.iconst 0, 1) := by decide +kernel
theorem dX10_way_41 : decode cX10_way 41 = .ok (.ireturn, 1) := by decide +kernel
theorem dX10_way_42 : decode cX10_way 42 = .ok (.aload_n 0, 1) := by decide +kernel
theorem dX10_way_43 : decode cX10_way 43 = .ok (.getfield 97, 3) := by decide +kernel
theorem dX10_way_46 : decode cX10_way 46 = .ok (.bipush 6, 2) := by decide +kernel
theorem dX10_way_48 : decode cX10_way 48 = .ok (.iload_n 1, 1) := by decide +kernel
theorem dX10_way_49 : decode cX10_way 49 = .ok (.imul, 1) := by decide +kernel
theorem dX10_way_50 : decode cX10_way 50 = .ok (.iload_n 2, 1) := by decide +kernel
theorem dX10_way_51 : decode cX10_way 51 = .ok (.iadd, 1) := by decide +kernel
theorem dX10_way_52 : decode cX10_way 52 = .ok (.iload_n 3, 1) := by decide +kernel
theorem dX10_way_53 : decode cX10_way 53 = .ok (.iastore, 1) := by decide +kernel
theorem dX10_way_54 : decode cX10_way 54 = .ok (.iconst 1, 1) := by decide +kernel
theorem dX10_way_55 : decode cX10_way 55 = .ok (.ireturn, 1) := by decide +kernel
set_option maxHeartbeats 4000000 in
set_option maxRecDepth 100000 in
/-- WellCourtModel.herd -/
theorem m_herd (l : Launch) (G : va_G) (cy : Nat → ClassId) (sK sV : Nat → Nat) (ad : Nat → Nat → Nat) (sz : Nat) (st : gS) (hB : gBd bM st) (x : Int32) (y : Int32) (w : Int32) (v : Int32) (t : Int32) (Xx : Int) (Xy : Int) (Xw : Int) (Xv : Int) (Xt : Int) (kx : x.toInt = Xx) (ky : y.toInt = Xy) (kw : w.toInt = Xw) (kv : v.toInt = Xv) (kt : t.toInt = Xt) : gsMi l yX10_herd cX10_herd 6 (some .boolean) ({ frames := 1, cells := 0, slots := 0, locals := 21 } : Room) G cy sK sV (shM cy ad) cnM ad sz [.ref (ad 0 0), .int x, .int y, .int w, .int v, .int t] st (fun (r : Int32) (u : gS) => gBN bM kM [0, 2200, 2300, 2400, 2500, 2600, 2700] st u ∧ ((r = 1 ∧ (0 ≤ Xx) ∧ (Xx ≤ 3) ∧ (0 ≤ Xy) ∧ (Xy ≤ 5) ∧ (0 ≤ Xt) ∧ (Xt ≤ 5) ∧ (¬ (st 1 0 t.toNatClampNeg).toInt = 0) ∧ (1 ≤ Xw) ∧ (Xw ≤ 100) ∧ (1 ≤ Xv) ∧ (Xv ≤ 9) ∧ (u 22 0 = upd (st 22 0) x.toNatClampNeg (vp_nar .boolean 1))) ∨ (r = 0 ∧ (Xx < 0 ∨ 3 < Xx ∨ Xy < 0 ∨ 5 < Xy ∨ Xt < 0 ∨ 5 < Xt ∨ (st 1 0 t.toNatClampNeg).toInt = 0 ∨ Xw < 1 ∨ 100 < Xw ∨ Xv < 1 ∨ 9 < Xv) ∧ (u 22 0 = st 22 0)))) := by
  refine gs_start (fun A => gsQi G (shM cy ad) cnM ad _ A) (by decide) (Nat.le_of_ble_eq_true rfl) ?_
  intro p e s m below meth c A ls H hx hb hr hml hlocks hown hts hK hov hE hI hM hm hS hA hl
  have hl : lv_has ls 6 [(0, .ref (ad 0 0)), (1, .int x), (2, .int y), (3, .int w), (4, .int v), (5, .int t)] := hl
  have hB_st : gBN bM kM [0, 2200, 2300, 2400, 2500, 2600, 2700] st st := gBN.rf hB
  refine lv_aload_n hx hb dX10_herd_0 rfl (lv_at hl 0 rfl) ?_
  refine lv_iconst (v := 0) hx hb dX10_herd_1 (by decide) ?_
  refine gs_put (C := RX10) (T := TX10) (N := 59) (ty := .int) (val := .int 0) hx hb hts inX10 tyX10 tyX10_ok nmX10 hown hK hI hm hM hS 0 0 0 (by decide) rfl rfl (by decide) (hts _ gm_901) (fun _ h9 => h9) rfl (0 : Int32) rfl (by decide +kernel) rfl rfl (Nat.le_of_ble_eq_true rfl) dX10_herd_2 (fun st_1 H locs est_1 hM hS => ?_)
  have hB_st_1 : gBN bM kM [0, 2200, 2300, 2400, 2500, 2600, 2700] st st_1 := by rw [est_1]; exact hB_st.up (show (0 : Nat) ∈ _ from by decide) (gi_lo _) (gi_hi _)
  refine lv_iload_n hx hb dX10_herd_5 rfl (lv_at hl 1 rfl) ?_
  refine lv_if_lt (tgt := 54) hx hb dX10_herd_6 (by decide) (fun c_2 => ?_) (fun c_2 => ?_)
  · have ic_2 := gz_lt (rfl : x.toInt = x.toInt) (by decide : (0 : Int32).toInt = 0) c_2
    refine lv_iconst (v := 0) hx hb dX10_herd_54 (by decide) ?_
    exact gs_iret hx hb hr hlocks hM hS (by decide) ⟨hB_st_1, (Or.inr (⟨rfl, (by have hl0 : (0 : Int32).toInt = 0 := (by decide); omega), (((congrFun (congrFun est_1 22) 0).trans ((congrFun (gU_k (by decide)) 0).trans rfl)))⟩))⟩ (by exact Nat.le_refl _) (by exact Nat.le_refl _) dX10_herd_55
  · have ic_2 := gz_nlt (rfl : x.toInt = x.toInt) (by decide : (0 : Int32).toInt = 0) c_2
    refine lv_iload_n hx hb dX10_herd_9 rfl (lv_at hl 1 rfl) ?_
    refine lv_iconst (v := 4) hx hb dX10_herd_10 (by decide) ?_
    refine lv_icmp_ge (tgt := 54) hx hb dX10_herd_11 (by decide) (fun c_3 => ?_) (fun c_3 => ?_)
    · have ic_3 := gz_le (by decide : (4 : Int32).toInt = 4) (rfl : x.toInt = x.toInt) c_3
      refine lv_iconst (v := 0) hx hb dX10_herd_54 (by decide) ?_
      exact gs_iret hx hb hr hlocks hM hS (by decide) ⟨hB_st_1, (Or.inr (⟨rfl, (by have hl0 : (0 : Int32).toInt = 0 := (by decide); omega), (((congrFun (congrFun est_1 22) 0).trans ((congrFun (gU_k (by decide)) 0).trans rfl)))⟩))⟩ (by exact Nat.le_refl _) (by exact Nat.le_refl _) dX10_herd_55
    · have ic_3 := gz_nle (by decide : (4 : Int32).toInt = 4) (rfl : x.toInt = x.toInt) c_3
      refine lv_iload_n hx hb dX10_herd_14 rfl (lv_at hl 2 rfl) ?_
      refine gs_calli (va_runS (As := [.int y]) (rest := []) ⟨hx, hb, hml, hown, hts⟩ (m_isClan l G cy sK sV ad H.size st_1 hB_st_1.1 y y.toInt rfl ) ⟨(gz_cb (n := 1) hts gm_1213 gm_12 gm_1215 ⟨by decide +kernel, by decide +kernel, by decide +kernel⟩ ⟨Nat.le_of_ble_eq_true rfl, Nat.le_of_ble_eq_true rfl⟩), hts _ gm_1214⟩ (gs_preS hK hov hE hI hM hm hS hA) rfl rfl hl.1 rfl (lv_room (Nat.le_of_ble_eq_true rfl)) dX10_herd_15 ⟨Nat.le_of_ble_eq_true rfl, Nat.le_of_ble_eq_true rfl⟩) hm hS hA (fun r_4 st_4 H locs hw_4 hM hS => ?_)
      obtain ⟨n_4, hw_4⟩ := hw_4
      have n_4 := gBN.nil n_4
      subst n_4
      rcases hw_4 with ⟨rfl, hw_4_0, hw_4_1⟩ | ⟨rfl, hw_4_0⟩
      · skip
        refine lv_if_eq (tgt := 54) hx hb dX10_herd_18 (by decide) (fun h9 => absurd h9 (by decide)) (fun _ => ?_)
        refine lv_iload_n hx hb dX10_herd_21 rfl (lv_at hl 3 rfl) ?_
        refine lv_iconst (v := 1) hx hb dX10_herd_22 (by decide) ?_
        refine lv_icmp_lt (tgt := 54) hx hb dX10_herd_23 (by decide) (fun c_5 => ?_) (fun c_5 => ?_)
        · have ic_5 := gz_lt (rfl : w.toInt = w.toInt) (by decide : (1 : Int32).toInt = 1) c_5
          refine lv_iconst (v := 0) hx hb dX10_herd_54 (by decide) ?_
          exact gs_iret hx hb hr hlocks hM hS (by decide) ⟨hB_st_1, (Or.inr (⟨rfl, (by have hl0 : (0 : Int32).toInt = 0 := (by decide); omega), (((congrFun (congrFun est_1 22) 0).trans ((congrFun (gU_k (by decide)) 0).trans rfl)))⟩))⟩ (by exact Nat.le_refl _) (by exact Nat.le_refl _) dX10_herd_55
        · have ic_5 := gz_nlt (rfl : w.toInt = w.toInt) (by decide : (1 : Int32).toInt = 1) c_5
          refine lv_iload_n hx hb dX10_herd_26 rfl (lv_at hl 3 rfl) ?_
          refine lv_bipush (v := 100) hx hb dX10_herd_27 (by decide) ?_
          refine lv_icmp_gt (tgt := 54) hx hb dX10_herd_29 (by decide) (fun c_6 => ?_) (fun c_6 => ?_)
          · have ic_6 := gz_lt (by decide : (100 : Int32).toInt = 100) (rfl : w.toInt = w.toInt) c_6
            refine lv_iconst (v := 0) hx hb dX10_herd_54 (by decide) ?_
            exact gs_iret hx hb hr hlocks hM hS (by decide) ⟨hB_st_1, (Or.inr (⟨rfl, (by have hl0 : (0 : Int32).toInt = 0 := (by decide); omega), (((congrFun (congrFun est_1 22) 0).trans ((congrFun (gU_k (by decide)) 0).trans rfl)))⟩))⟩ (by exact Nat.le_refl _) (by exact Nat.le_refl _) dX10_herd_55
          · have ic_6 := gz_nlt (by decide : (100 : Int32).toInt = 100) (rfl : w.toInt = w.toInt) c_6
            refine lv_iload hx hb dX10_herd_32 (lv_at hl 4 rfl) ?_
            refine lv_iconst (v := 1) hx hb dX10_herd_34 (by decide) ?_
            refine lv_icmp_lt (tgt := 54) hx hb dX10_herd_35 (by decide) (fun c_7 => ?_) (fun c_7 => ?_)
            · have ic_7 := gz_lt (rfl : v.toInt = v.toInt) (by decide : (1 : Int32).toInt = 1) c_7
              refine lv_iconst (v := 0) hx hb dX10_herd_54 (by decide) ?_
              exact gs_iret hx hb hr hlocks hM hS (by decide) ⟨hB_st_1, (Or.inr (⟨rfl, (by have hl0 : (0 : Int32).toInt = 0 := (by decide); omega), (((congrFun (congrFun est_1 22) 0).trans ((congrFun (gU_k (by decide)) 0).trans rfl)))⟩))⟩ (by exact Nat.le_refl _) (by exact Nat.le_refl _) dX10_herd_55
            · have ic_7 := gz_nlt (rfl : v.toInt = v.toInt) (by decide : (1 : Int32).toInt = 1) c_7
              refine lv_iload hx hb dX10_herd_38 (lv_at hl 4 rfl) ?_
              refine lv_bipush (v := 9) hx hb dX10_herd_40 (by decide) ?_
              refine lv_icmp_gt (tgt := 54) hx hb dX10_herd_42 (by decide) (fun c_8 => ?_) (fun c_8 => ?_)
              · have ic_8 := gz_lt (by decide : (9 : Int32).toInt = 9) (rfl : v.toInt = v.toInt) c_8
                refine lv_iconst (v := 0) hx hb dX10_herd_54 (by decide) ?_
                exact gs_iret hx hb hr hlocks hM hS (by decide) ⟨hB_st_1, (Or.inr (⟨rfl, (by have hl0 : (0 : Int32).toInt = 0 := (by decide); omega), (((congrFun (congrFun est_1 22) 0).trans ((congrFun (gU_k (by decide)) 0).trans rfl)))⟩))⟩ (by exact Nat.le_refl _) (by exact Nat.le_refl _) dX10_herd_55
              · have ic_8 := gz_nlt (by decide : (9 : Int32).toInt = 9) (rfl : v.toInt = v.toInt) c_8
                refine lv_aload_n hx hb dX10_herd_45 rfl (lv_at hl 0 rfl) ?_
                refine lv_iload hx hb dX10_herd_46 (lv_at hl 5 rfl) ?_
                refine gs_calli (va_runV (As := [.int t]) (rest := []) ⟨hx, hb, hml, hown, hts⟩ (m_hasWell l G cy sK sV ad H.size st_1 hB_st_1.1 t t.toInt rfl ) ⟨(gz_cb (n := 1) hts gm_1201 gm_12 gm_1204 ⟨by decide +kernel, by decide +kernel, by decide +kernel⟩ ⟨Nat.le_of_ble_eq_true rfl, Nat.le_of_ble_eq_true rfl⟩), hts _ gm_1203, hts _ gs_50⟩ (gs_preV hK hov hE hI hM hm hS hA 0 0 (by decide) rfl rfl) rfl rfl hl.1 rfl (lv_room (Nat.le_of_ble_eq_true rfl)) dX10_herd_48 ⟨Nat.le_of_ble_eq_true rfl, Nat.le_of_ble_eq_true rfl⟩) hm hS hA (fun r_9 st_9 H locs hw_9 hM hS => ?_)
                obtain ⟨n_9, hw_9⟩ := hw_9
                have n_9 := gBN.nil n_9
                subst n_9
                have hqhw_90 : (st_1 1 0 t.toNatClampNeg).toInt = ((st 1 0 t.toNatClampNeg) : Int32).toInt := congrArg Int32.toInt (((congrFun (congrFun (congrFun est_1 1) 0) t.toNatClampNeg).trans (congrFun (congrFun (gU_k (by decide)) 0) t.toNatClampNeg)))
                rcases hw_9 with ⟨rfl, hw_9_0, hw_9_1, hw_9_2⟩ | ⟨rfl, hw_9_0⟩
                · skip
                  refine lv_if_ne (tgt := 56) hx hb dX10_herd_51 (by decide) (fun _ => ?_) (fun h9 => absurd h9 (by decide))
                  refine lv_aload_n hx hb dX10_herd_56 rfl (lv_at hl 0 rfl) ?_
                  refine gs_get (C := RX10) (T := TX10) (N := 59) hx hb hts inX10 hown hK hM 0 0 38 (by decide) rfl rfl (by decide) (hts _ gm_939) (fun _ h9 => h9) rfl dX10_herd_57 ?_
                  refine lv_iload_n hx hb dX10_herd_60 rfl (lv_at hl 1 rfl) ?_
                  refine lv_iconst (v := 1) hx hb dX10_herd_61 (by decide) ?_
                  refine gs_zast hx hb hK hI hm hM hS 22 0 (by decide) (fun _ => rfl) (vp_in_iff.mpr ⟨by omega, by omega⟩) dX10_herd_62 (fun st_10 H locs est_10 hM hS => ?_)
                  have hB_st_10 : gBN bM kM [0, 2200, 2300, 2400, 2500, 2600, 2700] st st_10 := by rw [est_10]; exact hB_st_1.up (show (2200 : Nat) ∈ _ from by decide) (gi_lo _) (gi_hi _)
                  refine lv_aload_n hx hb dX10_herd_63 rfl (lv_at hl 0 rfl) ?_
                  refine gs_get (C := RX10) (T := TX10) (N := 59) hx hb hts inX10 hown hK hM 0 0 39 (by decide) rfl rfl (by decide) (hts _ gm_940) (fun _ h9 => h9) rfl dX10_herd_64 ?_
                  refine lv_iload_n hx hb dX10_herd_67 rfl (lv_at hl 1 rfl) ?_
                  refine lv_iload_n hx hb dX10_herd_68 rfl (lv_at hl 2 rfl) ?_
                  refine gs_iast hx hb hK hI hm hM hS 23 0 (by decide) (fun _ => rfl) (vp_in_iff.mpr ⟨by omega, by omega⟩) dX10_herd_69 (fun st_11 H locs est_11 hM hS => ?_)
                  have hB_st_11 : gBN bM kM [0, 2200, 2300, 2400, 2500, 2600, 2700] st st_11 := by rw [est_11]; exact hB_st_10.up (show (2300 : Nat) ∈ _ from by decide) (gi_lo _) (gi_hi _)
                  refine lv_aload_n hx hb dX10_herd_70 rfl (lv_at hl 0 rfl) ?_
                  refine gs_get (C := RX10) (T := TX10) (N := 59) hx hb hts inX10 hown hK hM 0 0 40 (by decide) rfl rfl (by decide) (hts _ gm_941) (fun _ h9 => h9) rfl dX10_herd_71 ?_
                  refine lv_iload_n hx hb dX10_herd_74 rfl (lv_at hl 1 rfl) ?_
                  refine lv_iload_n hx hb dX10_herd_75 rfl (lv_at hl 3 rfl) ?_
                  refine gs_iast hx hb hK hI hm hM hS 24 0 (by decide) (fun _ => rfl) (vp_in_iff.mpr ⟨by omega, by omega⟩) dX10_herd_76 (fun st_12 H locs est_12 hM hS => ?_)
                  have hB_st_12 : gBN bM kM [0, 2200, 2300, 2400, 2500, 2600, 2700] st st_12 := by rw [est_12]; exact hB_st_11.up (show (2400 : Nat) ∈ _ from by decide) (gi_lo _) (gi_hi _)
                  refine lv_aload_n hx hb dX10_herd_77 rfl (lv_at hl 0 rfl) ?_
                  refine gs_get (C := RX10) (T := TX10) (N := 59) hx hb hts inX10 hown hK hM 0 0 41 (by decide) rfl rfl (by decide) (hts _ gm_942) (fun _ h9 => h9) rfl dX10_herd_78 ?_
                  refine lv_iload_n hx hb dX10_herd_81 rfl (lv_at hl 1 rfl) ?_
                  refine lv_iload hx hb dX10_herd_82 (lv_at hl 4 rfl) ?_
                  refine gs_iast hx hb hK hI hm hM hS 25 0 (by decide) (fun _ => rfl) (vp_in_iff.mpr ⟨by omega, by omega⟩) dX10_herd_84 (fun st_13 H locs est_13 hM hS => ?_)
                  have hB_st_13 : gBN bM kM [0, 2200, 2300, 2400, 2500, 2600, 2700] st st_13 := by rw [est_13]; exact hB_st_12.up (show (2500 : Nat) ∈ _ from by decide) (gi_lo _) (gi_hi _)
                  refine lv_aload_n hx hb dX10_herd_85 rfl (lv_at hl 0 rfl) ?_
                  refine gs_get (C := RX10) (T := TX10) (N := 59) hx hb hts inX10 hown hK hM 0 0 42 (by decide) rfl rfl (by decide) (hts _ gm_943) (fun _ h9 => h9) rfl dX10_herd_86 ?_
                  refine lv_iload_n hx hb dX10_herd_89 rfl (lv_at hl 1 rfl) ?_
                  refine lv_iload hx hb dX10_herd_90 (lv_at hl 5 rfl) ?_
                  refine gs_iast hx hb hK hI hm hM hS 26 0 (by decide) (fun _ => rfl) (vp_in_iff.mpr ⟨by omega, by omega⟩) dX10_herd_92 (fun st_14 H locs est_14 hM hS => ?_)
                  have hB_st_14 : gBN bM kM [0, 2200, 2300, 2400, 2500, 2600, 2700] st st_14 := by rw [est_14]; exact hB_st_13.up (show (2600 : Nat) ∈ _ from by decide) (show (0 : Int) ≤ t.toInt from by omega) (show t.toInt ≤ (5 : Int) from by omega)
                  refine lv_aload_n hx hb dX10_herd_93 rfl (lv_at hl 0 rfl) ?_
                  refine gs_get (C := RX10) (T := TX10) (N := 59) hx hb hts inX10 hown hK hM 0 0 43 (by decide) rfl rfl (by decide) (hts _ gm_944) (fun _ h9 => h9) rfl dX10_herd_94 ?_
                  refine lv_iload_n hx hb dX10_herd_97 rfl (lv_at hl 1 rfl) ?_
                  refine lv_aload_n hx hb dX10_herd_98 rfl (lv_at hl 0 rfl) ?_
                  refine gs_get (C := RX10) (T := TX10) (N := 59) hx hb hts inX10 hown hK hM 0 0 7 (by decide) rfl rfl (by decide) (hts _ gm_908) (fun _ h9 => h9) rfl dX10_herd_99 ?_
                  refine lv_topi (fun x_15 ex_15 => ?_)
                  have ex_15 : (st 0 0 7) = x_15 := Eq.symm (ex_15.trans (((congrFun (congrFun (congrFun est_14 0) 0) 7).trans (congrFun (congrFun (gU_k (by decide)) 0) 7)).trans (((congrFun (congrFun (congrFun est_13 0) 0) 7).trans (congrFun (congrFun (gU_k (by decide)) 0) 7)).trans (((congrFun (congrFun (congrFun est_12 0) 0) 7).trans (congrFun (congrFun (gU_k (by decide)) 0) 7)).trans (((congrFun (congrFun (congrFun est_11 0) 0) 7).trans (congrFun (congrFun (gU_k (by decide)) 0) 7)).trans (((congrFun (congrFun (congrFun est_10 0) 0) 7).trans (congrFun (congrFun (gU_k (by decide)) 0) 7)).trans ((congrFun (congrFun (congrFun est_1 0) 0) 7).trans (gU_other (by decide)))))))))
                  subst ex_15
                  have bf_16 : (0 : Int) ≤ (st 0 0 7).toInt ∧ (st 0 0 7).toInt ≤ (199 : Int) := hB_st.1 0 0 7
                  refine gs_iast hx hb hK hI hm hM hS 27 0 (by decide) (fun _ => rfl) (vp_in_iff.mpr ⟨by omega, by omega⟩) dX10_herd_102 (fun st_17 H locs est_17 hM hS => ?_)
                  have hB_st_17 : gBN bM kM [0, 2200, 2300, 2400, 2500, 2600, 2700] st st_17 := by rw [est_17]; exact hB_st_14.up (show (2700 : Nat) ∈ _ from by decide) (gi_lo _) (gi_hi _)
                  refine lv_iconst (v := 1) hx hb dX10_herd_103 (by decide) ?_
                  exact gs_iret hx hb hr hlocks hM hS (by decide) ⟨hB_st_17, (Or.inl (⟨rfl, (by have hl0 : (1 : Int32).toInt = 1 := (by decide); omega), (by have hl0 : (1 : Int32).toInt = 1 := (by decide); omega), (by have hl0 : (1 : Int32).toInt = 1 := (by decide); omega), (by have hl0 : (1 : Int32).toInt = 1 := (by decide); omega), (by have hl0 : (1 : Int32).toInt = 1 := (by decide); omega), (by have hl0 : (1 : Int32).toInt = 1 := (by decide); omega), (by have hl0 : (1 : Int32).toInt = 1 := (by decide); omega), (by have hl0 : (1 : Int32).toInt = 1 := (by decide); omega), (by have hl0 : (1 : Int32).toInt = 1 := (by decide); omega), (by have hl0 : (1 : Int32).toInt = 1 := (by decide); omega), (by have hl0 : (1 : Int32).toInt = 1 := (by decide); omega), (((congrFun (congrFun est_17 22) 0).trans ((congrFun (gU_k (by decide)) 0).trans ((congrFun (congrFun est_14 22) 0).trans ((congrFun (gU_k (by decide)) 0).trans ((congrFun (congrFun est_13 22) 0).trans ((congrFun (gU_k (by decide)) 0).trans ((congrFun (congrFun est_12 22) 0).trans ((congrFun (gU_k (by decide)) 0).trans ((congrFun (congrFun est_11 22) 0).trans ((congrFun (gU_k (by decide)) 0).trans ((congrFun (congrFun est_10 22) 0).trans ((gU_at _ _ _ _ _).trans (congrArg (fun f9 => upd f9 (x.toNatClampNeg) ((vp_nar .boolean 1) : Int32)) ((congrFun (congrFun est_1 22) 0).trans ((congrFun (gU_k (by decide)) 0).trans rfl))))))))))))))))⟩))⟩ (by exact Nat.le_refl _) (by exact Nat.le_refl _) dX10_herd_104
                · skip
                  refine lv_if_ne (tgt := 56) hx hb dX10_herd_51 (by decide) (fun h9 => absurd (by decide) h9) (fun _ => ?_)
                  refine lv_iconst (v := 0) hx hb dX10_herd_54 (by decide) ?_
                  exact gs_iret hx hb hr hlocks hM hS (by decide) ⟨hB_st_1, (Or.inr (⟨rfl, (by have hl0 : (0 : Int32).toInt = 0 := (by decide); omega), (((congrFun (congrFun est_1 22) 0).trans ((congrFun (gU_k (by decide)) 0).trans rfl)))⟩))⟩ (by exact Nat.le_refl _) (by exact Nat.le_refl _) dX10_herd_55
      · skip
        refine lv_if_eq (tgt := 54) hx hb dX10_herd_18 (by decide) (fun _ => ?_) (fun h9 => absurd (by decide) h9)
        refine lv_iconst (v := 0) hx hb dX10_herd_54 (by decide) ?_
        exact gs_iret hx hb hr hlocks hM hS (by decide) ⟨hB_st_1, (Or.inr (⟨rfl, (by have hl0 : (0 : Int32).toInt = 0 := (by decide); omega), (((congrFun (congrFun est_1 22) 0).trans ((congrFun (gU_k (by decide)) 0).trans rfl)))⟩))⟩ (by exact Nat.le_refl _) (by exact Nat.le_refl _) dX10_herd_55

set_option maxHeartbeats 4000000 in
set_option maxRecDepth 100000 in
/-- WellCourtModel.drop -/
theorem m_drop (l : Launch) (G : va_G) (cy : Nat → ClassId) (sK sV : Nat → Nat) (ad : Nat → Nat → Nat) (sz : Nat) (st : gS) (hB : gBd bM st) (x : Int32) (Xx : Int) (kx : x.toInt = Xx) : gsMi l yX10_drop cX10_drop 2 (some .boolean) ({ frames := 0, cells := 0, slots := 0, locals := 0 } : Room) G cy sK sV (shM cy ad) cnM ad sz [.ref (ad 0 0), .int x] st (fun (r : Int32) (u : gS) => gBN bM kM [0, 2200] st u ∧ ((r = 1 ∧ (0 ≤ Xx) ∧ (Xx ≤ 3) ∧ (¬ (st 22 0 x.toNatClampNeg).toInt = 0) ∧ (u 22 0 = upd (st 22 0) x.toNatClampNeg (vp_nar .boolean 0))) ∨ (r = 0 ∧ (Xx < 0 ∨ 3 < Xx ∨ (st 22 0 x.toNatClampNeg).toInt = 0) ∧ (u 22 0 = st 22 0)))) := by
  refine gs_start (fun A => gsQi G (shM cy ad) cnM ad _ A) (by decide) (Nat.le_of_ble_eq_true rfl) ?_
  intro p e s m below meth c A ls H hx hb hr hml hlocks hown hts hK hov hE hI hM hm hS hA hl
  have hl : lv_has ls 2 [(0, .ref (ad 0 0)), (1, .int x)] := hl
  have hB_st : gBN bM kM [0, 2200] st st := gBN.rf hB
  refine lv_aload_n hx hb dX10_drop_0 rfl (lv_at hl 0 rfl) ?_
  refine lv_iconst (v := 0) hx hb dX10_drop_1 (by decide) ?_
  refine gs_put (C := RX10) (T := TX10) (N := 59) (ty := .int) (val := .int 0) hx hb hts inX10 tyX10 tyX10_ok nmX10 hown hK hI hm hM hS 0 0 0 (by decide) rfl rfl (by decide) (hts _ gm_901) (fun _ h9 => h9) rfl (0 : Int32) rfl (by decide +kernel) rfl rfl (Nat.le_of_ble_eq_true rfl) dX10_drop_2 (fun st_1 H locs est_1 hM hS => ?_)
  have hB_st_1 : gBN bM kM [0, 2200] st st_1 := by rw [est_1]; exact hB_st.up (show (0 : Nat) ∈ _ from by decide) (gi_lo _) (gi_hi _)
  refine lv_iload_n hx hb dX10_drop_5 rfl (lv_at hl 1 rfl) ?_
  refine lv_if_lt (tgt := 23) hx hb dX10_drop_6 (by decide) (fun c_2 => ?_) (fun c_2 => ?_)
  · have ic_2 := gz_lt (rfl : x.toInt = x.toInt) (by decide : (0 : Int32).toInt = 0) c_2
    refine lv_iconst (v := 0) hx hb dX10_drop_23 (by decide) ?_
    exact gs_iret hx hb hr hlocks hM hS (by decide) ⟨hB_st_1, (Or.inr (⟨rfl, (by have hl0 : (0 : Int32).toInt = 0 := (by decide); omega), (((congrFun (congrFun est_1 22) 0).trans ((congrFun (gU_k (by decide)) 0).trans rfl)))⟩))⟩ (by exact Nat.le_refl _) (by exact Nat.le_refl _) dX10_drop_24
  · have ic_2 := gz_nlt (rfl : x.toInt = x.toInt) (by decide : (0 : Int32).toInt = 0) c_2
    refine lv_iload_n hx hb dX10_drop_9 rfl (lv_at hl 1 rfl) ?_
    refine lv_iconst (v := 4) hx hb dX10_drop_10 (by decide) ?_
    refine lv_icmp_ge (tgt := 23) hx hb dX10_drop_11 (by decide) (fun c_3 => ?_) (fun c_3 => ?_)
    · have ic_3 := gz_le (by decide : (4 : Int32).toInt = 4) (rfl : x.toInt = x.toInt) c_3
      refine lv_iconst (v := 0) hx hb dX10_drop_23 (by decide) ?_
      exact gs_iret hx hb hr hlocks hM hS (by decide) ⟨hB_st_1, (Or.inr (⟨rfl, (by have hl0 : (0 : Int32).toInt = 0 := (by decide); omega), (((congrFun (congrFun est_1 22) 0).trans ((congrFun (gU_k (by decide)) 0).trans rfl)))⟩))⟩ (by exact Nat.le_refl _) (by exact Nat.le_refl _) dX10_drop_24
    · have ic_3 := gz_nle (by decide : (4 : Int32).toInt = 4) (rfl : x.toInt = x.toInt) c_3
      refine lv_aload_n hx hb dX10_drop_14 rfl (lv_at hl 0 rfl) ?_
      refine gs_get (C := RX10) (T := TX10) (N := 59) hx hb hts inX10 hown hK hM 0 0 38 (by decide) rfl rfl (by decide) (hts _ gm_939) (fun _ h9 => h9) rfl dX10_drop_15 ?_
      refine lv_iload_n hx hb dX10_drop_18 rfl (lv_at hl 1 rfl) ?_
      refine gs_zald hx hb hK hM 22 0 (by decide) rfl (vp_in_iff.mpr ⟨by omega, by omega⟩) dX10_drop_19 ?_
      refine lv_topi (fun x_4 ex_4 => ?_)
      have qx_4 : x_4.toInt = (st_1 22 0 (x.toNatClampNeg)).toInt := congrArg Int32.toInt ex_4
      have rx_4 : x_4.toInt = ((st 22 0 (x.toNatClampNeg)) : Int32).toInt := by rw [ex_4]; exact congrArg Int32.toInt (((congrFun (congrFun (congrFun est_1 22) 0) (x.toNatClampNeg)).trans (congrFun (congrFun (gU_k (by decide)) 0) (x.toNatClampNeg))))
      refine lv_if_ne (tgt := 25) hx hb dX10_drop_20 (by decide) (fun c_5 => ?_) (fun c_5 => ?_)
      · have ic_5 := gz_ne (rfl : x_4.toInt = x_4.toInt) (by decide : (0 : Int32).toInt = 0) c_5
        refine lv_aload_n hx hb dX10_drop_25 rfl (lv_at hl 0 rfl) ?_
        refine gs_get (C := RX10) (T := TX10) (N := 59) hx hb hts inX10 hown hK hM 0 0 38 (by decide) rfl rfl (by decide) (hts _ gm_939) (fun _ h9 => h9) rfl dX10_drop_26 ?_
        refine lv_iload_n hx hb dX10_drop_29 rfl (lv_at hl 1 rfl) ?_
        refine lv_iconst (v := 0) hx hb dX10_drop_30 (by decide) ?_
        refine gs_zast hx hb hK hI hm hM hS 22 0 (by decide) (fun _ => rfl) (vp_in_iff.mpr ⟨by omega, by omega⟩) dX10_drop_31 (fun st_6 H locs est_6 hM hS => ?_)
        have hB_st_6 : gBN bM kM [0, 2200] st st_6 := by rw [est_6]; exact hB_st_1.up (show (2200 : Nat) ∈ _ from by decide) (gi_lo _) (gi_hi _)
        refine lv_iconst (v := 1) hx hb dX10_drop_32 (by decide) ?_
        exact gs_iret hx hb hr hlocks hM hS (by decide) ⟨hB_st_6, (Or.inl (⟨rfl, (by have hl0 : (1 : Int32).toInt = 1 := (by decide); omega), (by have hl0 : (1 : Int32).toInt = 1 := (by decide); omega), (by have hl0 : (1 : Int32).toInt = 1 := (by decide); omega), (((congrFun (congrFun est_6 22) 0).trans ((gU_at _ _ _ _ _).trans (congrArg (fun f9 => upd f9 (x.toNatClampNeg) ((vp_nar .boolean 0) : Int32)) ((congrFun (congrFun est_1 22) 0).trans ((congrFun (gU_k (by decide)) 0).trans rfl))))))⟩))⟩ (by exact Nat.le_refl _) (by exact Nat.le_refl _) dX10_drop_33
      · have ic_5 := gz_eqn (rfl : x_4.toInt = x_4.toInt) (by decide : (0 : Int32).toInt = 0) c_5
        refine lv_iconst (v := 0) hx hb dX10_drop_23 (by decide) ?_
        exact gs_iret hx hb hr hlocks hM hS (by decide) ⟨hB_st_1, (Or.inr (⟨rfl, (by have hl0 : (0 : Int32).toInt = 0 := (by decide); omega), (((congrFun (congrFun est_1 22) 0).trans ((congrFun (gU_k (by decide)) 0).trans rfl)))⟩))⟩ (by exact Nat.le_refl _) (by exact Nat.le_refl _) dX10_drop_24

set_option maxHeartbeats 4000000 in
set_option maxRecDepth 100000 in
/-- WellCourtModel.way -/
theorem m_way (l : Launch) (G : va_G) (cy : Nat → ClassId) (sK sV : Nat → Nat) (ad : Nat → Nat → Nat) (sz : Nat) (st : gS) (hB : gBd bM st) (x : Int32) (y : Int32) (w : Int32) (Xx : Int) (Xy : Int) (Xw : Int) (kx : x.toInt = Xx) (ky : y.toInt = Xy) (kw : w.toInt = Xw) : gsMi l yX10_way cX10_way 4 (some .boolean) ({ frames := 0, cells := 0, slots := 0, locals := 0 } : Room) G cy sK sV (shM cy ad) cnM ad sz [.ref (ad 0 0), .int x, .int y, .int w] st (fun (r : Int32) (u : gS) => gBN bM kM [0, 2800] st u ∧ ((r = 1 ∧ (0 ≤ Xx ∧ Xx ≤ 5 ∧ 0 ≤ Xy ∧ Xy ≤ 5 ∧ ¬ Xx = Xy ∧ 0 ≤ Xw ∧ Xw ≤ 9)) ∨ (r = 0 ∧ (¬ (0 ≤ Xx ∧ Xx ≤ 5 ∧ 0 ≤ Xy ∧ Xy ≤ 5 ∧ ¬ Xx = Xy ∧ 0 ≤ Xw ∧ Xw ≤ 9))))) := by
  refine gs_start (fun A => gsQi G (shM cy ad) cnM ad _ A) (by decide) (Nat.le_of_ble_eq_true rfl) ?_
  intro p e s m below meth c A ls H hx hb hr hml hlocks hown hts hK hov hE hI hM hm hS hA hl
  have hl : lv_has ls 4 [(0, .ref (ad 0 0)), (1, .int x), (2, .int y), (3, .int w)] := hl
  have hB_st : gBN bM kM [0, 2800] st st := gBN.rf hB
  refine lv_aload_n hx hb dX10_way_0 rfl (lv_at hl 0 rfl) ?_
  refine lv_iconst (v := 0) hx hb dX10_way_1 (by decide) ?_
  refine gs_put (C := RX10) (T := TX10) (N := 59) (ty := .int) (val := .int 0) hx hb hts inX10 tyX10 tyX10_ok nmX10 hown hK hI hm hM hS 0 0 0 (by decide) rfl rfl (by decide) (hts _ gm_901) (fun _ h9 => h9) rfl (0 : Int32) rfl (by decide +kernel) rfl rfl (Nat.le_of_ble_eq_true rfl) dX10_way_2 (fun st_1 H locs est_1 hM hS => ?_)
  have hB_st_1 : gBN bM kM [0, 2800] st st_1 := by rw [est_1]; exact hB_st.up (show (0 : Nat) ∈ _ from by decide) (gi_lo _) (gi_hi _)
  refine lv_iload_n hx hb dX10_way_5 rfl (lv_at hl 1 rfl) ?_
  refine lv_if_lt (tgt := 40) hx hb dX10_way_6 (by decide) (fun c_2 => ?_) (fun c_2 => ?_)
  · have ic_2 := gz_lt (rfl : x.toInt = x.toInt) (by decide : (0 : Int32).toInt = 0) c_2
    refine lv_iconst (v := 0) hx hb dX10_way_40 (by decide) ?_
    exact gs_iret hx hb hr hlocks hM hS (by decide) ⟨hB_st_1, (Or.inr (⟨rfl, (by have hl0 : (0 : Int32).toInt = 0 := (by decide); omega)⟩))⟩ (by exact Nat.le_refl _) (by exact Nat.le_refl _) dX10_way_41
  · have ic_2 := gz_nlt (rfl : x.toInt = x.toInt) (by decide : (0 : Int32).toInt = 0) c_2
    refine lv_iload_n hx hb dX10_way_9 rfl (lv_at hl 1 rfl) ?_
    refine lv_bipush (v := 6) hx hb dX10_way_10 (by decide) ?_
    refine lv_icmp_ge (tgt := 40) hx hb dX10_way_12 (by decide) (fun c_3 => ?_) (fun c_3 => ?_)
    · have ic_3 := gz_le (by decide : (6 : Int32).toInt = 6) (rfl : x.toInt = x.toInt) c_3
      refine lv_iconst (v := 0) hx hb dX10_way_40 (by decide) ?_
      exact gs_iret hx hb hr hlocks hM hS (by decide) ⟨hB_st_1, (Or.inr (⟨rfl, (by have hl0 : (0 : Int32).toInt = 0 := (by decide); omega)⟩))⟩ (by exact Nat.le_refl _) (by exact Nat.le_refl _) dX10_way_41
    · have ic_3 := gz_nle (by decide : (6 : Int32).toInt = 6) (rfl : x.toInt = x.toInt) c_3
      refine lv_iload_n hx hb dX10_way_15 rfl (lv_at hl 2 rfl) ?_
      refine lv_if_lt (tgt := 40) hx hb dX10_way_16 (by decide) (fun c_4 => ?_) (fun c_4 => ?_)
      · have ic_4 := gz_lt (rfl : y.toInt = y.toInt) (by decide : (0 : Int32).toInt = 0) c_4
        refine lv_iconst (v := 0) hx hb dX10_way_40 (by decide) ?_
        exact gs_iret hx hb hr hlocks hM hS (by decide) ⟨hB_st_1, (Or.inr (⟨rfl, (by have hl0 : (0 : Int32).toInt = 0 := (by decide); omega)⟩))⟩ (by exact Nat.le_refl _) (by exact Nat.le_refl _) dX10_way_41
      · have ic_4 := gz_nlt (rfl : y.toInt = y.toInt) (by decide : (0 : Int32).toInt = 0) c_4
        refine lv_iload_n hx hb dX10_way_19 rfl (lv_at hl 2 rfl) ?_
        refine lv_bipush (v := 6) hx hb dX10_way_20 (by decide) ?_
        refine lv_icmp_ge (tgt := 40) hx hb dX10_way_22 (by decide) (fun c_5 => ?_) (fun c_5 => ?_)
        · have ic_5 := gz_le (by decide : (6 : Int32).toInt = 6) (rfl : y.toInt = y.toInt) c_5
          refine lv_iconst (v := 0) hx hb dX10_way_40 (by decide) ?_
          exact gs_iret hx hb hr hlocks hM hS (by decide) ⟨hB_st_1, (Or.inr (⟨rfl, (by have hl0 : (0 : Int32).toInt = 0 := (by decide); omega)⟩))⟩ (by exact Nat.le_refl _) (by exact Nat.le_refl _) dX10_way_41
        · have ic_5 := gz_nle (by decide : (6 : Int32).toInt = 6) (rfl : y.toInt = y.toInt) c_5
          refine lv_iload_n hx hb dX10_way_25 rfl (lv_at hl 1 rfl) ?_
          refine lv_iload_n hx hb dX10_way_26 rfl (lv_at hl 2 rfl) ?_
          refine lv_icmp_eq (tgt := 40) hx hb dX10_way_27 (by decide) (fun c_6 => ?_) (fun c_6 => ?_)
          · have ic_6 := gz_eq (rfl : x.toInt = x.toInt) (rfl : y.toInt = y.toInt) c_6
            refine lv_iconst (v := 0) hx hb dX10_way_40 (by decide) ?_
            exact gs_iret hx hb hr hlocks hM hS (by decide) ⟨hB_st_1, (Or.inr (⟨rfl, (by have hl0 : (0 : Int32).toInt = 0 := (by decide); omega)⟩))⟩ (by exact Nat.le_refl _) (by exact Nat.le_refl _) dX10_way_41
          · have ic_6 := gz_ne (rfl : x.toInt = x.toInt) (rfl : y.toInt = y.toInt) c_6
            refine lv_iload_n hx hb dX10_way_30 rfl (lv_at hl 3 rfl) ?_
            refine lv_if_lt (tgt := 40) hx hb dX10_way_31 (by decide) (fun c_7 => ?_) (fun c_7 => ?_)
            · have ic_7 := gz_lt (rfl : w.toInt = w.toInt) (by decide : (0 : Int32).toInt = 0) c_7
              refine lv_iconst (v := 0) hx hb dX10_way_40 (by decide) ?_
              exact gs_iret hx hb hr hlocks hM hS (by decide) ⟨hB_st_1, (Or.inr (⟨rfl, (by have hl0 : (0 : Int32).toInt = 0 := (by decide); omega)⟩))⟩ (by exact Nat.le_refl _) (by exact Nat.le_refl _) dX10_way_41
            · have ic_7 := gz_nlt (rfl : w.toInt = w.toInt) (by decide : (0 : Int32).toInt = 0) c_7
              refine lv_iload_n hx hb dX10_way_34 rfl (lv_at hl 3 rfl) ?_
              refine lv_bipush (v := 9) hx hb dX10_way_35 (by decide) ?_
              refine lv_icmp_le (tgt := 42) hx hb dX10_way_37 (by decide) (fun c_8 => ?_) (fun c_8 => ?_)
              · have ic_8 := gz_le (rfl : w.toInt = w.toInt) (by decide : (9 : Int32).toInt = 9) c_8
                refine lv_aload_n hx hb dX10_way_42 rfl (lv_at hl 0 rfl) ?_
                refine gs_get (C := RX10) (T := TX10) (N := 59) hx hb hts inX10 hown hK hM 0 0 44 (by decide) rfl rfl (by decide) (hts _ gm_945) (fun _ h9 => h9) rfl dX10_way_43 ?_
                refine lv_bipush (v := 6) hx hb dX10_way_46 (by decide) ?_
                refine lv_iload_n hx hb dX10_way_48 rfl (lv_at hl 1 rfl) ?_
                refine lv_imul hx hb dX10_way_49 ?_
                refine lv_topi (fun x_9 ex_9 => ?_)
                try have tx_9 : x_9.toInt = 6 * x.toInt := by rw [ex_9]; exact gz_mulI (x := 6) (y := x.toInt) (by decide) rfl (by omega) (by omega)
                refine lv_iload_n hx hb dX10_way_50 rfl (lv_at hl 2 rfl) ?_
                refine lv_iadd hx hb dX10_way_51 ?_
                refine lv_topi (fun x_10 ex_10 => ?_)
                try have tx_10 : x_10.toInt = x_9.toInt + y.toInt := by rw [ex_10]; exact gz_addI (x := x_9.toInt) (y := y.toInt) rfl rfl (by omega) (by omega)
                refine lv_iload_n hx hb dX10_way_52 rfl (lv_at hl 3 rfl) ?_
                refine gs_iast hx hb hK hI hm hM hS 28 0 (by decide) (fun _ => rfl) (vp_in_iff.mpr ⟨by omega, by omega⟩) dX10_way_53 (fun st_11 H locs est_11 hM hS => ?_)
                have hB_st_11 : gBN bM kM [0, 2800] st st_11 := by rw [est_11]; exact hB_st_1.up (show (2800 : Nat) ∈ _ from by decide) (gi_lo _) (gi_hi _)
                refine lv_iconst (v := 1) hx hb dX10_way_54 (by decide) ?_
                exact gs_iret hx hb hr hlocks hM hS (by decide) ⟨hB_st_11, (Or.inl (⟨rfl, (by have hl0 : (1 : Int32).toInt = 1 := (by decide); omega)⟩))⟩ (by exact Nat.le_refl _) (by exact Nat.le_refl _) dX10_way_55
              · have ic_8 := gz_nle (rfl : w.toInt = w.toInt) (by decide : (9 : Int32).toInt = 9) c_8
                refine lv_iconst (v := 0) hx hb dX10_way_40 (by decide) ?_
                exact gs_iret hx hb hr hlocks hM hS (by decide) ⟨hB_st_1, (Or.inr (⟨rfl, (by have hl0 : (0 : Int32).toInt = 0 := (by decide); omega)⟩))⟩ (by exact Nat.le_refl _) (by exact Nat.le_refl _) dX10_way_41

set_option maxHeartbeats 4000000 in
set_option maxRecDepth 100000 in
/-- WellCourtModel.step -/
theorem m_step (l : Launch) (G : va_G) (cy : Nat → ClassId) (sK sV : Nat → Nat) (ad : Nat → Nat → Nat) (sz : Nat) (st : gS) (hB : gBd bM st) (x : Int32) (y : Int32) (Xx : Int) (Xy : Int) (kx : x.toInt = Xx) (ky : y.toInt = Xy) : gsMi l yX10_step cX10_step 3 (some .int) ({ frames := 0, cells := 0, slots := 0, locals := 0 } : Room) G cy sK sV (shM cy ad) cnM ad sz [.ref (ad 0 0), .int x, .int y] st (fun (r : Int32) (u : gS) => gBN bM kM [0] st u ∧ (True)) := by
  refine gs_start (fun A => gsQi G (shM cy ad) cnM ad _ A) (by decide) (Nat.le_of_ble_eq_true rfl) ?_
  intro p e s m below meth c A ls H hx hb hr hml hlocks hown hts hK hov hE hI hM hm hS hA hl
  have hl : lv_has ls 3 [(0, .ref (ad 0 0)), (1, .int x), (2, .int y)] := hl
  have hB_st : gBN bM kM [0] st st := gBN.rf hB
  refine lv_aload_n hx hb dX10_step_0 rfl (lv_at hl 0 rfl) ?_
  refine lv_iconst (v := 0) hx hb dX10_step_1 (by decide) ?_
  refine gs_put (C := RX10) (T := TX10) (N := 59) (ty := .int) (val := .int 0) hx hb hts inX10 tyX10 tyX10_ok nmX10 hown hK hI hm hM hS 0 0 0 (by decide) rfl rfl (by decide) (hts _ gm_901) (fun _ h9 => h9) rfl (0 : Int32) rfl (by decide +kernel) rfl rfl (Nat.le_of_ble_eq_true rfl) dX10_step_2 (fun st_1 H locs est_1 hM hS => ?_)
  have hB_st_1 : gBN bM kM [0] st st_1 := by rw [est_1]; exact hB_st.up (show (0 : Nat) ∈ _ from by decide) (gi_lo _) (gi_hi _)
  refine lv_iload_n hx hb dX10_step_5 rfl (lv_at hl 1 rfl) ?_
  refine lv_if_lt (tgt := 51) hx hb dX10_step_6 (by decide) (fun c_2 => ?_) (fun c_2 => ?_)
  · have ic_2 := gz_lt (rfl : x.toInt = x.toInt) (by decide : (0 : Int32).toInt = 0) c_2
    refine lv_iconst (v := (-1)) hx hb dX10_step_51 (by decide) ?_
    exact gs_iret hx hb hr hlocks hM hS rfl ⟨hB_st_1, trivial⟩ (by exact Nat.le_refl _) (by exact Nat.le_refl _) dX10_step_52
  · have ic_2 := gz_nlt (rfl : x.toInt = x.toInt) (by decide : (0 : Int32).toInt = 0) c_2
    refine lv_iload_n hx hb dX10_step_9 rfl (lv_at hl 1 rfl) ?_
    refine lv_iconst (v := 4) hx hb dX10_step_10 (by decide) ?_
    refine lv_icmp_ge (tgt := 51) hx hb dX10_step_11 (by decide) (fun c_3 => ?_) (fun c_3 => ?_)
    · have ic_3 := gz_le (by decide : (4 : Int32).toInt = 4) (rfl : x.toInt = x.toInt) c_3
      refine lv_iconst (v := (-1)) hx hb dX10_step_51 (by decide) ?_
      exact gs_iret hx hb hr hlocks hM hS rfl ⟨hB_st_1, trivial⟩ (by exact Nat.le_refl _) (by exact Nat.le_refl _) dX10_step_52
    · have ic_3 := gz_nle (by decide : (4 : Int32).toInt = 4) (rfl : x.toInt = x.toInt) c_3
      refine lv_aload_n hx hb dX10_step_14 rfl (lv_at hl 0 rfl) ?_
      refine gs_get (C := RX10) (T := TX10) (N := 59) hx hb hts inX10 hown hK hM 0 0 55 (by decide) rfl rfl (by decide) (hts _ gm_956) (fun _ h9 => h9) rfl dX10_step_15 ?_
      refine lv_topi (fun x_4 ex_4 => ?_)
      have ex_4 : (st 0 0 55) = x_4 := Eq.symm (ex_4.trans ((congrFun (congrFun (congrFun est_1 0) 0) 55).trans (gU_other (by decide))))
      subst ex_4
      have bf_5 : (-1 : Int) ≤ (st 0 0 55).toInt ∧ (st 0 0 55).toInt ≤ (199 : Int) := hB_st.1 0 0 55
      refine lv_if_lt (tgt := 51) hx hb dX10_step_18 (by decide) (fun c_6 => ?_) (fun c_6 => ?_)
      · have ic_6 := gz_lt (rfl : (st 0 0 55).toInt = (st 0 0 55).toInt) (by decide : (0 : Int32).toInt = 0) c_6
        refine lv_iconst (v := (-1)) hx hb dX10_step_51 (by decide) ?_
        exact gs_iret hx hb hr hlocks hM hS rfl ⟨hB_st_1, trivial⟩ (by exact Nat.le_refl _) (by exact Nat.le_refl _) dX10_step_52
      · have ic_6 := gz_nlt (rfl : (st 0 0 55).toInt = (st 0 0 55).toInt) (by decide : (0 : Int32).toInt = 0) c_6
        refine lv_aload_n hx hb dX10_step_21 rfl (lv_at hl 0 rfl) ?_
        refine gs_get (C := RX10) (T := TX10) (N := 59) hx hb hts inX10 hown hK hM 0 0 54 (by decide) rfl rfl (by decide) (hts _ gm_955) (fun _ h9 => h9) rfl dX10_step_22 ?_
        refine lv_iload_n hx hb dX10_step_25 rfl (lv_at hl 1 rfl) ?_
        refine gs_zald hx hb hK hM 38 0 (by decide) rfl (vp_in_iff.mpr ⟨by omega, by omega⟩) dX10_step_26 ?_
        refine lv_topi (fun x_7 ex_7 => ?_)
        have qx_7 : x_7.toInt = (st_1 38 0 (x.toNatClampNeg)).toInt := congrArg Int32.toInt ex_7
        have rx_7 : x_7.toInt = ((st 38 0 (x.toNatClampNeg)) : Int32).toInt := by rw [ex_7]; exact congrArg Int32.toInt (((congrFun (congrFun (congrFun est_1 38) 0) (x.toNatClampNeg)).trans (congrFun (congrFun (gU_k (by decide)) 0) (x.toNatClampNeg))))
        refine lv_if_eq (tgt := 51) hx hb dX10_step_27 (by decide) (fun c_8 => ?_) (fun c_8 => ?_)
        · have ic_8 := gz_eq (rfl : x_7.toInt = x_7.toInt) (by decide : (0 : Int32).toInt = 0) c_8
          refine lv_iconst (v := (-1)) hx hb dX10_step_51 (by decide) ?_
          exact gs_iret hx hb hr hlocks hM hS rfl ⟨hB_st_1, trivial⟩ (by exact Nat.le_refl _) (by exact Nat.le_refl _) dX10_step_52
        · have ic_8 := gz_ne (rfl : x_7.toInt = x_7.toInt) (by decide : (0 : Int32).toInt = 0) c_8
          refine lv_iload_n hx hb dX10_step_30 rfl (lv_at hl 2 rfl) ?_
          refine lv_aload_n hx hb dX10_step_31 rfl (lv_at hl 0 rfl) ?_
          refine gs_get (C := RX10) (T := TX10) (N := 59) hx hb hts inX10 hown hK hM 0 0 55 (by decide) rfl rfl (by decide) (hts _ gm_956) (fun _ h9 => h9) rfl dX10_step_32 ?_
          refine lv_topi (fun x_9 ex_9 => ?_)
          have ex_9 : (st 0 0 55) = x_9 := Eq.symm (ex_9.trans ((congrFun (congrFun (congrFun est_1 0) 0) 55).trans (gU_other (by decide))))
          subst ex_9
          have bf_10 : (-1 : Int) ≤ (st 0 0 55).toInt ∧ (st 0 0 55).toInt ≤ (199 : Int) := hB_st.1 0 0 55
          refine lv_icmp_lt (tgt := 51) hx hb dX10_step_35 (by decide) (fun c_11 => ?_) (fun c_11 => ?_)
          · have ic_11 := gz_lt (rfl : y.toInt = y.toInt) (rfl : (st 0 0 55).toInt = (st 0 0 55).toInt) c_11
            have lc_11 := gi_hi (st 0 0 55)
            refine lv_iconst (v := (-1)) hx hb dX10_step_51 (by decide) ?_
            exact gs_iret hx hb hr hlocks hM hS rfl ⟨hB_st_1, trivial⟩ (by exact Nat.le_refl _) (by exact Nat.le_refl _) dX10_step_52
          · have ic_11 := gz_nlt (rfl : y.toInt = y.toInt) (rfl : (st 0 0 55).toInt = (st 0 0 55).toInt) c_11
            refine lv_iload_n hx hb dX10_step_38 rfl (lv_at hl 2 rfl) ?_
            refine lv_aload_n hx hb dX10_step_39 rfl (lv_at hl 0 rfl) ?_
            refine gs_get (C := RX10) (T := TX10) (N := 59) hx hb hts inX10 hown hK hM 0 0 55 (by decide) rfl rfl (by decide) (hts _ gm_956) (fun _ h9 => h9) rfl dX10_step_40 ?_
            refine lv_topi (fun x_12 ex_12 => ?_)
            have ex_12 : (st 0 0 55) = x_12 := Eq.symm (ex_12.trans ((congrFun (congrFun (congrFun est_1 0) 0) 55).trans (gU_other (by decide))))
            subst ex_12
            have bf_13 : (-1 : Int) ≤ (st 0 0 55).toInt ∧ (st 0 0 55).toInt ≤ (199 : Int) := hB_st.1 0 0 55
            refine lv_aload_n hx hb dX10_step_43 rfl (lv_at hl 0 rfl) ?_
            refine gs_get (C := RX10) (T := TX10) (N := 59) hx hb hts inX10 hown hK hM 0 0 56 (by decide) rfl rfl (by decide) (hts _ gm_957) (fun _ h9 => h9) rfl dX10_step_44 ?_
            refine lv_topi (fun x_14 ex_14 => ?_)
            have ex_14 : (st 0 0 56) = x_14 := Eq.symm (ex_14.trans ((congrFun (congrFun (congrFun est_1 0) 0) 56).trans (gU_other (by decide))))
            subst ex_14
            have bf_15 : (0 : Int) ≤ (st 0 0 56).toInt ∧ (st 0 0 56).toInt ≤ (14 : Int) := hB_st.1 0 0 56
            refine lv_iadd hx hb dX10_step_47 ?_
            refine lv_topi (fun x_16 ex_16 => ?_)
            try have tx_16 : x_16.toInt = (st 0 0 55).toInt + (st 0 0 56).toInt := by rw [ex_16]; exact gz_addI (x := (st 0 0 55).toInt) (y := (st 0 0 56).toInt) rfl rfl (by omega) (by omega)
            refine lv_icmp_lt (tgt := 53) hx hb dX10_step_48 (by decide) (fun c_17 => ?_) (fun c_17 => ?_)
            · have ic_17 := gz_lt (rfl : y.toInt = y.toInt) (rfl : x_16.toInt = x_16.toInt) c_17
              have lc_17 := gi_hi x_16
              refine lv_aload_n hx hb dX10_step_53 rfl (lv_at hl 0 rfl) ?_
              refine gs_get (C := RX10) (T := TX10) (N := 59) hx hb hts inX10 hown hK hM 0 0 53 (by decide) rfl rfl (by decide) (hts _ gm_954) (fun _ h9 => h9) rfl dX10_step_54 ?_
              refine lv_iconst (v := 4) hx hb dX10_step_57 (by decide) ?_
              refine lv_iload_n hx hb dX10_step_58 rfl (lv_at hl 2 rfl) ?_
              refine lv_aload_n hx hb dX10_step_59 rfl (lv_at hl 0 rfl) ?_
              refine gs_get (C := RX10) (T := TX10) (N := 59) hx hb hts inX10 hown hK hM 0 0 55 (by decide) rfl rfl (by decide) (hts _ gm_956) (fun _ h9 => h9) rfl dX10_step_60 ?_
              refine lv_topi (fun x_18 ex_18 => ?_)
              have ex_18 : (st 0 0 55) = x_18 := Eq.symm (ex_18.trans ((congrFun (congrFun (congrFun est_1 0) 0) 55).trans (gU_other (by decide))))
              subst ex_18
              have bf_19 : (-1 : Int) ≤ (st 0 0 55).toInt ∧ (st 0 0 55).toInt ≤ (199 : Int) := hB_st.1 0 0 55
              refine lv_isub hx hb dX10_step_63 ?_
              refine lv_topi (fun x_20 ex_20 => ?_)
              try have tx_20 : x_20.toInt = y.toInt - (st 0 0 55).toInt := by rw [ex_20]; exact gz_subI (x := y.toInt) (y := (st 0 0 55).toInt) rfl rfl (by omega) (by omega)
              refine lv_imul hx hb dX10_step_64 ?_
              refine lv_topi (fun x_21 ex_21 => ?_)
              try have tx_21 : x_21.toInt = 4 * x_20.toInt := by rw [ex_21]; exact gz_mulI (x := 4) (y := x_20.toInt) (by decide) rfl (by omega) (by omega)
              refine lv_iload_n hx hb dX10_step_65 rfl (lv_at hl 1 rfl) ?_
              refine lv_iadd hx hb dX10_step_66 ?_
              refine lv_topi (fun x_22 ex_22 => ?_)
              try have tx_22 : x_22.toInt = x_21.toInt + x.toInt := by rw [ex_22]; exact gz_addI (x := x_21.toInt) (y := x.toInt) rfl rfl (by omega) (by omega)
              refine gs_iald hx hb hK hM 37 0 (by decide) rfl (vp_in_iff.mpr ⟨by omega, by omega⟩) dX10_step_67 ?_
              refine lv_topi (fun x_23 ex_23 => ?_)
              have qx_23 : x_23.toInt = (st_1 37 0 (x_22.toNatClampNeg)).toInt := congrArg Int32.toInt ex_23
              have rx_23 : x_23.toInt = ((st 37 0 (x_22.toNatClampNeg)) : Int32).toInt := by rw [ex_23]; exact congrArg Int32.toInt (((congrFun (congrFun (congrFun est_1 37) 0) (x_22.toNatClampNeg)).trans (congrFun (congrFun (gU_k (by decide)) 0) (x_22.toNatClampNeg))))
              exact gs_iret hx hb hr hlocks hM hS rfl ⟨hB_st_1, trivial⟩ (by exact Nat.le_refl _) (by exact Nat.le_refl _) dX10_step_68
            · have ic_17 := gz_nlt (rfl : y.toInt = y.toInt) (rfl : x_16.toInt = x_16.toInt) c_17
              refine lv_iconst (v := (-1)) hx hb dX10_step_51 (by decide) ?_
              exact gs_iret hx hb hr hlocks hM hS rfl ⟨hB_st_1, trivial⟩ (by exact Nat.le_refl _) (by exact Nat.le_refl _) dX10_step_52

set_option maxHeartbeats 4000000 in
set_option maxRecDepth 100000 in
/-- WellCourtModel.far -/
theorem m_far (l : Launch) (G : va_G) (cy : Nat → ClassId) (sK sV : Nat → Nat) (ad : Nat → Nat → Nat) (sz : Nat) (st : gS) (hB : gBd bM st) : gsMi l yX10_far cX10_far 1 (some .int) ({ frames := 0, cells := 0, slots := 0, locals := 0 } : Room) G cy sK sV (shM cy ad) cnM ad sz [.ref (ad 0 0)] st (fun (r : Int32) (u : gS) => gBN bM kM [0] st u ∧ (True)) := by
  refine gs_start (fun A => gsQi G (shM cy ad) cnM ad _ A) (by decide) (Nat.le_of_ble_eq_true rfl) ?_
  intro p e s m below meth c A ls H hx hb hr hml hlocks hown hts hK hov hE hI hM hm hS hA hl
  have hl : lv_has ls 1 [(0, .ref (ad 0 0))] := hl
  have hB_st : gBN bM kM [0] st st := gBN.rf hB
  refine lv_aload_n hx hb dX10_far_0 rfl (lv_at hl 0 rfl) ?_
  refine lv_iconst (v := 0) hx hb dX10_far_1 (by decide) ?_
  refine gs_put (C := RX10) (T := TX10) (N := 59) (ty := .int) (val := .int 0) hx hb hts inX10 tyX10 tyX10_ok nmX10 hown hK hI hm hM hS 0 0 0 (by decide) rfl rfl (by decide) (hts _ gm_901) (fun _ h9 => h9) rfl (0 : Int32) rfl (by decide +kernel) rfl rfl (Nat.le_of_ble_eq_true rfl) dX10_far_2 (fun st_1 H locs est_1 hM hS => ?_)
  have hB_st_1 : gBN bM kM [0] st st_1 := by rw [est_1]; exact hB_st.up (show (0 : Nat) ∈ _ from by decide) (gi_lo _) (gi_hi _)
  refine lv_aload_n hx hb dX10_far_5 rfl (lv_at hl 0 rfl) ?_
  refine gs_get (C := RX10) (T := TX10) (N := 59) hx hb hts inX10 hown hK hM 0 0 58 (by decide) rfl rfl (by decide) (hts _ gm_959) (fun _ h9 => h9) rfl dX10_far_6 ?_
  refine lv_topi (fun x_2 ex_2 => ?_)
  have ex_2 : (st 0 0 58) = x_2 := Eq.symm (ex_2.trans ((congrFun (congrFun (congrFun est_1 0) 0) 58).trans (gU_other (by decide))))
  subst ex_2
  exact gs_iret hx hb hr hlocks hM hS rfl ⟨hB_st_1, trivial⟩ (by exact Nat.le_refl _) (by exact Nat.le_refl _) dX10_far_9

set_option maxHeartbeats 4000000 in
set_option maxRecDepth 100000 in
/-- WellCourtModel.count -/
theorem m_count (l : Launch) (G : va_G) (cy : Nat → ClassId) (sK sV : Nat → Nat) (ad : Nat → Nat → Nat) (sz : Nat) (st : gS) (hB : gBd bM st) (x : Int32) (Xx : Int) (kx : x.toInt = Xx) : gsMi l yX10_count cX10_count 4 (some .int) ({ frames := 0, cells := 0, slots := 0, locals := 0 } : Room) G cy sK sV (shM cy ad) cnM ad sz [.ref (ad 0 0), .int x] st (fun (r : Int32) (u : gS) => gBN bM kM [0] st u ∧ (True)) := by
  refine gs_start (fun A => gsQi G (shM cy ad) cnM ad _ A) (by decide) (Nat.le_of_ble_eq_true rfl) ?_
  intro p e s m below meth c A ls H hx hb hr hml hlocks hown hts hK hov hE hI hM hm hS hA hl
  have hl : lv_has ls 4 [(0, .ref (ad 0 0)), (1, .int x)] := hl
  have hB_st : gBN bM kM [0] st st := gBN.rf hB
  generalize hQe : MQ below _ _ s _ _ A = Q
  refine lv_aload_n hx hb dX10_count_0 rfl (lv_at hl 0 rfl) ?_
  refine lv_iconst (v := 0) hx hb dX10_count_1 (by decide) ?_
  refine gs_put (C := RX10) (T := TX10) (N := 59) (ty := .int) (val := .int 0) hx hb hts inX10 tyX10 tyX10_ok nmX10 hown hK hI hm hM hS 0 0 0 (by decide) rfl rfl (by decide) (hts _ gm_901) (fun _ h9 => h9) rfl (0 : Int32) rfl (by decide +kernel) rfl rfl (Nat.le_of_ble_eq_true rfl) dX10_count_2 (fun st_1 H locs est_1 hM hS => ?_)
  have hB_st_1 : gBN bM kM [0] st st_1 := by rw [est_1]; exact hB_st.up (show (0 : Nat) ∈ _ from by decide) (gi_lo _) (gi_hi _)
  refine lv_iconst (v := 0) hx hb dX10_count_5 (by decide) ?_
  refine lv_istore_n (lv' := [(2, .int 0), (0, .ref (ad 0 0)), (1, .int x)]) hx hb dX10_count_6 rfl hl (by decide) rfl (fun ls hl => ?_)
  refine lv_iload_n hx hb dX10_count_7 rfl (lv_at hl 2 rfl) ?_
  rcases (show x.toInt < 0 ∨ 6 < x.toInt ∨ x.toInt = 0 ∨ x.toInt = 1 ∨ x.toInt = 2 ∨ x.toInt = 3 ∨ x.toInt = 4 ∨ x.toInt = 5 ∨ x.toInt = 6 by omega) with h_2 | h_2 | h_2 | h_2 | h_2 | h_2 | h_2 | h_2 | h_2
  · refine lv_tableOut (tgt := 142) hx hb dX10_count_8 (Or.inl h_2) (by decide) ?_
    refine lv_iconst (v := (-1)) hx hb dX10_count_142 (by decide) ?_
    rw [← hQe]
    exact gs_iret hx hb hr hlocks hM hS rfl ⟨hB_st_1, trivial⟩ (by exact Nat.le_refl _) (by exact Nat.le_refl _) dX10_count_143
  · refine lv_tableOut (tgt := 142) hx hb dX10_count_8 (Or.inr h_2) (by decide) ?_
    refine lv_iconst (v := (-1)) hx hb dX10_count_142 (by decide) ?_
    rw [← hQe]
    exact gs_iret hx hb hr hlocks hM hS rfl ⟨hB_st_1, trivial⟩ (by exact Nat.le_refl _) (by exact Nat.le_refl _) dX10_count_143
  · refine lv_tableIn (tgt := 52) hx hb dX10_count_8 (by omega) (by omega) (by rw [h_2]; rfl) (by decide) ?_
    refine lv_aload_n hx hb dX10_count_52 rfl (lv_at hl 1 rfl) ?_
    refine gs_get (C := RX10) (T := TX10) (N := 59) hx hb hts inX10 hown hK hM 0 0 7 (by decide) rfl rfl (by decide) (hts _ gm_908) (fun _ h9 => h9) rfl dX10_count_53 ?_
    refine lv_topi (fun x_3 ex_3 => ?_)
    have ex_3 : (st 0 0 7) = x_3 := Eq.symm (ex_3.trans ((congrFun (congrFun (congrFun est_1 0) 0) 7).trans (gU_other (by decide))))
    subst ex_3
    have bf_4 : (0 : Int) ≤ (st 0 0 7).toInt ∧ (st 0 0 7).toInt ≤ (199 : Int) := hB_st.1 0 0 7
    rw [← hQe]
    exact gs_iret hx hb hr hlocks hM hS rfl ⟨hB_st_1, trivial⟩ (by exact Nat.le_refl _) (by exact Nat.le_refl _) dX10_count_56
  · refine lv_tableIn (tgt := 57) hx hb dX10_count_8 (by omega) (by omega) (by rw [h_2]; rfl) (by decide) ?_
    refine lv_iconst (v := 0) hx hb dX10_count_57 (by decide) ?_
    refine lv_istore_n (lv' := [(3, .int 0), (2, .int 0), (0, .ref (ad 0 0)), (1, .int x)]) hx hb dX10_count_58 rfl hl (by decide) rfl (fun ls hl => ?_)
    have lp5 : ∀ (n5 : Nat) (sv5 : gS) (y5_0 : Int32) (y5_1 : Int32) (H : Heap) (locs : List Loc) (ls : Array Slot), (6 - y5_1.toInt).toNat < n5 → gBN bM kM [0] st sv5 → (0 ≤ y5_1.toInt) → gM G (shM cy ad) cnM ad sv5 H → va_S A s.heap H locs → lv_has ls 4 [(3, .int y5_1), (2, .int y5_0), (0, .ref (ad 0 0)), (1, .int x)] → W p l e ({ frames := 0, cells := 0, slots := 0, locals := 0 } : Room) s m [.ref (ad 0 0), .int x].toArray below meth c H locs 0 0 Q (F0 m 59 ls []) := by
      intro n5
      induction n5 with
      | zero => intro sv5 y5_0 y5_1 H locs ls h9; exact absurd h9 (Nat.not_lt_zero _)
      | succ n5 ih_5 =>
        intro sv5 y5_0 y5_1 H locs ls hme5 hB_sv5 hv5_0 hM hS hl
        refine lv_iload_n hx hb dX10_count_59 rfl (lv_at hl 0 rfl) ?_
        refine lv_bipush (v := 6) hx hb dX10_count_60 (by decide) ?_
        refine lv_icmp_ge (tgt := 88) hx hb dX10_count_62 (by decide) (fun c_6 => ?_) (fun c_6 => ?_)
        · have ic_6 := gz_le (by decide : (6 : Int32).toInt = 6) (rfl : y5_1.toInt = y5_1.toInt) c_6
          refine lv_iload_n hx hb dX10_count_88 rfl (lv_at hl 1 rfl) ?_
          rw [← hQe]
          exact gs_iret hx hb hr hlocks hM hS rfl ⟨hB_sv5, trivial⟩ (by exact Nat.le_refl _) (by exact Nat.le_refl _) dX10_count_89
        · have ic_6 := gz_nle (by decide : (6 : Int32).toInt = 6) (rfl : y5_1.toInt = y5_1.toInt) c_6
          refine lv_iload_n hx hb dX10_count_65 rfl (lv_at hl 1 rfl) ?_
          refine lv_aload_n hx hb dX10_count_66 rfl (lv_at hl 2 rfl) ?_
          refine gs_get (C := RX10) (T := TX10) (N := 59) hx hb hts inX10 hown hK hM 0 0 1 (by decide) rfl rfl (by decide) (hts _ gm_902) (fun _ h9 => h9) rfl dX10_count_67 ?_
          refine lv_iload_n hx hb dX10_count_70 rfl (lv_at hl 0 rfl) ?_
          refine gs_zald hx hb hK hM 1 0 (by decide) rfl (vp_in_iff.mpr ⟨by omega, by omega⟩) dX10_count_71 ?_
          refine lv_topi (fun x_7 ex_7 => ?_)
          have qx_7 : x_7.toInt = (sv5 1 0 (y5_1.toNatClampNeg)).toInt := congrArg Int32.toInt ex_7
          have rx_7 : x_7.toInt = ((st 1 0 (y5_1.toNatClampNeg)) : Int32).toInt := by rw [ex_7]; exact congrArg Int32.toInt ((hB_sv5.2 1 0 (y5_1.toNatClampNeg) (show (100 : Nat) ∉ _ from by decide)))
          refine lv_if_eq (tgt := 79) hx hb dX10_count_72 (by decide) (fun c_8 => ?_) (fun c_8 => ?_)
          · have ic_8 := gz_eq (rfl : x_7.toInt = x_7.toInt) (by decide : (0 : Int32).toInt = 0) c_8
            refine lv_iconst (v := 0) hx hb dX10_count_79 (by decide) ?_
            refine lv_iadd hx hb dX10_count_80 ?_
            refine lv_topi (fun x_9 ex_9 => ?_)
            refine lv_istore_n (lv' := [(2, .int x_9), (3, .int y5_1), (0, .ref (ad 0 0)), (1, .int x)]) hx hb dX10_count_81 rfl hl (by decide) rfl (fun ls hl => ?_)
            obtain ⟨x_10, ex_10⟩ : ∃ y : Int32, y = y5_1 + 1 := ⟨_, rfl⟩
            try have tx_10 : x_10.toInt = y5_1.toInt + 1 := by rw [ex_10]; exact gz_addP (x := y5_1.toInt) (y := 1) rfl (by decide) (by omega) (by omega)
            refine lv_iinc (v := (x_10)) (lv' := [(3, .int x_10), (2, .int x_9), (0, .ref (ad 0 0)), (1, .int x)]) hx hb dX10_count_82 hl (k := 1) rfl (by rw [ex_10]; rfl) (by decide) rfl (fun ls hl => ?_)
            refine lv_goto (tgt := 59) hx hb dX10_count_85 (by decide) ?_
            exact ih_5 sv5 (x_9 : Int32) (x_10 : Int32) H _ ls (by omega) hB_sv5 (by omega) hM hS (lv_sub hl [0, 1, 2, 3] rfl)
          · have ic_8 := gz_ne (rfl : x_7.toInt = x_7.toInt) (by decide : (0 : Int32).toInt = 0) c_8
            refine lv_iconst (v := 1) hx hb dX10_count_75 (by decide) ?_
            refine lv_goto (tgt := 80) hx hb dX10_count_76 (by decide) ?_
            refine lv_iadd hx hb dX10_count_80 ?_
            refine lv_topi (fun x_11 ex_11 => ?_)
            refine lv_istore_n (lv' := [(2, .int x_11), (3, .int y5_1), (0, .ref (ad 0 0)), (1, .int x)]) hx hb dX10_count_81 rfl hl (by decide) rfl (fun ls hl => ?_)
            obtain ⟨x_12, ex_12⟩ : ∃ y : Int32, y = y5_1 + 1 := ⟨_, rfl⟩
            try have tx_12 : x_12.toInt = y5_1.toInt + 1 := by rw [ex_12]; exact gz_addP (x := y5_1.toInt) (y := 1) rfl (by decide) (by omega) (by omega)
            refine lv_iinc (v := (x_12)) (lv' := [(3, .int x_12), (2, .int x_11), (0, .ref (ad 0 0)), (1, .int x)]) hx hb dX10_count_82 hl (k := 1) rfl (by rw [ex_12]; rfl) (by decide) rfl (fun ls hl => ?_)
            refine lv_goto (tgt := 59) hx hb dX10_count_85 (by decide) ?_
            exact ih_5 sv5 (x_11 : Int32) (x_12 : Int32) H _ ls (by omega) hB_sv5 (by omega) hM hS (lv_sub hl [0, 1, 2, 3] rfl)
    exact lp5 ((6 - ((0 : Int32) : Int32).toInt).toNat + 1) st_1 ((0 : Int32) : Int32) ((0 : Int32) : Int32) H _ ls (Nat.lt_succ_self _) hB_st_1 (by have hl0 : (0 : Int32).toInt = 0 := (by decide); have hl1 : (0 : Int32).toInt = 0 := (by decide); omega) hM hS (lv_sub hl [0, 1, 2, 3] rfl)
  · refine lv_tableIn (tgt := 90) hx hb dX10_count_8 (by omega) (by omega) (by rw [h_2]; rfl) (by decide) ?_
    refine lv_aload_n hx hb dX10_count_90 rfl (lv_at hl 1 rfl) ?_
    refine gs_get (C := RX10) (T := TX10) (N := 59) hx hb hts inX10 hown hK hM 0 0 29 (by decide) rfl rfl (by decide) (hts _ gm_930) (fun _ h9 => h9) rfl dX10_count_91 ?_
    refine lv_topi (fun x_13 ex_13 => ?_)
    have ex_13 : (st 0 0 29) = x_13 := Eq.symm (ex_13.trans ((congrFun (congrFun (congrFun est_1 0) 0) 29).trans (gU_other (by decide))))
    subst ex_13
    have bf_14 : (0 : Int) ≤ (st 0 0 29).toInt ∧ (st 0 0 29).toInt ≤ (20 : Int) := hB_st.1 0 0 29
    rw [← hQe]
    exact gs_iret hx hb hr hlocks hM hS rfl ⟨hB_st_1, trivial⟩ (by exact Nat.le_refl _) (by exact Nat.le_refl _) dX10_count_94
  · refine lv_tableIn (tgt := 95) hx hb dX10_count_8 (by omega) (by omega) (by rw [h_2]; rfl) (by decide) ?_
    refine lv_iconst (v := 0) hx hb dX10_count_95 (by decide) ?_
    refine lv_istore_n (lv' := [(3, .int 0), (2, .int 0), (0, .ref (ad 0 0)), (1, .int x)]) hx hb dX10_count_96 rfl hl (by decide) rfl (fun ls hl => ?_)
    have lp15 : ∀ (n15 : Nat) (sv15 : gS) (y15_0 : Int32) (y15_1 : Int32) (H : Heap) (locs : List Loc) (ls : Array Slot), (4 - y15_1.toInt).toNat < n15 → gBN bM kM [0] st sv15 → (0 ≤ y15_1.toInt) → gM G (shM cy ad) cnM ad sv15 H → va_S A s.heap H locs → lv_has ls 4 [(3, .int y15_1), (2, .int y15_0), (0, .ref (ad 0 0)), (1, .int x)] → W p l e ({ frames := 0, cells := 0, slots := 0, locals := 0 } : Room) s m [.ref (ad 0 0), .int x].toArray below meth c H locs 0 0 Q (F0 m 97 ls []) := by
      intro n15
      induction n15 with
      | zero => intro sv15 y15_0 y15_1 H locs ls h9; exact absurd h9 (Nat.not_lt_zero _)
      | succ n15 ih_15 =>
        intro sv15 y15_0 y15_1 H locs ls hme15 hB_sv15 hv15_0 hM hS hl
        refine lv_iload_n hx hb dX10_count_97 rfl (lv_at hl 0 rfl) ?_
        refine lv_iconst (v := 4) hx hb dX10_count_98 (by decide) ?_
        refine lv_icmp_ge (tgt := 125) hx hb dX10_count_99 (by decide) (fun c_16 => ?_) (fun c_16 => ?_)
        · have ic_16 := gz_le (by decide : (4 : Int32).toInt = 4) (rfl : y15_1.toInt = y15_1.toInt) c_16
          refine lv_iload_n hx hb dX10_count_125 rfl (lv_at hl 1 rfl) ?_
          rw [← hQe]
          exact gs_iret hx hb hr hlocks hM hS rfl ⟨hB_sv15, trivial⟩ (by exact Nat.le_refl _) (by exact Nat.le_refl _) dX10_count_126
        · have ic_16 := gz_nle (by decide : (4 : Int32).toInt = 4) (rfl : y15_1.toInt = y15_1.toInt) c_16
          refine lv_iload_n hx hb dX10_count_102 rfl (lv_at hl 1 rfl) ?_
          refine lv_aload_n hx hb dX10_count_103 rfl (lv_at hl 2 rfl) ?_
          refine gs_get (C := RX10) (T := TX10) (N := 59) hx hb hts inX10 hown hK hM 0 0 38 (by decide) rfl rfl (by decide) (hts _ gm_939) (fun _ h9 => h9) rfl dX10_count_104 ?_
          refine lv_iload_n hx hb dX10_count_107 rfl (lv_at hl 0 rfl) ?_
          refine gs_zald hx hb hK hM 22 0 (by decide) rfl (vp_in_iff.mpr ⟨by omega, by omega⟩) dX10_count_108 ?_
          refine lv_topi (fun x_17 ex_17 => ?_)
          have qx_17 : x_17.toInt = (sv15 22 0 (y15_1.toNatClampNeg)).toInt := congrArg Int32.toInt ex_17
          have rx_17 : x_17.toInt = ((st 22 0 (y15_1.toNatClampNeg)) : Int32).toInt := by rw [ex_17]; exact congrArg Int32.toInt ((hB_sv15.2 22 0 (y15_1.toNatClampNeg) (show (2200 : Nat) ∉ _ from by decide)))
          refine lv_if_eq (tgt := 116) hx hb dX10_count_109 (by decide) (fun c_18 => ?_) (fun c_18 => ?_)
          · have ic_18 := gz_eq (rfl : x_17.toInt = x_17.toInt) (by decide : (0 : Int32).toInt = 0) c_18
            refine lv_iconst (v := 0) hx hb dX10_count_116 (by decide) ?_
            refine lv_iadd hx hb dX10_count_117 ?_
            refine lv_topi (fun x_19 ex_19 => ?_)
            refine lv_istore_n (lv' := [(2, .int x_19), (3, .int y15_1), (0, .ref (ad 0 0)), (1, .int x)]) hx hb dX10_count_118 rfl hl (by decide) rfl (fun ls hl => ?_)
            obtain ⟨x_20, ex_20⟩ : ∃ y : Int32, y = y15_1 + 1 := ⟨_, rfl⟩
            try have tx_20 : x_20.toInt = y15_1.toInt + 1 := by rw [ex_20]; exact gz_addP (x := y15_1.toInt) (y := 1) rfl (by decide) (by omega) (by omega)
            refine lv_iinc (v := (x_20)) (lv' := [(3, .int x_20), (2, .int x_19), (0, .ref (ad 0 0)), (1, .int x)]) hx hb dX10_count_119 hl (k := 1) rfl (by rw [ex_20]; rfl) (by decide) rfl (fun ls hl => ?_)
            refine lv_goto (tgt := 97) hx hb dX10_count_122 (by decide) ?_
            exact ih_15 sv15 (x_19 : Int32) (x_20 : Int32) H _ ls (by omega) hB_sv15 (by omega) hM hS (lv_sub hl [0, 1, 2, 3] rfl)
          · have ic_18 := gz_ne (rfl : x_17.toInt = x_17.toInt) (by decide : (0 : Int32).toInt = 0) c_18
            refine lv_iconst (v := 1) hx hb dX10_count_112 (by decide) ?_
            refine lv_goto (tgt := 117) hx hb dX10_count_113 (by decide) ?_
            refine lv_iadd hx hb dX10_count_117 ?_
            refine lv_topi (fun x_21 ex_21 => ?_)
            refine lv_istore_n (lv' := [(2, .int x_21), (3, .int y15_1), (0, .ref (ad 0 0)), (1, .int x)]) hx hb dX10_count_118 rfl hl (by decide) rfl (fun ls hl => ?_)
            obtain ⟨x_22, ex_22⟩ : ∃ y : Int32, y = y15_1 + 1 := ⟨_, rfl⟩
            try have tx_22 : x_22.toInt = y15_1.toInt + 1 := by rw [ex_22]; exact gz_addP (x := y15_1.toInt) (y := 1) rfl (by decide) (by omega) (by omega)
            refine lv_iinc (v := (x_22)) (lv' := [(3, .int x_22), (2, .int x_21), (0, .ref (ad 0 0)), (1, .int x)]) hx hb dX10_count_119 hl (k := 1) rfl (by rw [ex_22]; rfl) (by decide) rfl (fun ls hl => ?_)
            refine lv_goto (tgt := 97) hx hb dX10_count_122 (by decide) ?_
            exact ih_15 sv15 (x_21 : Int32) (x_22 : Int32) H _ ls (by omega) hB_sv15 (by omega) hM hS (lv_sub hl [0, 1, 2, 3] rfl)
    exact lp15 ((4 - ((0 : Int32) : Int32).toInt).toNat + 1) st_1 ((0 : Int32) : Int32) ((0 : Int32) : Int32) H _ ls (Nat.lt_succ_self _) hB_st_1 (by have hl0 : (0 : Int32).toInt = 0 := (by decide); have hl1 : (0 : Int32).toInt = 0 := (by decide); omega) hM hS (lv_sub hl [0, 1, 2, 3] rfl)
  · refine lv_tableIn (tgt := 127) hx hb dX10_count_8 (by omega) (by omega) (by rw [h_2]; rfl) (by decide) ?_
    refine lv_aload_n hx hb dX10_count_127 rfl (lv_at hl 1 rfl) ?_
    refine gs_get (C := RX10) (T := TX10) (N := 59) hx hb hts inX10 hown hK hM 0 0 37 (by decide) rfl rfl (by decide) (hts _ gm_938) (fun _ h9 => h9) rfl dX10_count_128 ?_
    refine lv_topi (fun x_23 ex_23 => ?_)
    have ex_23 : (st 0 0 37) = x_23 := Eq.symm (ex_23.trans ((congrFun (congrFun (congrFun est_1 0) 0) 37).trans (gU_other (by decide))))
    subst ex_23
    have bf_24 : (0 : Int) ≤ (st 0 0 37).toInt ∧ (st 0 0 37).toInt ≤ (300 : Int) := hB_st.1 0 0 37
    rw [← hQe]
    exact gs_iret hx hb hr hlocks hM hS rfl ⟨hB_st_1, trivial⟩ (by exact Nat.le_refl _) (by exact Nat.le_refl _) dX10_count_131
  · refine lv_tableIn (tgt := 132) hx hb dX10_count_8 (by omega) (by omega) (by rw [h_2]; rfl) (by decide) ?_
    refine lv_aload_n hx hb dX10_count_132 rfl (lv_at hl 1 rfl) ?_
    refine gs_get (C := RX10) (T := TX10) (N := 59) hx hb hts inX10 hown hK hM 0 0 9 (by decide) rfl rfl (by decide) (hts _ gm_910) (fun _ h9 => h9) rfl dX10_count_133 ?_
    refine lv_topi (fun x_25 ex_25 => ?_)
    have ex_25 : (st 0 0 9) = x_25 := Eq.symm (ex_25.trans ((congrFun (congrFun (congrFun est_1 0) 0) 9).trans (gU_other (by decide))))
    subst ex_25
    have bf_26 : (0 : Int) ≤ (st 0 0 9).toInt ∧ (st 0 0 9).toInt ≤ (800 : Int) := hB_st.1 0 0 9
    rw [← hQe]
    exact gs_iret hx hb hr hlocks hM hS rfl ⟨hB_st_1, trivial⟩ (by exact Nat.le_refl _) (by exact Nat.le_refl _) dX10_count_136
  · refine lv_tableIn (tgt := 137) hx hb dX10_count_8 (by omega) (by omega) (by rw [h_2]; rfl) (by decide) ?_
    refine lv_aload_n hx hb dX10_count_137 rfl (lv_at hl 1 rfl) ?_
    refine gs_get (C := RX10) (T := TX10) (N := 59) hx hb hts inX10 hown hK hM 0 0 57 (by decide) rfl rfl (by decide) (hts _ gm_958) (fun _ h9 => h9) rfl dX10_count_138 ?_
    refine lv_topi (fun x_27 ex_27 => ?_)
    have ex_27 : (st 0 0 57) = x_27 := Eq.symm (ex_27.trans ((congrFun (congrFun (congrFun est_1 0) 0) 57).trans (gU_other (by decide))))
    subst ex_27
    rw [← hQe]
    exact gs_iret hx hb hr hlocks hM hS rfl ⟨hB_st_1, trivial⟩ (by exact Nat.le_refl _) (by exact Nat.le_refl _) dX10_count_141

set_option maxHeartbeats 4000000 in
set_option maxRecDepth 100000 in
/-- WellCourtModel.dawn -/
theorem m_dawn (l : Launch) (G : va_G) (cy : Nat → ClassId) (sK sV : Nat → Nat) (ad : Nat → Nat → Nat) (sz : Nat) (st : gS) (hB : gBd bM st) (x : Int32) (y : Int32) (Xx : Int) (Xy : Int) (kx : x.toInt = Xx) (ky : y.toInt = Xy) (hx0 : 0 ≤ Xx) (hx1 : Xx ≤ 55) (hy0 : 0 ≤ Xy) (hy1 : Xy ≤ 199) (rs : List Rl) (bk : Nat) (hbk : (st 0 0 28).toInt = (bk : Int)) (hru : (st 0 0 29).toInt = (rs.length : Int)) (hLM : LM rs st bk) : gsMv l yX10_dawn cX10_dawn 6 ({ frames := 1, cells := 0, slots := 0, locals := 23 } : Room) G cy sK sV (shM cy ad) cnM ad sz [.ref (ad 0 0), .int x, .int y] st (fun (u : gS) => gBN bM kM [2900, 3500, 3600] st u ∧ (True)) := by
  refine gs_start (fun A => gsQv G (shM cy ad) cnM ad _ A) (by decide) (Nat.le_of_ble_eq_true rfl) ?_
  intro p e s m below meth c A ls H hx hb hr hml hlocks hown hts hK hov hE hI hM hm hS hA hl
  have hl : lv_has ls 6 [(0, .ref (ad 0 0)), (1, .int x), (2, .int y)] := hl
  have hB_st : gBN bM kM [2900, 3500, 3600] st st := gBN.rf hB
  generalize hQe : MQ below _ _ s _ _ A = Q
  refine lv_iconst (v := 0) hx hb dX10_dawn_0 (by decide) ?_
  refine lv_istore_n (lv' := [(3, .int 0), (0, .ref (ad 0 0)), (1, .int x), (2, .int y)]) hx hb dX10_dawn_1 rfl hl (by decide) rfl (fun ls hl => ?_)
  have lp1 : ∀ (n1 : Nat) (sv1 : gS) (y1_0 : Int32) (H : Heap) (locs : List Loc) (ls : Array Slot), (6 - y1_0.toInt).toNat < n1 → gBN bM kM [2900, 3500, 3600] st sv1 → (0 ≤ y1_0.toInt) → gM G (shM cy ad) cnM ad sv1 H → va_S A s.heap H locs → lv_has ls 6 [(3, .int y1_0), (0, .ref (ad 0 0)), (1, .int x), (2, .int y)] → W p l e ({ frames := 1, cells := 0, slots := 0, locals := 23 } : Room) s m [.ref (ad 0 0), .int x, .int y].toArray below meth c H locs 0 0 Q (F0 m 2 ls []) := by
    intro n1
    induction n1 with
    | zero => intro sv1 y1_0 H locs ls h9; exact absurd h9 (Nat.not_lt_zero _)
    | succ n1 ih_1 =>
      intro sv1 y1_0 H locs ls hme1 hB_sv1 hv1_0 hM hS hl
      have jn2 : ∀  (y2_0 : Int32) (H : Heap) (locs : List Loc) (ls : Array Slot),  (y1_0.toInt < 6) → gM G (shM cy ad) cnM ad sv1 H → va_S A s.heap H locs → lv_has ls 6 [(4, .int y2_0), (3, .int y1_0), (0, .ref (ad 0 0)), (1, .int x), (2, .int y)] → W p l e ({ frames := 1, cells := 0, slots := 0, locals := 23 } : Room) s m [.ref (ad 0 0), .int x, .int y].toArray below meth c H locs 0 0 Q (F0 m 68 ls []) := by
        intro  y2_0 H locs ls  hv2_0 hM hS hl
        refine lv_aload_n hx hb dX10_dawn_68 rfl (lv_at hl 2 rfl) ?_
        refine gs_get (C := RX10) (T := TX10) (N := 59) hx hb hts inX10 hown hK hM 0 0 45 (by decide) rfl rfl (by decide) (hts _ gm_946) (fun _ h9 => h9) rfl dX10_dawn_69 ?_
        refine lv_bipush (v := 6) hx hb dX10_dawn_72 (by decide) ?_
        refine lv_iload_n hx hb dX10_dawn_74 rfl (lv_at hl 3 rfl) ?_
        refine lv_imul hx hb dX10_dawn_75 ?_
        refine lv_topi (fun x_3 ex_3 => ?_)
        try have tx_3 : x_3.toInt = 6 * x.toInt := by rw [ex_3]; exact gz_mulI (x := 6) (y := x.toInt) (by decide) rfl (by omega) (by omega)
        refine lv_iload_n hx hb dX10_dawn_76 rfl (lv_at hl 1 rfl) ?_
        refine lv_iadd hx hb dX10_dawn_77 ?_
        refine lv_topi (fun x_4 ex_4 => ?_)
        try have tx_4 : x_4.toInt = x_3.toInt + y1_0.toInt := by rw [ex_4]; exact gz_addI (x := x_3.toInt) (y := y1_0.toInt) rfl rfl (by omega) (by omega)
        refine lv_iload hx hb dX10_dawn_78 (lv_at hl 0 rfl) ?_
        refine gs_iast hx hb hK hI hm hM hS 29 0 (by decide) (fun _ => rfl) (vp_in_iff.mpr ⟨by omega, by omega⟩) dX10_dawn_80 (fun st_5 H locs est_5 hM hS => ?_)
        have hB_st_5 : gBN bM kM [2900, 3500, 3600] st st_5 := by rw [est_5]; exact hB_sv1.up (show (2900 : Nat) ∈ _ from by decide) (gi_lo _) (gi_hi _)
        refine lv_aload_n hx hb dX10_dawn_81 rfl (lv_at hl 2 rfl) ?_
        refine gs_get (C := RX10) (T := TX10) (N := 59) hx hb hts inX10 hown hK hM 0 0 51 (by decide) rfl rfl (by decide) (hts _ gm_952) (fun _ h9 => h9) rfl dX10_dawn_82 ?_
        refine lv_bipush (v := 6) hx hb dX10_dawn_85 (by decide) ?_
        refine lv_iload_n hx hb dX10_dawn_87 rfl (lv_at hl 3 rfl) ?_
        refine lv_imul hx hb dX10_dawn_88 ?_
        refine lv_topi (fun x_6 ex_6 => ?_)
        try have tx_6 : x_6.toInt = 6 * x.toInt := by rw [ex_6]; exact gz_mulI (x := 6) (y := x.toInt) (by decide) rfl (by omega) (by omega)
        refine lv_iload_n hx hb dX10_dawn_89 rfl (lv_at hl 1 rfl) ?_
        refine lv_iadd hx hb dX10_dawn_90 ?_
        refine lv_topi (fun x_7 ex_7 => ?_)
        try have tx_7 : x_7.toInt = x_6.toInt + y1_0.toInt := by rw [ex_7]; exact gz_addI (x := x_6.toInt) (y := y1_0.toInt) rfl rfl (by omega) (by omega)
        refine lv_iload hx hb dX10_dawn_91 (lv_at hl 0 rfl) ?_
        refine gs_iast hx hb hK hI hm hM hS 35 0 (by decide) (fun _ => rfl) (vp_in_iff.mpr ⟨by omega, by omega⟩) dX10_dawn_93 (fun st_8 H locs est_8 hM hS => ?_)
        have hB_st_8 : gBN bM kM [2900, 3500, 3600] st st_8 := by rw [est_8]; exact hB_st_5.up (show (3500 : Nat) ∈ _ from by decide) (gi_lo _) (gi_hi _)
        refine lv_aload_n hx hb dX10_dawn_94 rfl (lv_at hl 2 rfl) ?_
        refine gs_get (C := RX10) (T := TX10) (N := 59) hx hb hts inX10 hown hK hM 0 0 1 (by decide) rfl rfl (by decide) (hts _ gm_902) (fun _ h9 => h9) rfl dX10_dawn_95 ?_
        refine lv_iload_n hx hb dX10_dawn_98 rfl (lv_at hl 1 rfl) ?_
        refine gs_zald hx hb hK hM 1 0 (by decide) rfl (vp_in_iff.mpr ⟨by omega, by omega⟩) dX10_dawn_99 ?_
        refine lv_topi (fun x_9 ex_9 => ?_)
        have qx_9 : x_9.toInt = (st_8 1 0 (y1_0.toNatClampNeg)).toInt := congrArg Int32.toInt ex_9
        have rx_9 : x_9.toInt = ((st 1 0 (y1_0.toNatClampNeg)) : Int32).toInt := by rw [ex_9]; exact congrArg Int32.toInt ((((congrFun (congrFun (congrFun est_8 1) 0) (y1_0.toNatClampNeg)).trans (congrFun (congrFun (gU_k (by decide)) 0) (y1_0.toNatClampNeg))).trans (((congrFun (congrFun (congrFun est_5 1) 0) (y1_0.toNatClampNeg)).trans (congrFun (congrFun (gU_k (by decide)) 0) (y1_0.toNatClampNeg))).trans (hB_sv1.2 1 0 (y1_0.toNatClampNeg) (show (100 : Nat) ∉ _ from by decide)))))
        refine lv_if_eq (tgt := 113) hx hb dX10_dawn_100 (by decide) (fun c_10 => ?_) (fun c_10 => ?_)
        · have ic_10 := gz_eq (rfl : x_9.toInt = x_9.toInt) (by decide : (0 : Int32).toInt = 0) c_10
          refine lv_iconst (v := (-1)) hx hb dX10_dawn_113 (by decide) ?_
          refine lv_istore (lv' := [(5, .int (-1)), (4, .int y2_0), (3, .int y1_0), (0, .ref (ad 0 0)), (1, .int x), (2, .int y)]) hx hb dX10_dawn_114 hl (by decide) rfl (fun ls hl => ?_)
          refine lv_aload_n hx hb dX10_dawn_116 rfl (lv_at hl 3 rfl) ?_
          refine gs_get (C := RX10) (T := TX10) (N := 59) hx hb hts inX10 hown hK hM 0 0 52 (by decide) rfl rfl (by decide) (hts _ gm_953) (fun _ h9 => h9) rfl dX10_dawn_117 ?_
          refine lv_bipush (v := 6) hx hb dX10_dawn_120 (by decide) ?_
          refine lv_iload_n hx hb dX10_dawn_122 rfl (lv_at hl 4 rfl) ?_
          refine lv_imul hx hb dX10_dawn_123 ?_
          refine lv_topi (fun x_11 ex_11 => ?_)
          try have tx_11 : x_11.toInt = 6 * x.toInt := by rw [ex_11]; exact gz_mulI (x := 6) (y := x.toInt) (by decide) rfl (by omega) (by omega)
          refine lv_iload_n hx hb dX10_dawn_124 rfl (lv_at hl 2 rfl) ?_
          refine lv_iadd hx hb dX10_dawn_125 ?_
          refine lv_topi (fun x_12 ex_12 => ?_)
          try have tx_12 : x_12.toInt = x_11.toInt + y1_0.toInt := by rw [ex_12]; exact gz_addI (x := x_11.toInt) (y := y1_0.toInt) rfl rfl (by omega) (by omega)
          refine lv_iload hx hb dX10_dawn_126 (lv_at hl 0 rfl) ?_
          refine lv_if_lt (tgt := 136) hx hb dX10_dawn_128 (by decide) (fun _ => ?_) (fun h9 => absurd (by decide) h9)
          refine lv_aload_n hx hb dX10_dawn_136 rfl (lv_at hl 3 rfl) ?_
          refine gs_get (C := RX10) (T := TX10) (N := 59) hx hb hts inX10 hown hK hM 0 0 6 (by decide) rfl rfl (by decide) (hts _ gm_907) (fun _ h9 => h9) rfl dX10_dawn_137 ?_
          refine lv_sipush (v := 200) hx hb dX10_dawn_140 (by decide) ?_
          refine lv_iload_n hx hb dX10_dawn_143 rfl (lv_at hl 2 rfl) ?_
          refine lv_imul hx hb dX10_dawn_144 ?_
          refine lv_topi (fun x_13 ex_13 => ?_)
          try have tx_13 : x_13.toInt = 200 * y1_0.toInt := by rw [ex_13]; exact gz_mulI (x := 200) (y := y1_0.toInt) (by decide) rfl (by omega) (by omega)
          refine lv_iload_n hx hb dX10_dawn_145 rfl (lv_at hl 5 rfl) ?_
          refine lv_iadd hx hb dX10_dawn_146 ?_
          refine lv_topi (fun x_14 ex_14 => ?_)
          try have tx_14 : x_14.toInt = x_13.toInt + y.toInt := by rw [ex_14]; exact gz_addI (x := x_13.toInt) (y := y.toInt) rfl rfl (by omega) (by omega)
          refine gs_iald hx hb hK hM 6 0 (by decide) rfl (vp_in_iff.mpr ⟨by omega, by omega⟩) dX10_dawn_147 ?_
          refine lv_topi (fun x_15 ex_15 => ?_)
          have qx_15 : x_15.toInt = (st_8 6 0 (x_14.toNatClampNeg)).toInt := congrArg Int32.toInt ex_15
          have rx_15 : x_15.toInt = ((st 6 0 (x_14.toNatClampNeg)) : Int32).toInt := by rw [ex_15]; exact congrArg Int32.toInt ((((congrFun (congrFun (congrFun est_8 6) 0) (x_14.toNatClampNeg)).trans (congrFun (congrFun (gU_k (by decide)) 0) (x_14.toNatClampNeg))).trans (((congrFun (congrFun (congrFun est_5 6) 0) (x_14.toNatClampNeg)).trans (congrFun (congrFun (gU_k (by decide)) 0) (x_14.toNatClampNeg))).trans (hB_sv1.2 6 0 (x_14.toNatClampNeg) (show (600 : Nat) ∉ _ from by decide)))))
          refine gs_iast hx hb hK hI hm hM hS 36 0 (by decide) (fun _ => rfl) (vp_in_iff.mpr ⟨by omega, by omega⟩) dX10_dawn_148 (fun st_16 H locs est_16 hM hS => ?_)
          have hB_st_16 : gBN bM kM [2900, 3500, 3600] st st_16 := by rw [est_16]; exact hB_st_8.up (show (3600 : Nat) ∈ _ from by decide) (gi_lo _) (gi_hi _)
          obtain ⟨x_17, ex_17⟩ : ∃ y : Int32, y = y1_0 + 1 := ⟨_, rfl⟩
          try have tx_17 : x_17.toInt = y1_0.toInt + 1 := by rw [ex_17]; exact gz_addP (x := y1_0.toInt) (y := 1) rfl (by decide) (by omega) (by omega)
          refine lv_iinc (v := (x_17)) (lv' := [(3, .int x_17), (5, .int (-1)), (4, .int y2_0), (0, .ref (ad 0 0)), (1, .int x), (2, .int y)]) hx hb dX10_dawn_149 hl (k := 2) rfl (by rw [ex_17]; rfl) (by decide) rfl (fun ls hl => ?_)
          refine lv_goto (tgt := 2) hx hb dX10_dawn_152 (by decide) ?_
          exact ih_1 st_16 (x_17 : Int32) H _ ls (by omega) hB_st_16 (by omega) hM hS (lv_sub hl [0, 3, 4, 5] rfl)
        · have ic_10 := gz_ne (rfl : x_9.toInt = x_9.toInt) (by decide : (0 : Int32).toInt = 0) c_10
          refine lv_aload_n hx hb dX10_dawn_103 rfl (lv_at hl 2 rfl) ?_
          refine lv_iload_n hx hb dX10_dawn_104 rfl (lv_at hl 1 rfl) ?_
          refine lv_iload hx hb dX10_dawn_105 (lv_at hl 0 rfl) ?_
          refine gs_calli (va_runV (As := [.int y1_0, .int y2_0]) (rest := []) ⟨hx, hb, hml, hown, hts⟩ (m_byDrought l G cy sK sV ad H.size st_8 hB_st_8.1 y1_0 y2_0 y1_0.toInt y2_0.toInt rfl rfl rs bk ((congrArg Int32.toInt ((((congrFun (congrFun (congrFun est_8 0) 0) 28).trans (congrFun (congrFun (gU_k (by decide)) 0) 28)).trans (((congrFun (congrFun (congrFun est_5 0) 0) 28).trans (congrFun (congrFun (gU_k (by decide)) 0) 28)).trans (hB_sv1.2 0 0 28 (show (28 : Nat) ∉ _ from by decide)))))).trans hbk) ((congrArg Int32.toInt ((((congrFun (congrFun (congrFun est_8 0) 0) 29).trans (congrFun (congrFun (gU_k (by decide)) 0) 29)).trans (((congrFun (congrFun (congrFun est_5 0) 0) 29).trans (congrFun (congrFun (gU_k (by decide)) 0) 29)).trans (hB_sv1.2 0 0 29 (show (29 : Nat) ∉ _ from by decide)))))).trans hru) (LM.all hLM (mA.trans (mA.trans (mA.trans mA.rf (mA.frame hB_sv1.2 (by decide))) (mA.upk est_5 (by decide))) (mA.upk est_8 (by decide))))) ⟨(gz_cb (n := 2) hts gm_1185 gm_12 gm_1188 ⟨by decide +kernel, by decide +kernel, by decide +kernel⟩ ⟨Nat.le_of_ble_eq_true rfl, Nat.le_of_ble_eq_true rfl⟩), hts _ gm_1187, hts _ gs_49⟩ (gs_preV hK hov hE hI hM hm hS hA 0 0 (by decide) rfl rfl) rfl rfl hl.1 rfl (lv_room (Nat.le_of_ble_eq_true rfl)) dX10_dawn_107 ⟨Nat.le_of_ble_eq_true rfl, Nat.le_of_ble_eq_true rfl⟩) hm hS hA (fun r_18 st_18 H locs hw_18 hM hS => ?_)
          obtain ⟨n_18, hw_18⟩ := hw_18
          have n_18 := gBN.nil n_18
          subst n_18
          have hw_18_0 := hw_18
          refine lv_goto (tgt := 114) hx hb dX10_dawn_110 (by decide) ?_
          refine lv_istore (lv' := [(5, .int r_18), (4, .int y2_0), (3, .int y1_0), (0, .ref (ad 0 0)), (1, .int x), (2, .int y)]) hx hb dX10_dawn_114 hl (by decide) rfl (fun ls hl => ?_)
          refine lv_aload_n hx hb dX10_dawn_116 rfl (lv_at hl 3 rfl) ?_
          refine gs_get (C := RX10) (T := TX10) (N := 59) hx hb hts inX10 hown hK hM 0 0 52 (by decide) rfl rfl (by decide) (hts _ gm_953) (fun _ h9 => h9) rfl dX10_dawn_117 ?_
          refine lv_bipush (v := 6) hx hb dX10_dawn_120 (by decide) ?_
          refine lv_iload_n hx hb dX10_dawn_122 rfl (lv_at hl 4 rfl) ?_
          refine lv_imul hx hb dX10_dawn_123 ?_
          refine lv_topi (fun x_19 ex_19 => ?_)
          try have tx_19 : x_19.toInt = 6 * x.toInt := by rw [ex_19]; exact gz_mulI (x := 6) (y := x.toInt) (by decide) rfl (by omega) (by omega)
          refine lv_iload_n hx hb dX10_dawn_124 rfl (lv_at hl 2 rfl) ?_
          refine lv_iadd hx hb dX10_dawn_125 ?_
          refine lv_topi (fun x_20 ex_20 => ?_)
          try have tx_20 : x_20.toInt = x_19.toInt + y1_0.toInt := by rw [ex_20]; exact gz_addI (x := x_19.toInt) (y := y1_0.toInt) rfl rfl (by omega) (by omega)
          refine lv_iload hx hb dX10_dawn_126 (lv_at hl 0 rfl) ?_
          refine lv_if_lt (tgt := 136) hx hb dX10_dawn_128 (by decide) (fun c_21 => ?_) (fun c_21 => ?_)
          · have ic_21 := gz_lt (rfl : r_18.toInt = r_18.toInt) (by decide : (0 : Int32).toInt = 0) c_21
            refine lv_aload_n hx hb dX10_dawn_136 rfl (lv_at hl 3 rfl) ?_
            refine gs_get (C := RX10) (T := TX10) (N := 59) hx hb hts inX10 hown hK hM 0 0 6 (by decide) rfl rfl (by decide) (hts _ gm_907) (fun _ h9 => h9) rfl dX10_dawn_137 ?_
            refine lv_sipush (v := 200) hx hb dX10_dawn_140 (by decide) ?_
            refine lv_iload_n hx hb dX10_dawn_143 rfl (lv_at hl 2 rfl) ?_
            refine lv_imul hx hb dX10_dawn_144 ?_
            refine lv_topi (fun x_22 ex_22 => ?_)
            try have tx_22 : x_22.toInt = 200 * y1_0.toInt := by rw [ex_22]; exact gz_mulI (x := 200) (y := y1_0.toInt) (by decide) rfl (by omega) (by omega)
            refine lv_iload_n hx hb dX10_dawn_145 rfl (lv_at hl 5 rfl) ?_
            refine lv_iadd hx hb dX10_dawn_146 ?_
            refine lv_topi (fun x_23 ex_23 => ?_)
            try have tx_23 : x_23.toInt = x_22.toInt + y.toInt := by rw [ex_23]; exact gz_addI (x := x_22.toInt) (y := y.toInt) rfl rfl (by omega) (by omega)
            refine gs_iald hx hb hK hM 6 0 (by decide) rfl (vp_in_iff.mpr ⟨by omega, by omega⟩) dX10_dawn_147 ?_
            refine lv_topi (fun x_24 ex_24 => ?_)
            have qx_24 : x_24.toInt = (st_8 6 0 (x_23.toNatClampNeg)).toInt := congrArg Int32.toInt ex_24
            have rx_24 : x_24.toInt = ((st 6 0 (x_23.toNatClampNeg)) : Int32).toInt := by rw [ex_24]; exact congrArg Int32.toInt ((((congrFun (congrFun (congrFun est_8 6) 0) (x_23.toNatClampNeg)).trans (congrFun (congrFun (gU_k (by decide)) 0) (x_23.toNatClampNeg))).trans (((congrFun (congrFun (congrFun est_5 6) 0) (x_23.toNatClampNeg)).trans (congrFun (congrFun (gU_k (by decide)) 0) (x_23.toNatClampNeg))).trans (hB_sv1.2 6 0 (x_23.toNatClampNeg) (show (600 : Nat) ∉ _ from by decide)))))
            refine gs_iast hx hb hK hI hm hM hS 36 0 (by decide) (fun _ => rfl) (vp_in_iff.mpr ⟨by omega, by omega⟩) dX10_dawn_148 (fun st_25 H locs est_25 hM hS => ?_)
            have hB_st_25 : gBN bM kM [2900, 3500, 3600] st st_25 := by rw [est_25]; exact hB_st_8.up (show (3600 : Nat) ∈ _ from by decide) (gi_lo _) (gi_hi _)
            obtain ⟨x_26, ex_26⟩ : ∃ y : Int32, y = y1_0 + 1 := ⟨_, rfl⟩
            try have tx_26 : x_26.toInt = y1_0.toInt + 1 := by rw [ex_26]; exact gz_addP (x := y1_0.toInt) (y := 1) rfl (by decide) (by omega) (by omega)
            refine lv_iinc (v := (x_26)) (lv' := [(3, .int x_26), (5, .int r_18), (4, .int y2_0), (0, .ref (ad 0 0)), (1, .int x), (2, .int y)]) hx hb dX10_dawn_149 hl (k := 2) rfl (by rw [ex_26]; rfl) (by decide) rfl (fun ls hl => ?_)
            refine lv_goto (tgt := 2) hx hb dX10_dawn_152 (by decide) ?_
            exact ih_1 st_25 (x_26 : Int32) H _ ls (by omega) hB_st_25 (by omega) hM hS (lv_sub hl [0, 3, 4, 5] rfl)
          · have ic_21 := gz_nlt (rfl : r_18.toInt = r_18.toInt) (by decide : (0 : Int32).toInt = 0) c_21
            refine lv_iload hx hb dX10_dawn_131 (lv_at hl 0 rfl) ?_
            refine lv_goto (tgt := 148) hx hb dX10_dawn_133 (by decide) ?_
            refine gs_iast hx hb hK hI hm hM hS 36 0 (by decide) (fun _ => rfl) (vp_in_iff.mpr ⟨by omega, by omega⟩) dX10_dawn_148 (fun st_27 H locs est_27 hM hS => ?_)
            have hB_st_27 : gBN bM kM [2900, 3500, 3600] st st_27 := by rw [est_27]; exact hB_st_8.up (show (3600 : Nat) ∈ _ from by decide) (gi_lo _) (gi_hi _)
            obtain ⟨x_28, ex_28⟩ : ∃ y : Int32, y = y1_0 + 1 := ⟨_, rfl⟩
            try have tx_28 : x_28.toInt = y1_0.toInt + 1 := by rw [ex_28]; exact gz_addP (x := y1_0.toInt) (y := 1) rfl (by decide) (by omega) (by omega)
            refine lv_iinc (v := (x_28)) (lv' := [(3, .int x_28), (5, .int r_18), (4, .int y2_0), (0, .ref (ad 0 0)), (1, .int x), (2, .int y)]) hx hb dX10_dawn_149 hl (k := 2) rfl (by rw [ex_28]; rfl) (by decide) rfl (fun ls hl => ?_)
            refine lv_goto (tgt := 2) hx hb dX10_dawn_152 (by decide) ?_
            exact ih_1 st_27 (x_28 : Int32) H _ ls (by omega) hB_st_27 (by omega) hM hS (lv_sub hl [0, 3, 4, 5] rfl)
      refine lv_iload_n hx hb dX10_dawn_2 rfl (lv_at hl 0 rfl) ?_
      refine lv_bipush (v := 6) hx hb dX10_dawn_3 (by decide) ?_
      refine lv_icmp_ge (tgt := 155) hx hb dX10_dawn_5 (by decide) (fun c_29 => ?_) (fun c_29 => ?_)
      · have ic_29 := gz_le (by decide : (6 : Int32).toInt = 6) (rfl : y1_0.toInt = y1_0.toInt) c_29
        rw [← hQe]
        exact gs_vret hx hb hr hlocks hM hS ⟨hB_sv1, trivial⟩ (by exact Nat.le_refl _) (by exact Nat.le_refl _) dX10_dawn_155
      · have ic_29 := gz_nle (by decide : (6 : Int32).toInt = 6) (rfl : y1_0.toInt = y1_0.toInt) c_29
        refine lv_aload_n hx hb dX10_dawn_8 rfl (lv_at hl 1 rfl) ?_
        refine gs_get (C := RX10) (T := TX10) (N := 59) hx hb hts inX10 hown hK hM 0 0 45 (by decide) rfl rfl (by decide) (hts _ gm_946) (fun _ h9 => h9) rfl dX10_dawn_9 ?_
        refine lv_bipush (v := 6) hx hb dX10_dawn_12 (by decide) ?_
        refine lv_iload_n hx hb dX10_dawn_14 rfl (lv_at hl 2 rfl) ?_
        refine lv_imul hx hb dX10_dawn_15 ?_
        refine lv_topi (fun x_30 ex_30 => ?_)
        try have tx_30 : x_30.toInt = 6 * x.toInt := by rw [ex_30]; exact gz_mulI (x := 6) (y := x.toInt) (by decide) rfl (by omega) (by omega)
        refine lv_iload_n hx hb dX10_dawn_16 rfl (lv_at hl 0 rfl) ?_
        refine lv_iadd hx hb dX10_dawn_17 ?_
        refine lv_topi (fun x_31 ex_31 => ?_)
        try have tx_31 : x_31.toInt = x_30.toInt + y1_0.toInt := by rw [ex_31]; exact gz_addI (x := x_30.toInt) (y := y1_0.toInt) rfl rfl (by omega) (by omega)
        refine gs_iald hx hb hK hM 29 0 (by decide) rfl (vp_in_iff.mpr ⟨by omega, by omega⟩) dX10_dawn_18 ?_
        refine lv_topi (fun x_32 ex_32 => ?_)
        have qx_32 : x_32.toInt = (sv1 29 0 (x_31.toNatClampNeg)).toInt := congrArg Int32.toInt ex_32
        refine lv_istore (lv' := [(4, .int x_32), (3, .int y1_0), (0, .ref (ad 0 0)), (1, .int x), (2, .int y)]) hx hb dX10_dawn_19 hl (by decide) rfl (fun ls hl => ?_)
        refine lv_aload_n hx hb dX10_dawn_21 rfl (lv_at hl 2 rfl) ?_
        refine gs_get (C := RX10) (T := TX10) (N := 59) hx hb hts inX10 hown hK hM 0 0 1 (by decide) rfl rfl (by decide) (hts _ gm_902) (fun _ h9 => h9) rfl dX10_dawn_22 ?_
        refine lv_iload_n hx hb dX10_dawn_25 rfl (lv_at hl 1 rfl) ?_
        refine gs_zald hx hb hK hM 1 0 (by decide) rfl (vp_in_iff.mpr ⟨by omega, by omega⟩) dX10_dawn_26 ?_
        refine lv_topi (fun x_33 ex_33 => ?_)
        have qx_33 : x_33.toInt = (sv1 1 0 (y1_0.toNatClampNeg)).toInt := congrArg Int32.toInt ex_33
        have rx_33 : x_33.toInt = ((st 1 0 (y1_0.toNatClampNeg)) : Int32).toInt := by rw [ex_33]; exact congrArg Int32.toInt ((hB_sv1.2 1 0 (y1_0.toNatClampNeg) (show (100 : Nat) ∉ _ from by decide)))
        refine lv_if_eq (tgt := 68) hx hb dX10_dawn_27 (by decide) (fun c_34 => ?_) (fun c_34 => ?_)
        · have ic_34 := gz_eq (rfl : x_33.toInt = x_33.toInt) (by decide : (0 : Int32).toInt = 0) c_34
          exact jn2  (x_32 : Int32) H _ ls  (by omega) hM hS (lv_sub hl [0, 1, 2, 3, 4] rfl)
        · have ic_34 := gz_ne (rfl : x_33.toInt = x_33.toInt) (by decide : (0 : Int32).toInt = 0) c_34
          refine lv_iload hx hb dX10_dawn_30 (lv_at hl 0 rfl) ?_
          refine lv_aload_n hx hb dX10_dawn_32 rfl (lv_at hl 2 rfl) ?_
          refine gs_get (C := RX10) (T := TX10) (N := 59) hx hb hts inX10 hown hK hM 0 0 3 (by decide) rfl rfl (by decide) (hts _ gm_904) (fun _ h9 => h9) rfl dX10_dawn_33 ?_
          refine lv_iload_n hx hb dX10_dawn_36 rfl (lv_at hl 1 rfl) ?_
          refine gs_iald hx hb hK hM 3 0 (by decide) rfl (vp_in_iff.mpr ⟨by omega, by omega⟩) dX10_dawn_37 ?_
          refine lv_topi (fun x_35 ex_35 => ?_)
          have qx_35 : x_35.toInt = (sv1 3 0 (y1_0.toNatClampNeg)).toInt := congrArg Int32.toInt ex_35
          have rx_35 : x_35.toInt = ((st 3 0 (y1_0.toNatClampNeg)) : Int32).toInt := by rw [ex_35]; exact congrArg Int32.toInt ((hB_sv1.2 3 0 (y1_0.toNatClampNeg) (show (300 : Nat) ∉ _ from by decide)))
          refine lv_iadd hx hb dX10_dawn_38 ?_
          refine lv_topi (fun x_36 ex_36 => ?_)
          refine lv_aload_n hx hb dX10_dawn_39 rfl (lv_at hl 2 rfl) ?_
          refine gs_get (C := RX10) (T := TX10) (N := 59) hx hb hts inX10 hown hK hM 0 0 2 (by decide) rfl rfl (by decide) (hts _ gm_903) (fun _ h9 => h9) rfl dX10_dawn_40 ?_
          refine lv_iload_n hx hb dX10_dawn_43 rfl (lv_at hl 1 rfl) ?_
          refine gs_iald hx hb hK hM 2 0 (by decide) rfl (vp_in_iff.mpr ⟨by omega, by omega⟩) dX10_dawn_44 ?_
          refine lv_topi (fun x_37 ex_37 => ?_)
          have qx_37 : x_37.toInt = (sv1 2 0 (y1_0.toNatClampNeg)).toInt := congrArg Int32.toInt ex_37
          have rx_37 : x_37.toInt = ((st 2 0 (y1_0.toNatClampNeg)) : Int32).toInt := by rw [ex_37]; exact congrArg Int32.toInt ((hB_sv1.2 2 0 (y1_0.toNatClampNeg) (show (200 : Nat) ∉ _ from by decide)))
          refine lv_icmp_le (tgt := 57) hx hb dX10_dawn_45 (by decide) (fun c_38 => ?_) (fun c_38 => ?_)
          · have ic_38 := gz_le (rfl : x_36.toInt = x_36.toInt) (rfl : x_37.toInt = x_37.toInt) c_38
            refine lv_iload hx hb dX10_dawn_57 (lv_at hl 0 rfl) ?_
            refine lv_aload_n hx hb dX10_dawn_59 rfl (lv_at hl 2 rfl) ?_
            refine gs_get (C := RX10) (T := TX10) (N := 59) hx hb hts inX10 hown hK hM 0 0 3 (by decide) rfl rfl (by decide) (hts _ gm_904) (fun _ h9 => h9) rfl dX10_dawn_60 ?_
            refine lv_iload_n hx hb dX10_dawn_63 rfl (lv_at hl 1 rfl) ?_
            refine gs_iald hx hb hK hM 3 0 (by decide) rfl (vp_in_iff.mpr ⟨by omega, by omega⟩) dX10_dawn_64 ?_
            refine lv_topi (fun x_39 ex_39 => ?_)
            have qx_39 : x_39.toInt = (sv1 3 0 (y1_0.toNatClampNeg)).toInt := congrArg Int32.toInt ex_39
            have rx_39 : x_39.toInt = ((st 3 0 (y1_0.toNatClampNeg)) : Int32).toInt := by rw [ex_39]; exact congrArg Int32.toInt ((hB_sv1.2 3 0 (y1_0.toNatClampNeg) (show (300 : Nat) ∉ _ from by decide)))
            refine lv_iadd hx hb dX10_dawn_65 ?_
            refine lv_topi (fun x_40 ex_40 => ?_)
            refine lv_istore (lv' := [(4, .int x_40), (3, .int y1_0), (0, .ref (ad 0 0)), (1, .int x), (2, .int y)]) hx hb dX10_dawn_66 hl (by decide) rfl (fun ls hl => ?_)
            exact jn2  (x_40 : Int32) H _ ls  (by omega) hM hS (lv_sub hl [0, 1, 2, 3, 4] rfl)
          · have ic_38 := gz_nle (rfl : x_36.toInt = x_36.toInt) (rfl : x_37.toInt = x_37.toInt) c_38
            have lc_38 := gi_hi x_36
            refine lv_aload_n hx hb dX10_dawn_48 rfl (lv_at hl 2 rfl) ?_
            refine gs_get (C := RX10) (T := TX10) (N := 59) hx hb hts inX10 hown hK hM 0 0 2 (by decide) rfl rfl (by decide) (hts _ gm_903) (fun _ h9 => h9) rfl dX10_dawn_49 ?_
            refine lv_iload_n hx hb dX10_dawn_52 rfl (lv_at hl 1 rfl) ?_
            refine gs_iald hx hb hK hM 2 0 (by decide) rfl (vp_in_iff.mpr ⟨by omega, by omega⟩) dX10_dawn_53 ?_
            refine lv_topi (fun x_41 ex_41 => ?_)
            have qx_41 : x_41.toInt = (sv1 2 0 (y1_0.toNatClampNeg)).toInt := congrArg Int32.toInt ex_41
            have rx_41 : x_41.toInt = ((st 2 0 (y1_0.toNatClampNeg)) : Int32).toInt := by rw [ex_41]; exact congrArg Int32.toInt ((hB_sv1.2 2 0 (y1_0.toNatClampNeg) (show (200 : Nat) ∉ _ from by decide)))
            refine lv_goto (tgt := 66) hx hb dX10_dawn_54 (by decide) ?_
            refine lv_istore (lv' := [(4, .int x_41), (3, .int y1_0), (0, .ref (ad 0 0)), (1, .int x), (2, .int y)]) hx hb dX10_dawn_66 hl (by decide) rfl (fun ls hl => ?_)
            exact jn2  (x_41 : Int32) H _ ls  (by omega) hM hS (lv_sub hl [0, 1, 2, 3, 4] rfl)
  exact lp1 ((6 - ((0 : Int32) : Int32).toInt).toNat + 1) st ((0 : Int32) : Int32) H _ ls (Nat.lt_succ_self _) hB_st (by have hl0 : (0 : Int32).toInt = 0 := (by decide); omega) hM hS (lv_sub hl [0, 1, 2, 3] rfl)

set_option maxHeartbeats 4000000 in
set_option maxRecDepth 100000 in
/-- WellCourtModel.mayDo -/
theorem m_mayDo (l : Launch) (G : va_G) (cy : Nat → ClassId) (sK sV : Nat → Nat) (ad : Nat → Nat → Nat) (sz : Nat) (st : gS) (hB : gBd bM st) (x : Int32) (y : Int32) (w : Int32) (Xx : Int) (Xy : Int) (Xw : Int) (kx : x.toInt = Xx) (ky : y.toInt = Xy) (kw : w.toInt = Xw) (hx0 : 0 ≤ Xx) (hx1 : Xx ≤ 55) (hy0 : 0 ≤ Xy) (hy1 : Xy ≤ 3) (hw0 : 0 ≤ Xw) (hw1 : Xw ≤ 7) (rs : List Rl) (bk : Nat) (hbk : (st 0 0 28).toInt = (bk : Int)) (hru : (st 0 0 29).toInt = (rs.length : Int)) (hLM : LM rs st bk) (hwf : ∀ r ∈ rs, wfR r) : gsMi l yX10_mayDo cX10_mayDo 5 (some .boolean) ({ frames := 1, cells := 0, slots := 0, locals := 29 } : Room) G cy sK sV (shM cy ad) cnM ad sz [.ref (ad 0 0), .int x, .int y, .int w] st (fun (r : Int32) (u : gS) => gBN bM kM [] st u ∧ ((r = 1) ∨ (r = 0))) := by
  refine gs_start (fun A => gsQi G (shM cy ad) cnM ad _ A) (by decide) (Nat.le_of_ble_eq_true rfl) ?_
  intro p e s m below meth c A ls H hx hb hr hml hlocks hown hts hK hov hE hI hM hm hS hA hl
  have hl : lv_has ls 5 [(0, .ref (ad 0 0)), (1, .int x), (2, .int y), (3, .int w)] := hl
  have hB_st : gBN bM kM [] st st := gBN.rf hB
  refine lv_aload_n hx hb dX10_mayDo_0 rfl (lv_at hl 0 rfl) ?_
  refine gs_get (C := RX10) (T := TX10) (N := 59) hx hb hts inX10 hown hK hM 0 0 46 (by decide) rfl rfl (by decide) (hts _ gm_947) (fun _ h9 => h9) rfl dX10_mayDo_1 ?_
  refine lv_iconst (v := 4) hx hb dX10_mayDo_4 (by decide) ?_
  refine lv_iload_n hx hb dX10_mayDo_5 rfl (lv_at hl 1 rfl) ?_
  refine lv_imul hx hb dX10_mayDo_6 ?_
  refine lv_topi (fun x_1 ex_1 => ?_)
  try have tx_1 : x_1.toInt = 4 * x.toInt := by rw [ex_1]; exact gz_mulI (x := 4) (y := x.toInt) (by decide) rfl (by omega) (by omega)
  refine lv_iload_n hx hb dX10_mayDo_7 rfl (lv_at hl 2 rfl) ?_
  refine lv_iadd hx hb dX10_mayDo_8 ?_
  refine lv_topi (fun x_2 ex_2 => ?_)
  try have tx_2 : x_2.toInt = x_1.toInt + y.toInt := by rw [ex_2]; exact gz_addI (x := x_1.toInt) (y := y.toInt) rfl rfl (by omega) (by omega)
  refine gs_iald hx hb hK hM 30 0 (by decide) rfl (vp_in_iff.mpr ⟨by omega, by omega⟩) dX10_mayDo_9 ?_
  refine lv_topi (fun x_3 ex_3 => ?_)
  have qx_3 : x_3.toInt = (st 30 0 (x_2.toNatClampNeg)).toInt := congrArg Int32.toInt ex_3
  have bx_3 : (0 : Int) ≤ x_3.toInt ∧ x_3.toInt ≤ (5 : Int) := by rw [qx_3]; exact hB_st.1 30 0 (x_2.toNatClampNeg)
  refine lv_istore (lv' := [(4, .int x_3), (0, .ref (ad 0 0)), (1, .int x), (2, .int y), (3, .int w)]) hx hb dX10_mayDo_10 hl (by decide) rfl (fun ls hl => ?_)
  refine lv_iload_n hx hb dX10_mayDo_12 rfl (lv_at hl 4 rfl) ?_
  refine lv_if_ne (tgt := 85) hx hb dX10_mayDo_13 (by decide) (fun c_4 => ?_) (fun c_4 => ?_)
  · have ic_4 := gz_ne (rfl : w.toInt = w.toInt) (by decide : (0 : Int32).toInt = 0) c_4
    refine lv_iload_n hx hb dX10_mayDo_85 rfl (lv_at hl 4 rfl) ?_
    refine lv_iconst (v := 1) hx hb dX10_mayDo_86 (by decide) ?_
    refine lv_icmp_eq (tgt := 107) hx hb dX10_mayDo_87 (by decide) (fun c_5 => ?_) (fun c_5 => ?_)
    · have ic_5 := gz_eq (rfl : w.toInt = w.toInt) (by decide : (1 : Int32).toInt = 1) c_5
      refine lv_iconst (v := 1) hx hb dX10_mayDo_107 (by decide) ?_
      refine lv_goto (tgt := 112) hx hb dX10_mayDo_108 (by decide) ?_
      exact gs_iret hx hb hr hlocks hM hS (by decide) ⟨hB_st, (Or.inl rfl)⟩ (by exact Nat.le_refl _) (by exact Nat.le_refl _) dX10_mayDo_112
    · have ic_5 := gz_ne (rfl : w.toInt = w.toInt) (by decide : (1 : Int32).toInt = 1) c_5
      refine lv_aload_n hx hb dX10_mayDo_90 rfl (lv_at hl 1 rfl) ?_
      refine gs_get (C := RX10) (T := TX10) (N := 59) hx hb hts inX10 hown hK hM 0 0 44 (by decide) rfl rfl (by decide) (hts _ gm_945) (fun _ h9 => h9) rfl dX10_mayDo_91 ?_
      refine lv_bipush (v := 6) hx hb dX10_mayDo_94 (by decide) ?_
      refine lv_iload hx hb dX10_mayDo_96 (lv_at hl 0 rfl) ?_
      refine lv_imul hx hb dX10_mayDo_98 ?_
      refine lv_topi (fun x_6 ex_6 => ?_)
      try have tx_6 : x_6.toInt = 6 * x_3.toInt := by rw [ex_6]; exact gz_mulI (x := 6) (y := x_3.toInt) (by decide) rfl (by omega) (by omega)
      refine lv_iload_n hx hb dX10_mayDo_99 rfl (lv_at hl 4 rfl) ?_
      refine lv_iadd hx hb dX10_mayDo_100 ?_
      refine lv_topi (fun x_7 ex_7 => ?_)
      try have tx_7 : x_7.toInt = x_6.toInt + w.toInt := by rw [ex_7]; exact gz_addI (x := x_6.toInt) (y := w.toInt) rfl rfl (by omega) (by omega)
      refine lv_iconst (v := 2) hx hb dX10_mayDo_101 (by decide) ?_
      refine lv_isub hx hb dX10_mayDo_102 ?_
      refine lv_topi (fun x_8 ex_8 => ?_)
      try have tx_8 : x_8.toInt = x_7.toInt - 2 := by rw [ex_8]; exact gz_subP (x := x_7.toInt) (y := 2) rfl (by decide) (by omega) (by omega)
      refine gs_iald hx hb hK hM 28 0 (by decide) rfl (vp_in_iff.mpr ⟨by omega, by omega⟩) dX10_mayDo_103 ?_
      refine lv_topi (fun x_9 ex_9 => ?_)
      have qx_9 : x_9.toInt = (st 28 0 (x_8.toNatClampNeg)).toInt := congrArg Int32.toInt ex_9
      refine lv_if_le (tgt := 111) hx hb dX10_mayDo_104 (by decide) (fun c_10 => ?_) (fun c_10 => ?_)
      · have ic_10 := gz_le (rfl : x_9.toInt = x_9.toInt) (by decide : (0 : Int32).toInt = 0) c_10
        refine lv_iconst (v := 0) hx hb dX10_mayDo_111 (by decide) ?_
        exact gs_iret hx hb hr hlocks hM hS (by decide) ⟨hB_st, (Or.inr (rfl))⟩ (by exact Nat.le_refl _) (by exact Nat.le_refl _) dX10_mayDo_112
      · have ic_10 := gz_nle (rfl : x_9.toInt = x_9.toInt) (by decide : (0 : Int32).toInt = 0) c_10
        refine lv_iconst (v := 1) hx hb dX10_mayDo_107 (by decide) ?_
        refine lv_goto (tgt := 112) hx hb dX10_mayDo_108 (by decide) ?_
        exact gs_iret hx hb hr hlocks hM hS (by decide) ⟨hB_st, (Or.inl rfl)⟩ (by exact Nat.le_refl _) (by exact Nat.le_refl _) dX10_mayDo_112
  · have ic_4 := gz_eqn (rfl : w.toInt = w.toInt) (by decide : (0 : Int32).toInt = 0) c_4
    refine lv_aload_n hx hb dX10_mayDo_16 rfl (lv_at hl 1 rfl) ?_
    refine gs_get (C := RX10) (T := TX10) (N := 59) hx hb hts inX10 hown hK hM 0 0 1 (by decide) rfl rfl (by decide) (hts _ gm_902) (fun _ h9 => h9) rfl dX10_mayDo_17 ?_
    refine lv_iload hx hb dX10_mayDo_20 (lv_at hl 0 rfl) ?_
    refine gs_zald hx hb hK hM 1 0 (by decide) rfl (vp_in_iff.mpr ⟨by omega, by omega⟩) dX10_mayDo_22 ?_
    refine lv_topi (fun x_11 ex_11 => ?_)
    have qx_11 : x_11.toInt = (st 1 0 (x_3.toNatClampNeg)).toInt := congrArg Int32.toInt ex_11
    refine lv_if_eq (tgt := 83) hx hb dX10_mayDo_23 (by decide) (fun c_12 => ?_) (fun c_12 => ?_)
    · have ic_12 := gz_eq (rfl : x_11.toInt = x_11.toInt) (by decide : (0 : Int32).toInt = 0) c_12
      refine lv_iconst (v := 0) hx hb dX10_mayDo_83 (by decide) ?_
      exact gs_iret hx hb hr hlocks hM hS (by decide) ⟨hB_st, (Or.inr (rfl))⟩ (by exact Nat.le_refl _) (by exact Nat.le_refl _) dX10_mayDo_84
    · have ic_12 := gz_ne (rfl : x_11.toInt = x_11.toInt) (by decide : (0 : Int32).toInt = 0) c_12
      refine lv_aload_n hx hb dX10_mayDo_26 rfl (lv_at hl 1 rfl) ?_
      refine gs_get (C := RX10) (T := TX10) (N := 59) hx hb hts inX10 hown hK hM 0 0 45 (by decide) rfl rfl (by decide) (hts _ gm_946) (fun _ h9 => h9) rfl dX10_mayDo_27 ?_
      refine lv_bipush (v := 6) hx hb dX10_mayDo_30 (by decide) ?_
      refine lv_iload_n hx hb dX10_mayDo_32 rfl (lv_at hl 2 rfl) ?_
      refine lv_imul hx hb dX10_mayDo_33 ?_
      refine lv_topi (fun x_13 ex_13 => ?_)
      try have tx_13 : x_13.toInt = 6 * x.toInt := by rw [ex_13]; exact gz_mulI (x := 6) (y := x.toInt) (by decide) rfl (by omega) (by omega)
      refine lv_iload hx hb dX10_mayDo_34 (lv_at hl 0 rfl) ?_
      refine lv_iadd hx hb dX10_mayDo_36 ?_
      refine lv_topi (fun x_14 ex_14 => ?_)
      try have tx_14 : x_14.toInt = x_13.toInt + x_3.toInt := by rw [ex_14]; exact gz_addI (x := x_13.toInt) (y := x_3.toInt) rfl rfl (by omega) (by omega)
      refine gs_iald hx hb hK hM 29 0 (by decide) rfl (vp_in_iff.mpr ⟨by omega, by omega⟩) dX10_mayDo_37 ?_
      refine lv_topi (fun x_15 ex_15 => ?_)
      have qx_15 : x_15.toInt = (st 29 0 (x_14.toNatClampNeg)).toInt := congrArg Int32.toInt ex_15
      refine lv_aload_n hx hb dX10_mayDo_38 rfl (lv_at hl 1 rfl) ?_
      refine gs_get (C := RX10) (T := TX10) (N := 59) hx hb hts inX10 hown hK hM 0 0 40 (by decide) rfl rfl (by decide) (hts _ gm_941) (fun _ h9 => h9) rfl dX10_mayDo_39 ?_
      refine lv_iload_n hx hb dX10_mayDo_42 rfl (lv_at hl 3 rfl) ?_
      refine gs_iald hx hb hK hM 24 0 (by decide) rfl (vp_in_iff.mpr ⟨by omega, by omega⟩) dX10_mayDo_43 ?_
      refine lv_topi (fun x_16 ex_16 => ?_)
      have qx_16 : x_16.toInt = (st 24 0 (y.toNatClampNeg)).toInt := congrArg Int32.toInt ex_16
      refine lv_icmp_lt (tgt := 83) hx hb dX10_mayDo_44 (by decide) (fun c_17 => ?_) (fun c_17 => ?_)
      · have ic_17 := gz_lt (rfl : x_15.toInt = x_15.toInt) (rfl : x_16.toInt = x_16.toInt) c_17
        have lc_17 := gi_hi x_16
        refine lv_iconst (v := 0) hx hb dX10_mayDo_83 (by decide) ?_
        exact gs_iret hx hb hr hlocks hM hS (by decide) ⟨hB_st, (Or.inr (rfl))⟩ (by exact Nat.le_refl _) (by exact Nat.le_refl _) dX10_mayDo_84
      · have ic_17 := gz_nlt (rfl : x_15.toInt = x_15.toInt) (rfl : x_16.toInt = x_16.toInt) c_17
        refine lv_aload_n hx hb dX10_mayDo_47 rfl (lv_at hl 1 rfl) ?_
        refine lv_iload hx hb dX10_mayDo_48 (lv_at hl 0 rfl) ?_
        refine lv_aload_n hx hb dX10_mayDo_50 rfl (lv_at hl 1 rfl) ?_
        refine gs_get (C := RX10) (T := TX10) (N := 59) hx hb hts inX10 hown hK hM 0 0 39 (by decide) rfl rfl (by decide) (hts _ gm_940) (fun _ h9 => h9) rfl dX10_mayDo_51 ?_
        refine lv_iload_n hx hb dX10_mayDo_54 rfl (lv_at hl 3 rfl) ?_
        refine gs_iald hx hb hK hM 23 0 (by decide) rfl (vp_in_iff.mpr ⟨by omega, by omega⟩) dX10_mayDo_55 ?_
        refine lv_topi (fun x_18 ex_18 => ?_)
        have qx_18 : x_18.toInt = (st 23 0 (y.toNatClampNeg)).toInt := congrArg Int32.toInt ex_18
        refine lv_aload_n hx hb dX10_mayDo_56 rfl (lv_at hl 1 rfl) ?_
        refine gs_get (C := RX10) (T := TX10) (N := 59) hx hb hts inX10 hown hK hM 0 0 52 (by decide) rfl rfl (by decide) (hts _ gm_953) (fun _ h9 => h9) rfl dX10_mayDo_57 ?_
        refine lv_bipush (v := 6) hx hb dX10_mayDo_60 (by decide) ?_
        refine lv_iload_n hx hb dX10_mayDo_62 rfl (lv_at hl 2 rfl) ?_
        refine lv_imul hx hb dX10_mayDo_63 ?_
        refine lv_topi (fun x_19 ex_19 => ?_)
        try have tx_19 : x_19.toInt = 6 * x.toInt := by rw [ex_19]; exact gz_mulI (x := 6) (y := x.toInt) (by decide) rfl (by omega) (by omega)
        refine lv_iconst (v := 1) hx hb dX10_mayDo_64 (by decide) ?_
        refine lv_aload_n hx hb dX10_mayDo_65 rfl (lv_at hl 1 rfl) ?_
        refine gs_get (C := RX10) (T := TX10) (N := 59) hx hb hts inX10 hown hK hM 0 0 51 (by decide) rfl rfl (by decide) (hts _ gm_952) (fun _ h9 => h9) rfl dX10_mayDo_66 ?_
        refine lv_bipush (v := 6) hx hb dX10_mayDo_69 (by decide) ?_
        refine lv_iload_n hx hb dX10_mayDo_71 rfl (lv_at hl 2 rfl) ?_
        refine lv_imul hx hb dX10_mayDo_72 ?_
        refine lv_topi (fun x_20 ex_20 => ?_)
        try have tx_20 : x_20.toInt = 6 * x.toInt := by rw [ex_20]; exact gz_mulI (x := 6) (y := x.toInt) (by decide) rfl (by omega) (by omega)
        refine gs_calli (va_runV (As := [.int x_3, .int x_18, .ref (ad 36 0), .int x_19, .int 1, .ref (ad 35 0), .int x_20]) (rest := []) ⟨hx, hb, hml, hown, hts⟩ (m_isRightB l G cy sK sV ad H.size st hB_st.1 x_3 x_18 x_19 x_20 x_3.toInt x_18.toInt x_19.toInt x_20.toInt rfl rfl rfl rfl (by first | decide | omega) (by first | decide | omega) (by first | decide | omega) (by first | decide | omega) (by first | decide | omega) (by first | decide | omega) rs bk hbk hru (LM.all hLM mA.rf) hwf) ⟨(gz_cb (n := 7) hts gm_1220 gm_12 gm_1223 ⟨by decide +kernel, by decide +kernel, by decide +kernel⟩ ⟨Nat.le_of_ble_eq_true rfl, Nat.le_of_ble_eq_true rfl⟩), hts _ gm_1222, hts _ gs_52⟩ (gs_preV hK hov hE hI hM hm hS hA 0 0 (by decide) rfl rfl) rfl rfl hl.1 rfl (lv_room (Nat.le_of_ble_eq_true rfl)) dX10_mayDo_73 ⟨Nat.le_of_ble_eq_true rfl, Nat.le_of_ble_eq_true rfl⟩) hm hS hA (fun r_21 st_21 H locs hw_21 hM hS => ?_)
        obtain ⟨n_21, hw_21⟩ := hw_21
        have n_21 := gBN.nil n_21
        subst n_21
        rcases hw_21 with ⟨rfl, hw_21_0⟩ | ⟨rfl, hw_21_0⟩
        · skip
          refine lv_if_eq (tgt := 83) hx hb dX10_mayDo_76 (by decide) (fun h9 => absurd h9 (by decide)) (fun _ => ?_)
          refine lv_iconst (v := 1) hx hb dX10_mayDo_79 (by decide) ?_
          refine lv_goto (tgt := 84) hx hb dX10_mayDo_80 (by decide) ?_
          exact gs_iret hx hb hr hlocks hM hS (by decide) ⟨hB_st, (Or.inl rfl)⟩ (by exact Nat.le_refl _) (by exact Nat.le_refl _) dX10_mayDo_84
        · skip
          refine lv_if_eq (tgt := 83) hx hb dX10_mayDo_76 (by decide) (fun _ => ?_) (fun h9 => absurd (by decide) h9)
          refine lv_iconst (v := 0) hx hb dX10_mayDo_83 (by decide) ?_
          exact gs_iret hx hb hr hlocks hM hS (by decide) ⟨hB_st, (Or.inr (rfl))⟩ (by exact Nat.le_refl _) (by exact Nat.le_refl _) dX10_mayDo_84

set_option maxHeartbeats 4000000 in
set_option maxRecDepth 100000 in
/-- WellCourtModel.goes -/
theorem m_goes (l : Launch) (G : va_G) (cy : Nat → ClassId) (sK sV : Nat → Nat) (ad : Nat → Nat → Nat) (sz : Nat) (st : gS) (hB : gBd bM st) (x : Int32) (y : Int32) (w : Int32) (v : Int32) (Xx : Int) (Xy : Int) (Xw : Int) (Xv : Int) (kx : x.toInt = Xx) (ky : y.toInt = Xy) (kw : w.toInt = Xw) (kv : v.toInt = Xv) (hx0 : 0 ≤ Xx) (hx1 : Xx ≤ 55) (hy0 : 0 ≤ Xy) (hy1 : Xy ≤ 3) (hw0 : Xw = 9 ∨ (0 ≤ Xw ∧ Xw ≤ 7)) : gsMv l yX10_goes cX10_goes 7 ({ frames := 0, cells := 0, slots := 0, locals := 0 } : Room) G cy sK sV (shM cy ad) cnM ad sz [.ref (ad 0 0), .int x, .int y, .int w, .int v] st (fun (u : gS) => gBN bM kM [2900, 3000, 3100, 3200, 3500, 3600] st u ∧ (True)) := by
  refine gs_start (fun A => gsQv G (shM cy ad) cnM ad _ A) (by decide) (Nat.le_of_ble_eq_true rfl) ?_
  intro p e s m below meth c A ls H hx hb hr hml hlocks hown hts hK hov hE hI hM hm hS hA hl
  have hl : lv_has ls 7 [(0, .ref (ad 0 0)), (1, .int x), (2, .int y), (3, .int w), (4, .int v)] := hl
  have hB_st : gBN bM kM [2900, 3000, 3100, 3200, 3500, 3600] st st := gBN.rf hB
  generalize hQe : MQ below _ _ s _ _ A = Q
  refine lv_iload_n hx hb dX10_goes_0 rfl (lv_at hl 1 rfl) ?_
  refine lv_iconst (v := 1) hx hb dX10_goes_1 (by decide) ?_
  refine lv_iadd hx hb dX10_goes_2 ?_
  refine lv_topi (fun x_1 ex_1 => ?_)
  try have tx_1 : x_1.toInt = x.toInt + 1 := by rw [ex_1]; exact gz_addP (x := x.toInt) (y := 1) rfl (by decide) (by omega) (by omega)
  refine lv_istore (lv' := [(5, .int x_1), (0, .ref (ad 0 0)), (1, .int x), (2, .int y), (3, .int w), (4, .int v)]) hx hb dX10_goes_3 hl (by decide) rfl (fun ls hl => ?_)
  refine lv_iconst (v := 0) hx hb dX10_goes_5 (by decide) ?_
  refine lv_istore (lv' := [(6, .int 0), (5, .int x_1), (0, .ref (ad 0 0)), (1, .int x), (2, .int y), (3, .int w), (4, .int v)]) hx hb dX10_goes_6 hl (by decide) rfl (fun ls hl => ?_)
  have lp2 : ∀ (n2 : Nat) (sv2 : gS) (y2_0 : Int32) (H : Heap) (locs : List Loc) (ls : Array Slot), (6 - y2_0.toInt).toNat < n2 → gBN bM kM [2900, 3000, 3100, 3200, 3500, 3600] st sv2 → (0 ≤ y2_0.toInt) → gM G (shM cy ad) cnM ad sv2 H → va_S A s.heap H locs → lv_has ls 7 [(6, .int y2_0), (5, .int x_1), (0, .ref (ad 0 0)), (1, .int x), (2, .int y), (3, .int w), (4, .int v)] → W p l e ({ frames := 0, cells := 0, slots := 0, locals := 0 } : Room) s m [.ref (ad 0 0), .int x, .int y, .int w, .int v].toArray below meth c H locs 0 0 Q (F0 m 8 ls []) := by
    intro n2
    induction n2 with
    | zero => intro sv2 y2_0 H locs ls h9; exact absurd h9 (Nat.not_lt_zero _)
    | succ n2 ih_2 =>
      intro sv2 y2_0 H locs ls hme2 hB_sv2 hv2_0 hM hS hl
      refine lv_iload hx hb dX10_goes_8 (lv_at hl 0 rfl) ?_
      refine lv_bipush (v := 6) hx hb dX10_goes_10 (by decide) ?_
      refine lv_icmp_ge (tgt := 96) hx hb dX10_goes_12 (by decide) (fun c_3 => ?_) (fun c_3 => ?_)
      · have ic_3 := gz_le (by decide : (6 : Int32).toInt = 6) (rfl : y2_0.toInt = y2_0.toInt) c_3
        refine lv_iconst (v := 0) hx hb dX10_goes_96 (by decide) ?_
        refine lv_istore (lv' := [(6, .int 0), (5, .int x_1), (0, .ref (ad 0 0)), (1, .int x), (2, .int y), (3, .int w), (4, .int v)]) hx hb dX10_goes_97 hl (by decide) rfl (fun ls hl => ?_)
        have lp4 : ∀ (n4 : Nat) (sv4 : gS) (y4_0 : Int32) (H : Heap) (locs : List Loc) (ls : Array Slot), (4 - y4_0.toInt).toNat < n4 → gBN bM kM [2900, 3000, 3100, 3200, 3500, 3600] st sv4 → (0 ≤ y4_0.toInt) → gM G (shM cy ad) cnM ad sv4 H → va_S A s.heap H locs → lv_has ls 7 [(6, .int y4_0), (5, .int x_1), (0, .ref (ad 0 0)), (1, .int x), (2, .int y), (3, .int w), (4, .int v)] → W p l e ({ frames := 0, cells := 0, slots := 0, locals := 0 } : Room) s m [.ref (ad 0 0), .int x, .int y, .int w, .int v].toArray below meth c H locs 0 0 Q (F0 m 99 ls []) := by
          intro n4
          induction n4 with
          | zero => intro sv4 y4_0 H locs ls h9; exact absurd h9 (Nat.not_lt_zero _)
          | succ n4 ih_4 =>
            intro sv4 y4_0 H locs ls hme4 hB_sv4 hv4_0 hM hS hl
            refine lv_iload hx hb dX10_goes_99 (lv_at hl 0 rfl) ?_
            refine lv_iconst (v := 4) hx hb dX10_goes_101 (by decide) ?_
            refine lv_icmp_ge (tgt := 180) hx hb dX10_goes_102 (by decide) (fun c_5 => ?_) (fun c_5 => ?_)
            · have ic_5 := gz_le (by decide : (4 : Int32).toInt = 4) (rfl : y4_0.toInt = y4_0.toInt) c_5
              refine lv_aload_n hx hb dX10_goes_180 rfl (lv_at hl 2 rfl) ?_
              refine gs_get (C := RX10) (T := TX10) (N := 59) hx hb hts inX10 hown hK hM 0 0 46 (by decide) rfl rfl (by decide) (hts _ gm_947) (fun _ h9 => h9) rfl dX10_goes_181 ?_
              refine lv_iconst (v := 4) hx hb dX10_goes_184 (by decide) ?_
              refine lv_iload_n hx hb dX10_goes_185 rfl (lv_at hl 3 rfl) ?_
              refine lv_imul hx hb dX10_goes_186 ?_
              refine lv_topi (fun x_6 ex_6 => ?_)
              try have tx_6 : x_6.toInt = 4 * x.toInt := by rw [ex_6]; exact gz_mulI (x := 4) (y := x.toInt) (by decide) rfl (by omega) (by omega)
              refine lv_iload_n hx hb dX10_goes_187 rfl (lv_at hl 4 rfl) ?_
              refine lv_iadd hx hb dX10_goes_188 ?_
              refine lv_topi (fun x_7 ex_7 => ?_)
              try have tx_7 : x_7.toInt = x_6.toInt + y.toInt := by rw [ex_7]; exact gz_addI (x := x_6.toInt) (y := y.toInt) rfl rfl (by omega) (by omega)
              refine gs_iald hx hb hK hM 30 0 (by decide) rfl (vp_in_iff.mpr ⟨by omega, by omega⟩) dX10_goes_189 ?_
              refine lv_topi (fun x_8 ex_8 => ?_)
              have qx_8 : x_8.toInt = (sv4 30 0 (x_7.toNatClampNeg)).toInt := congrArg Int32.toInt ex_8
              have bx_8 : (0 : Int) ≤ x_8.toInt ∧ x_8.toInt ≤ (5 : Int) := by rw [qx_8]; exact hB_sv4.1 30 0 (x_7.toNatClampNeg)
              refine lv_istore (lv' := [(6, .int x_8), (5, .int x_1), (0, .ref (ad 0 0)), (1, .int x), (2, .int y), (3, .int w), (4, .int v)]) hx hb dX10_goes_190 hl (by decide) rfl (fun ls hl => ?_)
              refine lv_iload_n hx hb dX10_goes_192 rfl (lv_at hl 5 rfl) ?_
              refine lv_if_ne (tgt := 234) hx hb dX10_goes_193 (by decide) (fun c_9 => ?_) (fun c_9 => ?_)
              · have ic_9 := gz_ne (rfl : w.toInt = w.toInt) (by decide : (0 : Int32).toInt = 0) c_9
                refine lv_iload_n hx hb dX10_goes_234 rfl (lv_at hl 5 rfl) ?_
                refine lv_iconst (v := 1) hx hb dX10_goes_235 (by decide) ?_
                refine lv_icmp_le (tgt := 287) hx hb dX10_goes_236 (by decide) (fun c_10 => ?_) (fun c_10 => ?_)
                · have ic_10 := gz_le (rfl : w.toInt = w.toInt) (by decide : (1 : Int32).toInt = 1) c_10
                  rw [← hQe]
                  exact gs_vret hx hb hr hlocks hM hS ⟨hB_sv4, trivial⟩ (by exact Nat.le_refl _) (by exact Nat.le_refl _) dX10_goes_287
                · have ic_10 := gz_nle (rfl : w.toInt = w.toInt) (by decide : (1 : Int32).toInt = 1) c_10
                  refine lv_iload_n hx hb dX10_goes_239 rfl (lv_at hl 5 rfl) ?_
                  refine lv_bipush (v := 9) hx hb dX10_goes_240 (by decide) ?_
                  refine lv_icmp_ge (tgt := 287) hx hb dX10_goes_242 (by decide) (fun c_11 => ?_) (fun c_11 => ?_)
                  · have ic_11 := gz_le (by decide : (9 : Int32).toInt = 9) (rfl : w.toInt = w.toInt) c_11
                    rw [← hQe]
                    exact gs_vret hx hb hr hlocks hM hS ⟨hB_sv4, trivial⟩ (by exact Nat.le_refl _) (by exact Nat.le_refl _) dX10_goes_287
                  · have ic_11 := gz_nle (by decide : (9 : Int32).toInt = 9) (rfl : w.toInt = w.toInt) c_11
                    refine lv_aload_n hx hb dX10_goes_245 rfl (lv_at hl 2 rfl) ?_
                    refine gs_get (C := RX10) (T := TX10) (N := 59) hx hb hts inX10 hown hK hM 0 0 46 (by decide) rfl rfl (by decide) (hts _ gm_947) (fun _ h9 => h9) rfl dX10_goes_246 ?_
                    refine lv_iconst (v := 4) hx hb dX10_goes_249 (by decide) ?_
                    refine lv_iload hx hb dX10_goes_250 (lv_at hl 1 rfl) ?_
                    refine lv_imul hx hb dX10_goes_252 ?_
                    refine lv_topi (fun x_12 ex_12 => ?_)
                    try have tx_12 : x_12.toInt = 4 * x_1.toInt := by rw [ex_12]; exact gz_mulI (x := 4) (y := x_1.toInt) (by decide) rfl (by omega) (by omega)
                    refine lv_iload_n hx hb dX10_goes_253 rfl (lv_at hl 4 rfl) ?_
                    refine lv_iadd hx hb dX10_goes_254 ?_
                    refine lv_topi (fun x_13 ex_13 => ?_)
                    try have tx_13 : x_13.toInt = x_12.toInt + y.toInt := by rw [ex_13]; exact gz_addI (x := x_12.toInt) (y := y.toInt) rfl rfl (by omega) (by omega)
                    refine lv_iload_n hx hb dX10_goes_255 rfl (lv_at hl 5 rfl) ?_
                    refine lv_iconst (v := 2) hx hb dX10_goes_256 (by decide) ?_
                    refine lv_isub hx hb dX10_goes_257 ?_
                    refine lv_topi (fun x_14 ex_14 => ?_)
                    try have tx_14 : x_14.toInt = w.toInt - 2 := by rw [ex_14]; exact gz_subP (x := w.toInt) (y := 2) rfl (by decide) (by omega) (by omega)
                    refine gs_iast hx hb hK hI hm hM hS 30 0 (by decide) (fun _ => rfl) (vp_in_iff.mpr ⟨by omega, by omega⟩) dX10_goes_258 (fun st_15 H locs est_15 hM hS => ?_)
                    have hB_st_15 : gBN bM kM [2900, 3000, 3100, 3200, 3500, 3600] st st_15 := by rw [est_15]; exact hB_sv4.up (show (3000 : Nat) ∈ _ from by decide) (show (0 : Int) ≤ x_14.toInt from by omega) (show x_14.toInt ≤ (5 : Int) from by omega)
                    refine lv_aload_n hx hb dX10_goes_259 rfl (lv_at hl 2 rfl) ?_
                    refine gs_get (C := RX10) (T := TX10) (N := 59) hx hb hts inX10 hown hK hM 0 0 47 (by decide) rfl rfl (by decide) (hts _ gm_948) (fun _ h9 => h9) rfl dX10_goes_260 ?_
                    refine lv_iconst (v := 4) hx hb dX10_goes_263 (by decide) ?_
                    refine lv_iload hx hb dX10_goes_264 (lv_at hl 1 rfl) ?_
                    refine lv_imul hx hb dX10_goes_266 ?_
                    refine lv_topi (fun x_16 ex_16 => ?_)
                    try have tx_16 : x_16.toInt = 4 * x_1.toInt := by rw [ex_16]; exact gz_mulI (x := 4) (y := x_1.toInt) (by decide) rfl (by omega) (by omega)
                    refine lv_iload_n hx hb dX10_goes_267 rfl (lv_at hl 4 rfl) ?_
                    refine lv_iadd hx hb dX10_goes_268 ?_
                    refine lv_topi (fun x_17 ex_17 => ?_)
                    try have tx_17 : x_17.toInt = x_16.toInt + y.toInt := by rw [ex_17]; exact gz_addI (x := x_16.toInt) (y := y.toInt) rfl rfl (by omega) (by omega)
                    refine lv_iload hx hb dX10_goes_269 (lv_at hl 6 rfl) ?_
                    refine lv_aload_n hx hb dX10_goes_271 rfl (lv_at hl 2 rfl) ?_
                    refine gs_get (C := RX10) (T := TX10) (N := 59) hx hb hts inX10 hown hK hM 0 0 44 (by decide) rfl rfl (by decide) (hts _ gm_945) (fun _ h9 => h9) rfl dX10_goes_272 ?_
                    refine lv_bipush (v := 6) hx hb dX10_goes_275 (by decide) ?_
                    refine lv_iload hx hb dX10_goes_277 (lv_at hl 0 rfl) ?_
                    refine lv_imul hx hb dX10_goes_279 ?_
                    refine lv_topi (fun x_18 ex_18 => ?_)
                    try have tx_18 : x_18.toInt = 6 * x_8.toInt := by rw [ex_18]; exact gz_mulI (x := 6) (y := x_8.toInt) (by decide) rfl (by omega) (by omega)
                    refine lv_iload_n hx hb dX10_goes_280 rfl (lv_at hl 5 rfl) ?_
                    refine lv_iadd hx hb dX10_goes_281 ?_
                    refine lv_topi (fun x_19 ex_19 => ?_)
                    try have tx_19 : x_19.toInt = x_18.toInt + w.toInt := by rw [ex_19]; exact gz_addI (x := x_18.toInt) (y := w.toInt) rfl rfl (by omega) (by omega)
                    refine lv_iconst (v := 2) hx hb dX10_goes_282 (by decide) ?_
                    refine lv_isub hx hb dX10_goes_283 ?_
                    refine lv_topi (fun x_20 ex_20 => ?_)
                    try have tx_20 : x_20.toInt = x_19.toInt - 2 := by rw [ex_20]; exact gz_subP (x := x_19.toInt) (y := 2) rfl (by decide) (by omega) (by omega)
                    refine gs_iald hx hb hK hM 28 0 (by decide) rfl (vp_in_iff.mpr ⟨by omega, by omega⟩) dX10_goes_284 ?_
                    refine lv_topi (fun x_21 ex_21 => ?_)
                    have qx_21 : x_21.toInt = (st_15 28 0 (x_20.toNatClampNeg)).toInt := congrArg Int32.toInt ex_21
                    have rx_21 : x_21.toInt = ((st 28 0 (x_20.toNatClampNeg)) : Int32).toInt := by rw [ex_21]; exact congrArg Int32.toInt ((((congrFun (congrFun (congrFun est_15 28) 0) (x_20.toNatClampNeg)).trans (congrFun (congrFun (gU_k (by decide)) 0) (x_20.toNatClampNeg))).trans (hB_sv4.2 28 0 (x_20.toNatClampNeg) (show (2800 : Nat) ∉ _ from by decide))))
                    refine lv_iadd hx hb dX10_goes_285 ?_
                    refine lv_topi (fun x_22 ex_22 => ?_)
                    refine gs_iast hx hb hK hI hm hM hS 31 0 (by decide) (fun _ => rfl) (vp_in_iff.mpr ⟨by omega, by omega⟩) dX10_goes_286 (fun st_23 H locs est_23 hM hS => ?_)
                    have hB_st_23 : gBN bM kM [2900, 3000, 3100, 3200, 3500, 3600] st st_23 := by rw [est_23]; exact hB_st_15.up (show (3100 : Nat) ∈ _ from by decide) (gi_lo _) (gi_hi _)
                    rw [← hQe]
                    exact gs_vret hx hb hr hlocks hM hS ⟨hB_st_23, trivial⟩ (by exact Nat.le_refl _) (by exact Nat.le_refl _) dX10_goes_287
              · have ic_9 := gz_eqn (rfl : w.toInt = w.toInt) (by decide : (0 : Int32).toInt = 0) c_9
                refine lv_aload_n hx hb dX10_goes_196 rfl (lv_at hl 2 rfl) ?_
                refine gs_get (C := RX10) (T := TX10) (N := 59) hx hb hts inX10 hown hK hM 0 0 45 (by decide) rfl rfl (by decide) (hts _ gm_946) (fun _ h9 => h9) rfl dX10_goes_197 ?_
                refine lv_bipush (v := 6) hx hb dX10_goes_200 (by decide) ?_
                refine lv_iload hx hb dX10_goes_202 (lv_at hl 1 rfl) ?_
                refine lv_imul hx hb dX10_goes_204 ?_
                refine lv_topi (fun x_24 ex_24 => ?_)
                try have tx_24 : x_24.toInt = 6 * x_1.toInt := by rw [ex_24]; exact gz_mulI (x := 6) (y := x_1.toInt) (by decide) rfl (by omega) (by omega)
                refine lv_iload hx hb dX10_goes_205 (lv_at hl 0 rfl) ?_
                refine lv_iadd hx hb dX10_goes_207 ?_
                refine lv_topi (fun x_25 ex_25 => ?_)
                try have tx_25 : x_25.toInt = x_24.toInt + x_8.toInt := by rw [ex_25]; exact gz_addI (x := x_24.toInt) (y := x_8.toInt) rfl rfl (by omega) (by omega)
                refine lv_dup2_11 hx hb dX10_goes_208 rfl rfl ?_
                refine gs_iald hx hb hK hM 29 0 (by decide) rfl (vp_in_iff.mpr ⟨by omega, by omega⟩) dX10_goes_209 ?_
                refine lv_topi (fun x_26 ex_26 => ?_)
                have qx_26 : x_26.toInt = (sv4 29 0 (x_25.toNatClampNeg)).toInt := congrArg Int32.toInt ex_26
                refine lv_aload_n hx hb dX10_goes_210 rfl (lv_at hl 2 rfl) ?_
                refine gs_get (C := RX10) (T := TX10) (N := 59) hx hb hts inX10 hown hK hM 0 0 40 (by decide) rfl rfl (by decide) (hts _ gm_941) (fun _ h9 => h9) rfl dX10_goes_211 ?_
                refine lv_iload_n hx hb dX10_goes_214 rfl (lv_at hl 4 rfl) ?_
                refine gs_iald hx hb hK hM 24 0 (by decide) rfl (vp_in_iff.mpr ⟨by omega, by omega⟩) dX10_goes_215 ?_
                refine lv_topi (fun x_27 ex_27 => ?_)
                have qx_27 : x_27.toInt = (sv4 24 0 (y.toNatClampNeg)).toInt := congrArg Int32.toInt ex_27
                have rx_27 : x_27.toInt = ((st 24 0 (y.toNatClampNeg)) : Int32).toInt := by rw [ex_27]; exact congrArg Int32.toInt ((hB_sv4.2 24 0 (y.toNatClampNeg) (show (2400 : Nat) ∉ _ from by decide)))
                refine lv_isub hx hb dX10_goes_216 ?_
                refine lv_topi (fun x_28 ex_28 => ?_)
                refine gs_iast hx hb hK hI hm hM hS 29 0 (by decide) (fun _ => rfl) (vp_in_iff.mpr ⟨by omega, by omega⟩) dX10_goes_217 (fun st_29 H locs est_29 hM hS => ?_)
                have hB_st_29 : gBN bM kM [2900, 3000, 3100, 3200, 3500, 3600] st st_29 := by rw [est_29]; exact hB_sv4.up (show (2900 : Nat) ∈ _ from by decide) (gi_lo _) (gi_hi _)
                refine lv_aload_n hx hb dX10_goes_218 rfl (lv_at hl 2 rfl) ?_
                refine gs_get (C := RX10) (T := TX10) (N := 59) hx hb hts inX10 hown hK hM 0 0 48 (by decide) rfl rfl (by decide) (hts _ gm_949) (fun _ h9 => h9) rfl dX10_goes_219 ?_
                refine lv_iconst (v := 4) hx hb dX10_goes_222 (by decide) ?_
                refine lv_iload hx hb dX10_goes_223 (lv_at hl 1 rfl) ?_
                refine lv_imul hx hb dX10_goes_225 ?_
                refine lv_topi (fun x_30 ex_30 => ?_)
                try have tx_30 : x_30.toInt = 4 * x_1.toInt := by rw [ex_30]; exact gz_mulI (x := 4) (y := x_1.toInt) (by decide) rfl (by omega) (by omega)
                refine lv_iload_n hx hb dX10_goes_226 rfl (lv_at hl 4 rfl) ?_
                refine lv_iadd hx hb dX10_goes_227 ?_
                refine lv_topi (fun x_31 ex_31 => ?_)
                try have tx_31 : x_31.toInt = x_30.toInt + y.toInt := by rw [ex_31]; exact gz_addI (x := x_30.toInt) (y := y.toInt) rfl rfl (by omega) (by omega)
                refine lv_iload hx hb dX10_goes_228 (lv_at hl 6 rfl) ?_
                refine gs_iast hx hb hK hI hm hM hS 32 0 (by decide) (fun _ => rfl) (vp_in_iff.mpr ⟨by omega, by omega⟩) dX10_goes_230 (fun st_32 H locs est_32 hM hS => ?_)
                have hB_st_32 : gBN bM kM [2900, 3000, 3100, 3200, 3500, 3600] st st_32 := by rw [est_32]; exact hB_st_29.up (show (3200 : Nat) ∈ _ from by decide) (gi_lo _) (gi_hi _)
                refine lv_goto (tgt := 287) hx hb dX10_goes_231 (by decide) ?_
                rw [← hQe]
                exact gs_vret hx hb hr hlocks hM hS ⟨hB_st_32, trivial⟩ (by exact Nat.le_refl _) (by exact Nat.le_refl _) dX10_goes_287
            · have ic_5 := gz_nle (by decide : (4 : Int32).toInt = 4) (rfl : y4_0.toInt = y4_0.toInt) c_5
              refine lv_aload_n hx hb dX10_goes_105 rfl (lv_at hl 2 rfl) ?_
              refine gs_get (C := RX10) (T := TX10) (N := 59) hx hb hts inX10 hown hK hM 0 0 46 (by decide) rfl rfl (by decide) (hts _ gm_947) (fun _ h9 => h9) rfl dX10_goes_106 ?_
              refine lv_iconst (v := 4) hx hb dX10_goes_109 (by decide) ?_
              refine lv_iload hx hb dX10_goes_110 (lv_at hl 1 rfl) ?_
              refine lv_imul hx hb dX10_goes_112 ?_
              refine lv_topi (fun x_33 ex_33 => ?_)
              try have tx_33 : x_33.toInt = 4 * x_1.toInt := by rw [ex_33]; exact gz_mulI (x := 4) (y := x_1.toInt) (by decide) rfl (by omega) (by omega)
              refine lv_iload hx hb dX10_goes_113 (lv_at hl 0 rfl) ?_
              refine lv_iadd hx hb dX10_goes_115 ?_
              refine lv_topi (fun x_34 ex_34 => ?_)
              try have tx_34 : x_34.toInt = x_33.toInt + y4_0.toInt := by rw [ex_34]; exact gz_addI (x := x_33.toInt) (y := y4_0.toInt) rfl rfl (by omega) (by omega)
              refine lv_aload_n hx hb dX10_goes_116 rfl (lv_at hl 2 rfl) ?_
              refine gs_get (C := RX10) (T := TX10) (N := 59) hx hb hts inX10 hown hK hM 0 0 46 (by decide) rfl rfl (by decide) (hts _ gm_947) (fun _ h9 => h9) rfl dX10_goes_117 ?_
              refine lv_iconst (v := 4) hx hb dX10_goes_120 (by decide) ?_
              refine lv_iload_n hx hb dX10_goes_121 rfl (lv_at hl 3 rfl) ?_
              refine lv_imul hx hb dX10_goes_122 ?_
              refine lv_topi (fun x_35 ex_35 => ?_)
              try have tx_35 : x_35.toInt = 4 * x.toInt := by rw [ex_35]; exact gz_mulI (x := 4) (y := x.toInt) (by decide) rfl (by omega) (by omega)
              refine lv_iload hx hb dX10_goes_123 (lv_at hl 0 rfl) ?_
              refine lv_iadd hx hb dX10_goes_125 ?_
              refine lv_topi (fun x_36 ex_36 => ?_)
              try have tx_36 : x_36.toInt = x_35.toInt + y4_0.toInt := by rw [ex_36]; exact gz_addI (x := x_35.toInt) (y := y4_0.toInt) rfl rfl (by omega) (by omega)
              refine gs_iald hx hb hK hM 30 0 (by decide) rfl (vp_in_iff.mpr ⟨by omega, by omega⟩) dX10_goes_126 ?_
              refine lv_topi (fun x_37 ex_37 => ?_)
              have qx_37 : x_37.toInt = (sv4 30 0 (x_36.toNatClampNeg)).toInt := congrArg Int32.toInt ex_37
              have bx_37 : (0 : Int) ≤ x_37.toInt ∧ x_37.toInt ≤ (5 : Int) := by rw [qx_37]; exact hB_sv4.1 30 0 (x_36.toNatClampNeg)
              refine gs_iast hx hb hK hI hm hM hS 30 0 (by decide) (fun _ => rfl) (vp_in_iff.mpr ⟨by omega, by omega⟩) dX10_goes_127 (fun st_38 H locs est_38 hM hS => ?_)
              have hB_st_38 : gBN bM kM [2900, 3000, 3100, 3200, 3500, 3600] st st_38 := by rw [est_38]; exact hB_sv4.up (show (3000 : Nat) ∈ _ from by decide) (show (0 : Int) ≤ x_37.toInt from by omega) (show x_37.toInt ≤ (5 : Int) from by omega)
              refine lv_aload_n hx hb dX10_goes_128 rfl (lv_at hl 2 rfl) ?_
              refine gs_get (C := RX10) (T := TX10) (N := 59) hx hb hts inX10 hown hK hM 0 0 47 (by decide) rfl rfl (by decide) (hts _ gm_948) (fun _ h9 => h9) rfl dX10_goes_129 ?_
              refine lv_iconst (v := 4) hx hb dX10_goes_132 (by decide) ?_
              refine lv_iload hx hb dX10_goes_133 (lv_at hl 1 rfl) ?_
              refine lv_imul hx hb dX10_goes_135 ?_
              refine lv_topi (fun x_39 ex_39 => ?_)
              try have tx_39 : x_39.toInt = 4 * x_1.toInt := by rw [ex_39]; exact gz_mulI (x := 4) (y := x_1.toInt) (by decide) rfl (by omega) (by omega)
              refine lv_iload hx hb dX10_goes_136 (lv_at hl 0 rfl) ?_
              refine lv_iadd hx hb dX10_goes_138 ?_
              refine lv_topi (fun x_40 ex_40 => ?_)
              try have tx_40 : x_40.toInt = x_39.toInt + y4_0.toInt := by rw [ex_40]; exact gz_addI (x := x_39.toInt) (y := y4_0.toInt) rfl rfl (by omega) (by omega)
              refine lv_aload_n hx hb dX10_goes_139 rfl (lv_at hl 2 rfl) ?_
              refine gs_get (C := RX10) (T := TX10) (N := 59) hx hb hts inX10 hown hK hM 0 0 47 (by decide) rfl rfl (by decide) (hts _ gm_948) (fun _ h9 => h9) rfl dX10_goes_140 ?_
              refine lv_iconst (v := 4) hx hb dX10_goes_143 (by decide) ?_
              refine lv_iload_n hx hb dX10_goes_144 rfl (lv_at hl 3 rfl) ?_
              refine lv_imul hx hb dX10_goes_145 ?_
              refine lv_topi (fun x_41 ex_41 => ?_)
              try have tx_41 : x_41.toInt = 4 * x.toInt := by rw [ex_41]; exact gz_mulI (x := 4) (y := x.toInt) (by decide) rfl (by omega) (by omega)
              refine lv_iload hx hb dX10_goes_146 (lv_at hl 0 rfl) ?_
              refine lv_iadd hx hb dX10_goes_148 ?_
              refine lv_topi (fun x_42 ex_42 => ?_)
              try have tx_42 : x_42.toInt = x_41.toInt + y4_0.toInt := by rw [ex_42]; exact gz_addI (x := x_41.toInt) (y := y4_0.toInt) rfl rfl (by omega) (by omega)
              refine gs_iald hx hb hK hM 31 0 (by decide) rfl (vp_in_iff.mpr ⟨by omega, by omega⟩) dX10_goes_149 ?_
              refine lv_topi (fun x_43 ex_43 => ?_)
              have qx_43 : x_43.toInt = (st_38 31 0 (x_42.toNatClampNeg)).toInt := congrArg Int32.toInt ex_43
              have rx_43 : x_43.toInt = ((sv4 31 0 (x_42.toNatClampNeg)) : Int32).toInt := by rw [ex_43]; exact congrArg Int32.toInt (((congrFun (congrFun (congrFun est_38 31) 0) (x_42.toNatClampNeg)).trans (congrFun (congrFun (gU_k (by decide)) 0) (x_42.toNatClampNeg))))
              refine gs_iast hx hb hK hI hm hM hS 31 0 (by decide) (fun _ => rfl) (vp_in_iff.mpr ⟨by omega, by omega⟩) dX10_goes_150 (fun st_44 H locs est_44 hM hS => ?_)
              have hB_st_44 : gBN bM kM [2900, 3000, 3100, 3200, 3500, 3600] st st_44 := by rw [est_44]; exact hB_st_38.up (show (3100 : Nat) ∈ _ from by decide) (gi_lo _) (gi_hi _)
              refine lv_aload_n hx hb dX10_goes_151 rfl (lv_at hl 2 rfl) ?_
              refine gs_get (C := RX10) (T := TX10) (N := 59) hx hb hts inX10 hown hK hM 0 0 48 (by decide) rfl rfl (by decide) (hts _ gm_949) (fun _ h9 => h9) rfl dX10_goes_152 ?_
              refine lv_iconst (v := 4) hx hb dX10_goes_155 (by decide) ?_
              refine lv_iload hx hb dX10_goes_156 (lv_at hl 1 rfl) ?_
              refine lv_imul hx hb dX10_goes_158 ?_
              refine lv_topi (fun x_45 ex_45 => ?_)
              try have tx_45 : x_45.toInt = 4 * x_1.toInt := by rw [ex_45]; exact gz_mulI (x := 4) (y := x_1.toInt) (by decide) rfl (by omega) (by omega)
              refine lv_iload hx hb dX10_goes_159 (lv_at hl 0 rfl) ?_
              refine lv_iadd hx hb dX10_goes_161 ?_
              refine lv_topi (fun x_46 ex_46 => ?_)
              try have tx_46 : x_46.toInt = x_45.toInt + y4_0.toInt := by rw [ex_46]; exact gz_addI (x := x_45.toInt) (y := y4_0.toInt) rfl rfl (by omega) (by omega)
              refine lv_aload_n hx hb dX10_goes_162 rfl (lv_at hl 2 rfl) ?_
              refine gs_get (C := RX10) (T := TX10) (N := 59) hx hb hts inX10 hown hK hM 0 0 48 (by decide) rfl rfl (by decide) (hts _ gm_949) (fun _ h9 => h9) rfl dX10_goes_163 ?_
              refine lv_iconst (v := 4) hx hb dX10_goes_166 (by decide) ?_
              refine lv_iload_n hx hb dX10_goes_167 rfl (lv_at hl 3 rfl) ?_
              refine lv_imul hx hb dX10_goes_168 ?_
              refine lv_topi (fun x_47 ex_47 => ?_)
              try have tx_47 : x_47.toInt = 4 * x.toInt := by rw [ex_47]; exact gz_mulI (x := 4) (y := x.toInt) (by decide) rfl (by omega) (by omega)
              refine lv_iload hx hb dX10_goes_169 (lv_at hl 0 rfl) ?_
              refine lv_iadd hx hb dX10_goes_171 ?_
              refine lv_topi (fun x_48 ex_48 => ?_)
              try have tx_48 : x_48.toInt = x_47.toInt + y4_0.toInt := by rw [ex_48]; exact gz_addI (x := x_47.toInt) (y := y4_0.toInt) rfl rfl (by omega) (by omega)
              refine gs_iald hx hb hK hM 32 0 (by decide) rfl (vp_in_iff.mpr ⟨by omega, by omega⟩) dX10_goes_172 ?_
              refine lv_topi (fun x_49 ex_49 => ?_)
              have qx_49 : x_49.toInt = (st_44 32 0 (x_48.toNatClampNeg)).toInt := congrArg Int32.toInt ex_49
              have rx_49 : x_49.toInt = ((sv4 32 0 (x_48.toNatClampNeg)) : Int32).toInt := by rw [ex_49]; exact congrArg Int32.toInt ((((congrFun (congrFun (congrFun est_44 32) 0) (x_48.toNatClampNeg)).trans (congrFun (congrFun (gU_k (by decide)) 0) (x_48.toNatClampNeg))).trans ((congrFun (congrFun (congrFun est_38 32) 0) (x_48.toNatClampNeg)).trans (congrFun (congrFun (gU_k (by decide)) 0) (x_48.toNatClampNeg)))))
              refine gs_iast hx hb hK hI hm hM hS 32 0 (by decide) (fun _ => rfl) (vp_in_iff.mpr ⟨by omega, by omega⟩) dX10_goes_173 (fun st_50 H locs est_50 hM hS => ?_)
              have hB_st_50 : gBN bM kM [2900, 3000, 3100, 3200, 3500, 3600] st st_50 := by rw [est_50]; exact hB_st_44.up (show (3200 : Nat) ∈ _ from by decide) (gi_lo _) (gi_hi _)
              obtain ⟨x_51, ex_51⟩ : ∃ y : Int32, y = y4_0 + 1 := ⟨_, rfl⟩
              try have tx_51 : x_51.toInt = y4_0.toInt + 1 := by rw [ex_51]; exact gz_addP (x := y4_0.toInt) (y := 1) rfl (by decide) (by omega) (by omega)
              refine lv_iinc (v := (x_51)) (lv' := [(6, .int x_51), (5, .int x_1), (0, .ref (ad 0 0)), (1, .int x), (2, .int y), (3, .int w), (4, .int v)]) hx hb dX10_goes_174 hl (k := 0) rfl (by rw [ex_51]; rfl) (by decide) rfl (fun ls hl => ?_)
              refine lv_goto (tgt := 99) hx hb dX10_goes_177 (by decide) ?_
              exact ih_4 st_50 (x_51 : Int32) H _ ls (by omega) hB_st_50 (by omega) hM hS (lv_sub hl [0, 1, 2, 3, 4, 5, 6] rfl)
        exact lp4 ((4 - ((0 : Int32) : Int32).toInt).toNat + 1) sv2 ((0 : Int32) : Int32) H _ ls (Nat.lt_succ_self _) hB_sv2 (by have hl0 : (0 : Int32).toInt = 0 := (by decide); omega) hM hS (lv_sub hl [0, 1, 2, 3, 4, 5, 6] rfl)
      · have ic_3 := gz_nle (by decide : (6 : Int32).toInt = 6) (rfl : y2_0.toInt = y2_0.toInt) c_3
        refine lv_aload_n hx hb dX10_goes_15 rfl (lv_at hl 2 rfl) ?_
        refine gs_get (C := RX10) (T := TX10) (N := 59) hx hb hts inX10 hown hK hM 0 0 45 (by decide) rfl rfl (by decide) (hts _ gm_946) (fun _ h9 => h9) rfl dX10_goes_16 ?_
        refine lv_bipush (v := 6) hx hb dX10_goes_19 (by decide) ?_
        refine lv_iload hx hb dX10_goes_21 (lv_at hl 1 rfl) ?_
        refine lv_imul hx hb dX10_goes_23 ?_
        refine lv_topi (fun x_52 ex_52 => ?_)
        try have tx_52 : x_52.toInt = 6 * x_1.toInt := by rw [ex_52]; exact gz_mulI (x := 6) (y := x_1.toInt) (by decide) rfl (by omega) (by omega)
        refine lv_iload hx hb dX10_goes_24 (lv_at hl 0 rfl) ?_
        refine lv_iadd hx hb dX10_goes_26 ?_
        refine lv_topi (fun x_53 ex_53 => ?_)
        try have tx_53 : x_53.toInt = x_52.toInt + y2_0.toInt := by rw [ex_53]; exact gz_addI (x := x_52.toInt) (y := y2_0.toInt) rfl rfl (by omega) (by omega)
        refine lv_aload_n hx hb dX10_goes_27 rfl (lv_at hl 2 rfl) ?_
        refine gs_get (C := RX10) (T := TX10) (N := 59) hx hb hts inX10 hown hK hM 0 0 45 (by decide) rfl rfl (by decide) (hts _ gm_946) (fun _ h9 => h9) rfl dX10_goes_28 ?_
        refine lv_bipush (v := 6) hx hb dX10_goes_31 (by decide) ?_
        refine lv_iload_n hx hb dX10_goes_33 rfl (lv_at hl 3 rfl) ?_
        refine lv_imul hx hb dX10_goes_34 ?_
        refine lv_topi (fun x_54 ex_54 => ?_)
        try have tx_54 : x_54.toInt = 6 * x.toInt := by rw [ex_54]; exact gz_mulI (x := 6) (y := x.toInt) (by decide) rfl (by omega) (by omega)
        refine lv_iload hx hb dX10_goes_35 (lv_at hl 0 rfl) ?_
        refine lv_iadd hx hb dX10_goes_37 ?_
        refine lv_topi (fun x_55 ex_55 => ?_)
        try have tx_55 : x_55.toInt = x_54.toInt + y2_0.toInt := by rw [ex_55]; exact gz_addI (x := x_54.toInt) (y := y2_0.toInt) rfl rfl (by omega) (by omega)
        refine gs_iald hx hb hK hM 29 0 (by decide) rfl (vp_in_iff.mpr ⟨by omega, by omega⟩) dX10_goes_38 ?_
        refine lv_topi (fun x_56 ex_56 => ?_)
        have qx_56 : x_56.toInt = (sv2 29 0 (x_55.toNatClampNeg)).toInt := congrArg Int32.toInt ex_56
        refine gs_iast hx hb hK hI hm hM hS 29 0 (by decide) (fun _ => rfl) (vp_in_iff.mpr ⟨by omega, by omega⟩) dX10_goes_39 (fun st_57 H locs est_57 hM hS => ?_)
        have hB_st_57 : gBN bM kM [2900, 3000, 3100, 3200, 3500, 3600] st st_57 := by rw [est_57]; exact hB_sv2.up (show (2900 : Nat) ∈ _ from by decide) (gi_lo _) (gi_hi _)
        refine lv_aload_n hx hb dX10_goes_40 rfl (lv_at hl 2 rfl) ?_
        refine gs_get (C := RX10) (T := TX10) (N := 59) hx hb hts inX10 hown hK hM 0 0 51 (by decide) rfl rfl (by decide) (hts _ gm_952) (fun _ h9 => h9) rfl dX10_goes_41 ?_
        refine lv_bipush (v := 6) hx hb dX10_goes_44 (by decide) ?_
        refine lv_iload hx hb dX10_goes_46 (lv_at hl 1 rfl) ?_
        refine lv_imul hx hb dX10_goes_48 ?_
        refine lv_topi (fun x_58 ex_58 => ?_)
        try have tx_58 : x_58.toInt = 6 * x_1.toInt := by rw [ex_58]; exact gz_mulI (x := 6) (y := x_1.toInt) (by decide) rfl (by omega) (by omega)
        refine lv_iload hx hb dX10_goes_49 (lv_at hl 0 rfl) ?_
        refine lv_iadd hx hb dX10_goes_51 ?_
        refine lv_topi (fun x_59 ex_59 => ?_)
        try have tx_59 : x_59.toInt = x_58.toInt + y2_0.toInt := by rw [ex_59]; exact gz_addI (x := x_58.toInt) (y := y2_0.toInt) rfl rfl (by omega) (by omega)
        refine lv_aload_n hx hb dX10_goes_52 rfl (lv_at hl 2 rfl) ?_
        refine gs_get (C := RX10) (T := TX10) (N := 59) hx hb hts inX10 hown hK hM 0 0 51 (by decide) rfl rfl (by decide) (hts _ gm_952) (fun _ h9 => h9) rfl dX10_goes_53 ?_
        refine lv_bipush (v := 6) hx hb dX10_goes_56 (by decide) ?_
        refine lv_iload_n hx hb dX10_goes_58 rfl (lv_at hl 3 rfl) ?_
        refine lv_imul hx hb dX10_goes_59 ?_
        refine lv_topi (fun x_60 ex_60 => ?_)
        try have tx_60 : x_60.toInt = 6 * x.toInt := by rw [ex_60]; exact gz_mulI (x := 6) (y := x.toInt) (by decide) rfl (by omega) (by omega)
        refine lv_iload hx hb dX10_goes_60 (lv_at hl 0 rfl) ?_
        refine lv_iadd hx hb dX10_goes_62 ?_
        refine lv_topi (fun x_61 ex_61 => ?_)
        try have tx_61 : x_61.toInt = x_60.toInt + y2_0.toInt := by rw [ex_61]; exact gz_addI (x := x_60.toInt) (y := y2_0.toInt) rfl rfl (by omega) (by omega)
        refine gs_iald hx hb hK hM 35 0 (by decide) rfl (vp_in_iff.mpr ⟨by omega, by omega⟩) dX10_goes_63 ?_
        refine lv_topi (fun x_62 ex_62 => ?_)
        have qx_62 : x_62.toInt = (st_57 35 0 (x_61.toNatClampNeg)).toInt := congrArg Int32.toInt ex_62
        have rx_62 : x_62.toInt = ((sv2 35 0 (x_61.toNatClampNeg)) : Int32).toInt := by rw [ex_62]; exact congrArg Int32.toInt (((congrFun (congrFun (congrFun est_57 35) 0) (x_61.toNatClampNeg)).trans (congrFun (congrFun (gU_k (by decide)) 0) (x_61.toNatClampNeg))))
        refine gs_iast hx hb hK hI hm hM hS 35 0 (by decide) (fun _ => rfl) (vp_in_iff.mpr ⟨by omega, by omega⟩) dX10_goes_64 (fun st_63 H locs est_63 hM hS => ?_)
        have hB_st_63 : gBN bM kM [2900, 3000, 3100, 3200, 3500, 3600] st st_63 := by rw [est_63]; exact hB_st_57.up (show (3500 : Nat) ∈ _ from by decide) (gi_lo _) (gi_hi _)
        refine lv_aload_n hx hb dX10_goes_65 rfl (lv_at hl 2 rfl) ?_
        refine gs_get (C := RX10) (T := TX10) (N := 59) hx hb hts inX10 hown hK hM 0 0 52 (by decide) rfl rfl (by decide) (hts _ gm_953) (fun _ h9 => h9) rfl dX10_goes_66 ?_
        refine lv_bipush (v := 6) hx hb dX10_goes_69 (by decide) ?_
        refine lv_iload hx hb dX10_goes_71 (lv_at hl 1 rfl) ?_
        refine lv_imul hx hb dX10_goes_73 ?_
        refine lv_topi (fun x_64 ex_64 => ?_)
        try have tx_64 : x_64.toInt = 6 * x_1.toInt := by rw [ex_64]; exact gz_mulI (x := 6) (y := x_1.toInt) (by decide) rfl (by omega) (by omega)
        refine lv_iload hx hb dX10_goes_74 (lv_at hl 0 rfl) ?_
        refine lv_iadd hx hb dX10_goes_76 ?_
        refine lv_topi (fun x_65 ex_65 => ?_)
        try have tx_65 : x_65.toInt = x_64.toInt + y2_0.toInt := by rw [ex_65]; exact gz_addI (x := x_64.toInt) (y := y2_0.toInt) rfl rfl (by omega) (by omega)
        refine lv_aload_n hx hb dX10_goes_77 rfl (lv_at hl 2 rfl) ?_
        refine gs_get (C := RX10) (T := TX10) (N := 59) hx hb hts inX10 hown hK hM 0 0 52 (by decide) rfl rfl (by decide) (hts _ gm_953) (fun _ h9 => h9) rfl dX10_goes_78 ?_
        refine lv_bipush (v := 6) hx hb dX10_goes_81 (by decide) ?_
        refine lv_iload_n hx hb dX10_goes_83 rfl (lv_at hl 3 rfl) ?_
        refine lv_imul hx hb dX10_goes_84 ?_
        refine lv_topi (fun x_66 ex_66 => ?_)
        try have tx_66 : x_66.toInt = 6 * x.toInt := by rw [ex_66]; exact gz_mulI (x := 6) (y := x.toInt) (by decide) rfl (by omega) (by omega)
        refine lv_iload hx hb dX10_goes_85 (lv_at hl 0 rfl) ?_
        refine lv_iadd hx hb dX10_goes_87 ?_
        refine lv_topi (fun x_67 ex_67 => ?_)
        try have tx_67 : x_67.toInt = x_66.toInt + y2_0.toInt := by rw [ex_67]; exact gz_addI (x := x_66.toInt) (y := y2_0.toInt) rfl rfl (by omega) (by omega)
        refine gs_iald hx hb hK hM 36 0 (by decide) rfl (vp_in_iff.mpr ⟨by omega, by omega⟩) dX10_goes_88 ?_
        refine lv_topi (fun x_68 ex_68 => ?_)
        have qx_68 : x_68.toInt = (st_63 36 0 (x_67.toNatClampNeg)).toInt := congrArg Int32.toInt ex_68
        have rx_68 : x_68.toInt = ((sv2 36 0 (x_67.toNatClampNeg)) : Int32).toInt := by rw [ex_68]; exact congrArg Int32.toInt ((((congrFun (congrFun (congrFun est_63 36) 0) (x_67.toNatClampNeg)).trans (congrFun (congrFun (gU_k (by decide)) 0) (x_67.toNatClampNeg))).trans ((congrFun (congrFun (congrFun est_57 36) 0) (x_67.toNatClampNeg)).trans (congrFun (congrFun (gU_k (by decide)) 0) (x_67.toNatClampNeg)))))
        refine gs_iast hx hb hK hI hm hM hS 36 0 (by decide) (fun _ => rfl) (vp_in_iff.mpr ⟨by omega, by omega⟩) dX10_goes_89 (fun st_69 H locs est_69 hM hS => ?_)
        have hB_st_69 : gBN bM kM [2900, 3000, 3100, 3200, 3500, 3600] st st_69 := by rw [est_69]; exact hB_st_63.up (show (3600 : Nat) ∈ _ from by decide) (gi_lo _) (gi_hi _)
        obtain ⟨x_70, ex_70⟩ : ∃ y : Int32, y = y2_0 + 1 := ⟨_, rfl⟩
        try have tx_70 : x_70.toInt = y2_0.toInt + 1 := by rw [ex_70]; exact gz_addP (x := y2_0.toInt) (y := 1) rfl (by decide) (by omega) (by omega)
        refine lv_iinc (v := (x_70)) (lv' := [(6, .int x_70), (5, .int x_1), (0, .ref (ad 0 0)), (1, .int x), (2, .int y), (3, .int w), (4, .int v)]) hx hb dX10_goes_90 hl (k := 0) rfl (by rw [ex_70]; rfl) (by decide) rfl (fun ls hl => ?_)
        refine lv_goto (tgt := 8) hx hb dX10_goes_93 (by decide) ?_
        exact ih_2 st_69 (x_70 : Int32) H _ ls (by omega) hB_st_69 (by omega) hM hS (lv_sub hl [0, 1, 2, 3, 4, 5, 6] rfl)
  exact lp2 ((6 - ((0 : Int32) : Int32).toInt).toNat + 1) st ((0 : Int32) : Int32) H _ ls (Nat.lt_succ_self _) hB_st (by have hl0 : (0 : Int32).toInt = 0 := (by decide); omega) hM hS (lv_sub hl [0, 1, 2, 3, 4, 5, 6] rfl)

set_option maxHeartbeats 4000000 in
set_option maxRecDepth 100000 in
/-- WellCourtModel.isGood -/
theorem m_isGood (l : Launch) (G : va_G) (cy : Nat → ClassId) (sK sV : Nat → Nat) (ad : Nat → Nat → Nat) (sz : Nat) (st : gS) (hB : gBd bM st) (x : Int32) (y : Int32) (Xx : Int) (Xy : Int) (kx : x.toInt = Xx) (ky : y.toInt = Xy) (hx0 : 0 ≤ Xx) (hx1 : Xx ≤ 56) : gsMi l yX10_isGood cX10_isGood 4 (some .boolean) ({ frames := 0, cells := 0, slots := 0, locals := 0 } : Room) G cy sK sV (shM cy ad) cnM ad sz [.ref (ad 0 0), .int x, .int y] st (fun (r : Int32) (u : gS) => gBN bM kM [] st u ∧ ((r = 1) ∨ (r = 0))) := by
  refine gs_start (fun A => gsQi G (shM cy ad) cnM ad _ A) (by decide) (Nat.le_of_ble_eq_true rfl) ?_
  intro p e s m below meth c A ls H hx hb hr hml hlocks hown hts hK hov hE hI hM hm hS hA hl
  have hl : lv_has ls 4 [(0, .ref (ad 0 0)), (1, .int x), (2, .int y)] := hl
  have hB_st : gBN bM kM [] st st := gBN.rf hB
  generalize hQe : MQ below _ _ s _ _ A = Q
  refine lv_iconst (v := 0) hx hb dX10_isGood_0 (by decide) ?_
  refine lv_istore_n (lv' := [(3, .int 0), (0, .ref (ad 0 0)), (1, .int x), (2, .int y)]) hx hb dX10_isGood_1 rfl hl (by decide) rfl (fun ls hl => ?_)
  have lp1 : ∀ (n1 : Nat) (sv1 : gS) (y1_0 : Int32) (H : Heap) (locs : List Loc) (ls : Array Slot), (4 - y1_0.toInt).toNat < n1 → gBN bM kM [] st sv1 → (0 ≤ y1_0.toInt) → gM G (shM cy ad) cnM ad sv1 H → va_S A s.heap H locs → lv_has ls 4 [(3, .int y1_0), (0, .ref (ad 0 0)), (1, .int x), (2, .int y)] → W p l e ({ frames := 0, cells := 0, slots := 0, locals := 0 } : Room) s m [.ref (ad 0 0), .int x, .int y].toArray below meth c H locs 0 0 Q (F0 m 2 ls []) := by
    intro n1
    induction n1 with
    | zero => intro sv1 y1_0 H locs ls h9; exact absurd h9 (Nat.not_lt_zero _)
    | succ n1 ih_1 =>
      intro sv1 y1_0 H locs ls hme1 hB_sv1 hv1_0 hM hS hl
      refine lv_iload_n hx hb dX10_isGood_2 rfl (lv_at hl 0 rfl) ?_
      refine lv_iconst (v := 4) hx hb dX10_isGood_3 (by decide) ?_
      refine lv_icmp_ge (tgt := 45) hx hb dX10_isGood_4 (by decide) (fun c_2 => ?_) (fun c_2 => ?_)
      · have ic_2 := gz_le (by decide : (4 : Int32).toInt = 4) (rfl : y1_0.toInt = y1_0.toInt) c_2
        refine lv_iconst (v := 1) hx hb dX10_isGood_45 (by decide) ?_
        rw [← hQe]
        exact gs_iret hx hb hr hlocks hM hS (by decide) ⟨hB_sv1, (Or.inl rfl)⟩ (by exact Nat.le_refl _) (by exact Nat.le_refl _) dX10_isGood_46
      · have ic_2 := gz_nle (by decide : (4 : Int32).toInt = 4) (rfl : y1_0.toInt = y1_0.toInt) c_2
        refine lv_aload_n hx hb dX10_isGood_7 rfl (lv_at hl 1 rfl) ?_
        refine gs_get (C := RX10) (T := TX10) (N := 59) hx hb hts inX10 hown hK hM 0 0 38 (by decide) rfl rfl (by decide) (hts _ gm_939) (fun _ h9 => h9) rfl dX10_isGood_8 ?_
        refine lv_iload_n hx hb dX10_isGood_11 rfl (lv_at hl 0 rfl) ?_
        refine gs_zald hx hb hK hM 22 0 (by decide) rfl (vp_in_iff.mpr ⟨by omega, by omega⟩) dX10_isGood_12 ?_
        refine lv_topi (fun x_3 ex_3 => ?_)
        have qx_3 : x_3.toInt = (sv1 22 0 (y1_0.toNatClampNeg)).toInt := congrArg Int32.toInt ex_3
        have rx_3 : x_3.toInt = ((st 22 0 (y1_0.toNatClampNeg)) : Int32).toInt := by rw [ex_3]; exact congrArg Int32.toInt ((hB_sv1.2 22 0 (y1_0.toNatClampNeg) (show (2200 : Nat) ∉ _ from by decide)))
        refine lv_if_eq (tgt := 39) hx hb dX10_isGood_13 (by decide) (fun c_4 => ?_) (fun c_4 => ?_)
        · have ic_4 := gz_eq (rfl : x_3.toInt = x_3.toInt) (by decide : (0 : Int32).toInt = 0) c_4
          obtain ⟨x_5, ex_5⟩ : ∃ y : Int32, y = y1_0 + 1 := ⟨_, rfl⟩
          try have tx_5 : x_5.toInt = y1_0.toInt + 1 := by rw [ex_5]; exact gz_addP (x := y1_0.toInt) (y := 1) rfl (by decide) (by omega) (by omega)
          refine lv_iinc (v := (x_5)) (lv' := [(3, .int x_5), (0, .ref (ad 0 0)), (1, .int x), (2, .int y)]) hx hb dX10_isGood_39 hl (k := 0) rfl (by rw [ex_5]; rfl) (by decide) rfl (fun ls hl => ?_)
          refine lv_goto (tgt := 2) hx hb dX10_isGood_42 (by decide) ?_
          exact ih_1 sv1 (x_5 : Int32) H _ ls (by omega) hB_sv1 (by omega) hM hS (lv_sub hl [0, 1, 2, 3] rfl)
        · have ic_4 := gz_ne (rfl : x_3.toInt = x_3.toInt) (by decide : (0 : Int32).toInt = 0) c_4
          refine lv_iload_n hx hb dX10_isGood_16 rfl (lv_at hl 3 rfl) ?_
          refine lv_aload_n hx hb dX10_isGood_17 rfl (lv_at hl 1 rfl) ?_
          refine gs_get (C := RX10) (T := TX10) (N := 59) hx hb hts inX10 hown hK hM 0 0 48 (by decide) rfl rfl (by decide) (hts _ gm_949) (fun _ h9 => h9) rfl dX10_isGood_18 ?_
          refine lv_iconst (v := 4) hx hb dX10_isGood_21 (by decide) ?_
          refine lv_iload_n hx hb dX10_isGood_22 rfl (lv_at hl 2 rfl) ?_
          refine lv_imul hx hb dX10_isGood_23 ?_
          refine lv_topi (fun x_6 ex_6 => ?_)
          try have tx_6 : x_6.toInt = 4 * x.toInt := by rw [ex_6]; exact gz_mulI (x := 4) (y := x.toInt) (by decide) rfl (by omega) (by omega)
          refine lv_iload_n hx hb dX10_isGood_24 rfl (lv_at hl 0 rfl) ?_
          refine lv_iadd hx hb dX10_isGood_25 ?_
          refine lv_topi (fun x_7 ex_7 => ?_)
          try have tx_7 : x_7.toInt = x_6.toInt + y1_0.toInt := by rw [ex_7]; exact gz_addI (x := x_6.toInt) (y := y1_0.toInt) rfl rfl (by omega) (by omega)
          refine gs_iald hx hb hK hM 32 0 (by decide) rfl (vp_in_iff.mpr ⟨by omega, by omega⟩) dX10_isGood_26 ?_
          refine lv_topi (fun x_8 ex_8 => ?_)
          have qx_8 : x_8.toInt = (sv1 32 0 (x_7.toNatClampNeg)).toInt := congrArg Int32.toInt ex_8
          have rx_8 : x_8.toInt = ((st 32 0 (x_7.toNatClampNeg)) : Int32).toInt := by rw [ex_8]; exact congrArg Int32.toInt ((hB_sv1.2 32 0 (x_7.toNatClampNeg) (show (3200 : Nat) ∉ _ from by decide)))
          refine lv_isub hx hb dX10_isGood_27 ?_
          refine lv_topi (fun x_9 ex_9 => ?_)
          refine lv_aload_n hx hb dX10_isGood_28 rfl (lv_at hl 1 rfl) ?_
          refine gs_get (C := RX10) (T := TX10) (N := 59) hx hb hts inX10 hown hK hM 0 0 41 (by decide) rfl rfl (by decide) (hts _ gm_942) (fun _ h9 => h9) rfl dX10_isGood_29 ?_
          refine lv_iload_n hx hb dX10_isGood_32 rfl (lv_at hl 0 rfl) ?_
          refine gs_iald hx hb hK hM 25 0 (by decide) rfl (vp_in_iff.mpr ⟨by omega, by omega⟩) dX10_isGood_33 ?_
          refine lv_topi (fun x_10 ex_10 => ?_)
          have qx_10 : x_10.toInt = (sv1 25 0 (y1_0.toNatClampNeg)).toInt := congrArg Int32.toInt ex_10
          have rx_10 : x_10.toInt = ((st 25 0 (y1_0.toNatClampNeg)) : Int32).toInt := by rw [ex_10]; exact congrArg Int32.toInt ((hB_sv1.2 25 0 (y1_0.toNatClampNeg) (show (2500 : Nat) ∉ _ from by decide)))
          refine lv_icmp_le (tgt := 39) hx hb dX10_isGood_34 (by decide) (fun c_11 => ?_) (fun c_11 => ?_)
          · have ic_11 := gz_le (rfl : x_9.toInt = x_9.toInt) (rfl : x_10.toInt = x_10.toInt) c_11
            obtain ⟨x_12, ex_12⟩ : ∃ y : Int32, y = y1_0 + 1 := ⟨_, rfl⟩
            try have tx_12 : x_12.toInt = y1_0.toInt + 1 := by rw [ex_12]; exact gz_addP (x := y1_0.toInt) (y := 1) rfl (by decide) (by omega) (by omega)
            refine lv_iinc (v := (x_12)) (lv' := [(3, .int x_12), (0, .ref (ad 0 0)), (1, .int x), (2, .int y)]) hx hb dX10_isGood_39 hl (k := 0) rfl (by rw [ex_12]; rfl) (by decide) rfl (fun ls hl => ?_)
            refine lv_goto (tgt := 2) hx hb dX10_isGood_42 (by decide) ?_
            exact ih_1 sv1 (x_12 : Int32) H _ ls (by omega) hB_sv1 (by omega) hM hS (lv_sub hl [0, 1, 2, 3] rfl)
          · have ic_11 := gz_nle (rfl : x_9.toInt = x_9.toInt) (rfl : x_10.toInt = x_10.toInt) c_11
            have lc_11 := gi_hi x_9
            refine lv_iconst (v := 0) hx hb dX10_isGood_37 (by decide) ?_
            rw [← hQe]
            exact gs_iret hx hb hr hlocks hM hS (by decide) ⟨hB_sv1, (Or.inr (rfl))⟩ (by exact Nat.le_refl _) (by exact Nat.le_refl _) dX10_isGood_38
  exact lp1 ((4 - ((0 : Int32) : Int32).toInt).toNat + 1) st ((0 : Int32) : Int32) H _ ls (Nat.lt_succ_self _) hB_st (by have hl0 : (0 : Int32).toInt = 0 := (by decide); omega) hM hS (lv_sub hl [0, 1, 2, 3] rfl)

set_option maxHeartbeats 4000000 in
set_option maxRecDepth 100000 in
/-- WellCourtModel.thrown -/
theorem m_thrown (l : Launch) (G : va_G) (cy : Nat → ClassId) (sK sV : Nat → Nat) (ad : Nat → Nat → Nat) (sz : Nat) (st : gS) (hB : gBd bM st) : gsMi l yX10_thrown cX10_thrown 1 (some .int) ({ frames := 0, cells := 0, slots := 0, locals := 0 } : Room) G cy sK sV (shM cy ad) cnM ad sz [.ref (ad 0 0)] st (fun (r : Int32) (u : gS) => gBN bM kM [] st u ∧ ((r = st 0 0 0))) := by
  refine gs_start (fun A => gsQi G (shM cy ad) cnM ad _ A) (by decide) (Nat.le_of_ble_eq_true rfl) ?_
  intro p e s m below meth c A ls H hx hb hr hml hlocks hown hts hK hov hE hI hM hm hS hA hl
  have hl : lv_has ls 1 [(0, .ref (ad 0 0))] := hl
  have hB_st : gBN bM kM [] st st := gBN.rf hB
  refine lv_aload_n hx hb dX10_thrown_0 rfl (lv_at hl 0 rfl) ?_
  refine gs_get (C := RX10) (T := TX10) (N := 59) hx hb hts inX10 hown hK hM 0 0 0 (by decide) rfl rfl (by decide) (hts _ gm_901) (fun _ h9 => h9) rfl dX10_thrown_1 ?_
  exact gs_iret hx hb hr hlocks hM hS rfl ⟨hB_st, rfl⟩ (by exact Nat.le_refl _) (by exact Nat.le_refl _) dX10_thrown_4
