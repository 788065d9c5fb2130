theorem gm_935 : (Jvm.Cond.fieldLink "WellCourtModel" (79 : Nat) "WellCourtModel" "isHerd" "[Z") ∈ gz_T := gz_at 935 (by decide +kernel) rfl
theorem gm_936 : (Jvm.Cond.fieldLink "WellCourtModel" (82 : Nat) "WellCourtModel" "hClan" "[I") ∈ gz_T := gz_at 936 (by decide +kernel) rfl
theorem gm_937 : (Jvm.Cond.fieldLink "WellCourtModel" (85 : Nat) "WellCourtModel" "hDraw" "[I") ∈ gz_T := gz_at 937 (by decide +kernel) rfl
theorem gm_938 : (Jvm.Cond.fieldLink "WellCourtModel" (88 : Nat) "WellCourtModel" "hLast" "[I") ∈ gz_T := gz_at 938 (by decide +kernel) rfl
theorem gm_939 : (Jvm.Cond.fieldLink "WellCourtModel" (91 : Nat) "WellCourtModel" "hWell" "[I") ∈ gz_T := gz_at 939 (by decide +kernel) rfl
theorem gm_940 : (Jvm.Cond.fieldLink "WellCourtModel" (94 : Nat) "WellCourtModel" "hDrank" "[I") ∈ gz_T := gz_at 940 (by decide +kernel) rfl
theorem gm_941 : (Jvm.Cond.fieldLink "WellCourtModel" (97 : Nat) "WellCourtModel" "ways" "[I") ∈ gz_T := gz_at 941 (by decide +kernel) rfl
theorem gm_942 : (Jvm.Cond.fieldLink "WellCourtModel" (100 : Nat) "WellCourtModel" "sLevel" "[I") ∈ gz_T := gz_at 942 (by decide +kernel) rfl
theorem gm_948 : (Jvm.Cond.fieldLink "WellCourtModel" (118 : Nat) "WellCourtModel" "sMorning" "[I") ∈ gz_T := gz_at 948 (by decide +kernel) rfl
theorem gm_949 : (Jvm.Cond.fieldLink "WellCourtModel" (121 : Nat) "WellCourtModel" "sOwner" "[I") ∈ gz_T := gz_at 949 (by decide +kernel) rfl
theorem gm_950 : (Jvm.Cond.fieldLink "WellCourtModel" (124 : Nat) "WellCourtModel" "planned" "[I") ∈ gz_T := gz_at 950 (by decide +kernel) rfl
theorem gm_951 : (Jvm.Cond.fieldLink "WellCourtModel" (127 : Nat) "WellCourtModel" "plannedHerd" "[Z") ∈ gz_T := gz_at 951 (by decide +kernel) rfl
theorem gm_952 : (Jvm.Cond.fieldLink "WellCourtModel" (130 : Nat) "WellCourtModel" "planFrom" "I") ∈ gz_T := gz_at 952 (by decide +kernel) rfl
theorem gm_953 : (Jvm.Cond.fieldLink "WellCourtModel" (309 : Nat) "WellCourtModel" "planDays" "I") ∈ gz_T := gz_at 953 (by decide +kernel) rfl
theorem gm_954 : (Jvm.Cond.fieldLink "WellCourtModel" (299 : Nat) "WellCourtModel" "looks" "I") ∈ gz_T := gz_at 954 (by decide +kernel) rfl
theorem gm_955 : (Jvm.Cond.fieldLink "WellCourtModel" (302 : Nat) "WellCourtModel" "far" "I") ∈ gz_T := gz_at 955 (by decide +kernel) rfl
theorem dX10_count_0 : decode cX10_count 0 = .ok (.aload_n 0, 1) := by decide +kernel
theorem dX10_count_1 : decode cX10_count 1 = .ok (.iconst 0, 1) := by decide +kernel
theorem dX10_count_2 : decode cX10_count 2 = .ok (.putfield 1, 3) := by decide +kernel
theorem dX10_count_5 : decode cX10_count 5 = .ok (.iconst 0, 1) := by decide +kernel
theorem dX10_count_6 : decode cX10_count 6 = .ok (.istore_n 2, 1) := by decide +kernel
theorem dX10_count_7 : decode cX10_count 7 = .ok (.iload_n 1, 1) := by decide +kernel
theorem dX10_count_8 : decode cX10_count 8 = .ok (.tableswitch 134 0 6 #[44, 49, 82, 87, 119, 124, 129], 44) := by decide +kernel
theorem dX10_count_52 : decode cX10_count 52 = .ok (.aload_n 0, 1) := by decide +kernel
theorem dX10_count_53 : decode cX10_count 53 = .ok (.getfield 213, 3) := by decide +kernel
theorem dX10_count_56 : decode cX10_count 56 = .ok (.ireturn, 1) := by decide +kernel
theorem dX10_count_57 : decode cX10_count 57 = .ok (.iconst 0, 1) := by decide +kernel
theorem dX10_count_58 : decode cX10_count 58 = .ok (.istore_n 3, 1) := by decide +kernel
theorem dX10_count_59 : decode cX10_count 59 = .ok (.iload_n 3, 1) := by decide +kernel
theorem dX10_count_60 : decode cX10_count 60 = .ok (.bipush 6, 2) := by decide +kernel
theorem dX10_count_62 : decode cX10_count 62 = .ok (.if_icmp .ge 26, 3) := by decide +kernel
theorem dX10_count_65 : decode cX10_count 65 = .ok (.iload_n 2, 1) := by decide +kernel
theorem dX10_count_66 : decode cX10_count 66 = .ok (.aload_n 0, 1) := by decide +kernel
theorem dX10_count_67 : decode cX10_count 67 = .ok (.getfield 13, 3) := by decide +kernel
theorem dX10_count_70 : decode cX10_count 70 = .ok (.iload_n 3, 1) := by decide +kernel
theorem dX10_count_71 : decode cX10_count 71 = .ok (.baload, 1) := by decide +kernel
theorem dX10_count_72 : decode cX10_count 72 = .ok (.ifCond .eq 7, 3) := by decide +kernel
theorem dX10_count_75 : decode cX10_count 75 = .ok (.iconst 1, 1) := by decide +kernel
theorem dX10_count_76 : decode cX10_count 76 = .ok (.goto 4, 3) := by decide +kernel
theorem dX10_count_79 : decode cX10_count 79 = .ok (.iconst 0, 1) := by decide +kernel
theorem dX10_count_80 : decode cX10_count 80 = .ok (.iadd, 1) := by decide +kernel
theorem dX10_count_81 : decode cX10_count 81 = .ok (.istore_n 2, 1) := by decide +kernel
theorem dX10_count_82 : decode cX10_count 82 = .ok (.iinc 3 1, 3) := by decide +kernel
theorem dX10_count_85 : decode cX10_count 85 = .ok (.goto (-26), 3) := by decide +kernel
theorem dX10_count_88 : decode cX10_count 88 = .ok (.iload_n 2, 1) := by decide +kernel
theorem dX10_count_89 : decode cX10_count 89 = .ok (.ireturn, 1) := by decide +kernel
theorem dX10_count_90 : decode cX10_count 90 = .ok (.aload_n 0, 1) := by decide +kernel
theorem dX10_count_91 : decode cX10_count 91 = .ok (.getfield 210, 3) := by decide +kernel
theorem dX10_count_94 : decode cX10_count 94 = .ok (.ireturn, 1) := by decide +kernel
theorem dX10_count_95 : decode cX10_count 95 = .ok (.iconst 0, 1) := by decide +kernel
theorem dX10_count_96 : decode cX10_count 96 = .ok (.istore_n 3, 1) := by decide +kernel
theorem dX10_count_97 : decode cX10_count 97 = .ok (.iload_n 3, 1) := by decide +kernel
theorem dX10_count_98 : decode cX10_count 98 = .ok (.iconst 4, 1) := by decide +kernel
theorem dX10_count_99 : decode cX10_count 99 = .ok (.if_icmp .ge 26, 3) := by decide +kernel
theorem dX10_count_102 : decode cX10_count 102 = .ok (.iload_n 2, 1) := by decide +kernel
theorem dX10_count_103 : decode cX10_count 103 = .ok (.aload_n 0, 1) := by decide +kernel
theorem dX10_count_104 : decode cX10_count 104 = .ok (.getfield 79, 3) := by decide +kernel
theorem dX10_count_107 : decode cX10_count 107 = .ok (.iload_n 3, 1) := by decide +kernel
theorem dX10_count_108 : decode cX10_count 108 = .ok (.baload, 1) := by decide +kernel
theorem dX10_count_109 : decode cX10_count 109 = .ok (.ifCond .eq 7, 3) := by decide +kernel
theorem dX10_count_112 : decode cX10_count 112 = .ok (.iconst 1, 1) := by decide +kernel
theorem dX10_count_113 : decode cX10_count 113 = .ok (.goto 4, 3) := by decide +kernel
theorem dX10_count_116 : decode cX10_count 116 = .ok (.iconst 0, 1) := by decide +kernel
theorem dX10_count_117 : decode cX10_count 117 = .ok (.iadd, 1) := by decide +kernel
theorem dX10_count_118 : decode cX10_count 118 = .ok (.istore_n 2, 1) := by decide +kernel
theorem dX10_count_119 : decode cX10_count 119 = .ok (.iinc 3 1, 3) := by decide +kernel
theorem dX10_count_122 : decode cX10_count 122 = .ok (.goto (-25), 3) := by decide +kernel
theorem dX10_count_125 : decode cX10_count 125 = .ok (.iload_n 2, 1) := by decide +kernel
theorem dX10_count_126 : decode cX10_count 126 = .ok (.ireturn, 1) := by decide +kernel
theorem dX10_count_127 : decode cX10_count 127 = .ok (.aload_n 0, 1) := by decide +kernel
theorem dX10_count_128 : decode cX10_count 128 = .ok (.getfield 287, 3) := by decide +kernel
theorem dX10_count_131 : decode cX10_count 131 = .ok (.ireturn, 1) := by decide +kernel
theorem dX10_count_132 : decode cX10_count 132 = .ok (.aload_n 0, 1) := by decide +kernel
theorem dX10_count_133 : decode cX10_count 133 = .ok (.getfield 133, 3) := by decide +kernel
theorem dX10_count_136 : decode cX10_count 136 = .ok (.ireturn, 1) := by decide +kernel
theorem dX10_count_137 : decode cX10_count 137 = .ok (.aload_n 0, 1) := by decide +kernel
theorem dX10_count_138 : decode cX10_count 138 = .ok (.getfield 299, 3) := by decide +kernel
theorem dX10_count_141 : decode cX10_count 141 = .ok (.ireturn, 1) := by decide +kernel
theorem dX10_count_142 : decode cX10_count 142 = .ok (.iconst (-1), 1) := by decide +kernel
theorem dX10_count_143 : decode cX10_count 143 = .ok (.ireturn, 1) := by decide +kernel
theorem dX10_dawn_0 : decode cX10_dawn 0 = .ok (.iconst 0, 1) := by decide +kernel
theorem dX10_dawn_1 : decode cX10_dawn 1 = .ok (.istore_n 3, 1) := by decide +kernel
theorem dX10_dawn_2 : decode cX10_dawn 2 = .ok (.iload_n 3, 1) := by decide +kernel
theorem dX10_dawn_3 : decode cX10_dawn 3 = .ok (.bipush 6, 2) := by decide +kernel
theorem dX10_dawn_5 : decode cX10_dawn 5 = .ok (.if_icmp .ge 150, 3) := by decide +kernel
theorem dX10_dawn_8 : decode cX10_dawn 8 = .ok (.aload_n 0, 1) := by decide +kernel
theorem dX10_dawn_9 : decode cX10_dawn 9 = .ok (.getfield 100, 3) := by decide +kernel
theorem dX10_dawn_12 : decode cX10_dawn 12 = .ok (.bipush 6, 2) := by decide +kernel
theorem dX10_dawn_14 : decode cX10_dawn 14 = .ok (.iload_n 1, 1) := by decide +kernel
theorem dX10_dawn_15 : decode cX10_dawn 15 = .ok (.imul, 1) := by decide +kernel
theorem dX10_dawn_16 : decode cX10_dawn 16 = .ok (.iload_n 3, 1) := by decide +kernel
theorem dX10_dawn_17 : decode cX10_dawn 17 = .ok (.iadd, 1) := by decide +kernel
theorem dX10_dawn_18 : decode cX10_dawn 18 = .ok (.iaload, 1) := by decide +kernel
theorem dX10_dawn_19 : decode cX10_dawn 19 = .ok (.istore 4, 2) := by decide +kernel
theorem dX10_dawn_21 : decode cX10_dawn 21 = .ok (.aload_n 0, 1) := by decide +kernel
theorem dX10_dawn_22 : decode cX10_dawn 22 = .ok (.getfield 13, 3) := by decide +kernel
theorem dX10_dawn_25 : decode cX10_dawn 25 = .ok (.iload_n 3, 1) := by decide +kernel
theorem dX10_dawn_26 : decode cX10_dawn 26 = .ok (.baload, 1) := by decide +kernel
theorem dX10_dawn_27 : decode cX10_dawn 27 = .ok (.ifCond .eq 41, 3) := by decide +kernel
theorem dX10_dawn_30 : decode cX10_dawn 30 = .ok (.iload 4, 2) := by decide +kernel
theorem dX10_dawn_32 : decode cX10_dawn 32 = .ok (.aload_n 0, 1) := by decide +kernel
theorem dX10_dawn_33 : decode cX10_dawn 33 = .ok (.getfield 21, 3) := by decide +kernel
theorem dX10_dawn_36 : decode cX10_dawn 36 = .ok (.iload_n 3, 1) := by decide +kernel
theorem dX10_dawn_37 : decode cX10_dawn 37 = .ok (.iaload, 1) := by decide +kernel
theorem dX10_dawn_38 : decode cX10_dawn 38 = .ok (.iadd, 1) := by decide +kernel
theorem dX10_dawn_39 : decode cX10_dawn 39 = .ok (.aload_n 0, 1) := by decide +kernel
theorem dX10_dawn_40 : decode cX10_dawn 40 = .ok (.getfield 17, 3) := by decide +kernel
theorem dX10_dawn_43 : decode cX10_dawn 43 = .ok (.iload_n 3, 1) := by decide +kernel
theorem dX10_dawn_44 : decode cX10_dawn 44 = .ok (.iaload, 1) := by decide +kernel
theorem dX10_dawn_45 : decode cX10_dawn 45 = .ok (.if_icmp .le 12, 3) := by decide +kernel
theorem dX10_dawn_48 : decode cX10_dawn 48 = .ok (.aload_n 0, 1) := by decide +kernel
theorem dX10_dawn_49 : decode cX10_dawn 49 = .ok (.getfield 17, 3) := by decide +kernel
theorem dX10_dawn_52 : decode cX10_dawn 52 = .ok (.iload_n 3, 1) := by decide +kernel
theorem dX10_dawn_53 : decode cX10_dawn 53 = .ok (.iaload, 1) := by decide +kernel
theorem dX10_dawn_54 : decode cX10_dawn 54 = .ok (.goto 12, 3) := by decide +kernel
theorem dX10_dawn_57 : decode cX10_dawn 57 = .ok (.iload 4, 2) := by decide +kernel
theorem dX10_dawn_59 : decode cX10_dawn 59 = .ok (.aload_n 0, 1) := by decide +kernel
theorem dX10_dawn_60 : decode cX10_dawn 60 = .ok (.getfield 21, 3) := by decide +kernel
theorem dX10_dawn_63 : decode cX10_dawn 63 = .ok (.iload_n 3, 1) := by decide +kernel
theorem dX10_dawn_64 : decode cX10_dawn 64 = .ok (.iaload, 1) := by decide +kernel
theorem dX10_dawn_65 : decode cX10_dawn 65 = .ok (.iadd, 1) := by decide +kernel
theorem dX10_dawn_66 : decode cX10_dawn 66 = .ok (.istore 4, 2) := by decide +kernel
theorem dX10_dawn_68 : decode cX10_dawn 68 = .ok (.aload_n 0, 1) := by decide +kernel
theorem dX10_dawn_69 : decode cX10_dawn 69 = .ok (.getfield 100, 3) := by decide +kernel
theorem dX10_dawn_72 : decode cX10_dawn 72 = .ok (.bipush 6, 2) := by decide +kernel
theorem dX10_dawn_74 : decode cX10_dawn 74 = .ok (.iload_n 1, 1) := by decide +kernel
theorem dX10_dawn_75 : decode cX10_dawn 75 = .ok (.imul, 1) := by decide +kernel
theorem dX10_dawn_76 : decode cX10_dawn 76 = .ok (.iload_n 3, 1) := by decide +kernel
theorem dX10_dawn_77 : decode cX10_dawn 77 = .ok (.iadd, 1) := by decide +kernel
theorem dX10_dawn_78 : decode cX10_dawn 78 = .ok (.iload 4, 2) := by decide +kernel
theorem dX10_dawn_80 : decode cX10_dawn 80 = .ok (.iastore, 1) := by decide +kernel
theorem dX10_dawn_81 : decode cX10_dawn 81 = .ok (.aload_n 0, 1) := by decide +kernel
theorem dX10_dawn_82 : decode cX10_dawn 82 = .ok (.getfield 118, 3) := by decide +kernel
theorem dX10_dawn_85 : decode cX10_dawn 85 = .ok (.bipush 6, 2) := by decide +kernel
theorem dX10_dawn_87 : decode cX10_dawn 87 = .ok (.iload_n 1, 1) := by decide +kernel
theorem dX10_dawn_88 : decode cX10_dawn 88 = .ok (.imul, 1) := by decide +kernel
theorem dX10_dawn_89 : decode cX10_dawn 89 = .ok (.iload_n 3, 1) := by decide +kernel
theorem dX10_dawn_90 : decode cX10_dawn 90 = .ok (.iadd, 1) := by decide +kernel
theorem dX10_dawn_91 : decode cX10_dawn 91 = .ok (.iload 4, 2) := by decide +kernel
theorem dX10_dawn_93 : decode cX10_dawn 93 = .ok (.iastore, 1) := by decide +kernel
theorem dX10_dawn_94 : decode cX10_dawn 94 = .ok (.aload_n 0, 1) := by decide +kernel
theorem dX10_dawn_95 : decode cX10_dawn 95 = .ok (.getfield 13, 3) := by decide +kernel
theorem dX10_dawn_98 : decode cX10_dawn 98 = .ok (.iload_n 3, 1) := by decide +kernel
theorem dX10_dawn_99 : decode cX10_dawn 99 = .ok (.baload, 1) := by decide +kernel
theorem dX10_dawn_100 : decode cX10_dawn 100 = .ok (.ifCond .eq 13, 3) := by decide +kernel
theorem dX10_dawn_103 : decode cX10_dawn 103 = .ok (.aload_n 0, 1) := by decide +kernel
theorem dX10_dawn_104 : decode cX10_dawn 104 = .ok (.iload_n 3, 1) := by decide +kernel
theorem dX10_dawn_105 : decode cX10_dawn 105 = .ok (.iload 4, 2) := by decide +kernel
theorem dX10_dawn_107 : decode cX10_dawn 107 = .ok (.invokevirtual 268, 3) := by decide +kernel
theorem dX10_dawn_110 : decode cX10_dawn 110 = .ok (.goto 4, 3) := by decide +kernel
theorem dX10_dawn_113 : decode cX10_dawn 113 = .ok (.iconst (-1), 1) := by decide +kernel
theorem dX10_dawn_114 : decode cX10_dawn 114 = .ok (.istore 5, 2) := by decide +kernel
theorem dX10_dawn_116 : decode cX10_dawn 116 = .ok (.aload_n 0, 1) := by decide +kernel
theorem dX10_dawn_117 : decode cX10_dawn 117 = .ok (.getfield 121, 3) := by decide +kernel
theorem dX10_dawn_120 : decode cX10_dawn 120 = .ok (.bipush 6, 2) := by decide +kernel
theorem dX10_dawn_122 : decode cX10_dawn 122 = .ok (.iload_n 1, 1) := by decide +kernel
theorem dX10_dawn_123 : decode cX10_dawn 123 = .ok (.imul, 1) := by decide +kernel
theorem dX10_dawn_124 : decode cX10_dawn 124 = .ok (.iload_n 3, 1) := by decide +kernel
theorem dX10_dawn_125 : decode cX10_dawn 125 = .ok (.iadd, 1) := by decide +kernel
theorem dX10_dawn_126 : decode cX10_dawn 126 = .ok (.iload 5, 2) := by decide +kernel
theorem dX10_dawn_128 : decode cX10_dawn 128 = .ok (.ifCond .lt 8, 3) := by decide +kernel
theorem dX10_dawn_131 : decode cX10_dawn 131 = .ok (.iload 5, 2) := by decide +kernel
theorem dX10_dawn_133 : decode cX10_dawn 133 = .ok (.goto 15, 3) := by decide +kernel
theorem dX10_dawn_136 : decode cX10_dawn 136 = .ok (.aload_n 0, 1) := by decide +kernel
theorem dX10_dawn_137 : decode cX10_dawn 137 = .ok (.getfield 30, 3) := by decide +kernel
theorem dX10_dawn_140 : decode cX10_dawn 140 = .ok (.sipush 200, 3) := by decide +kernel
theorem dX10_dawn_143 : decode cX10_dawn 143 = .ok (.iload_n 3, 1) := by decide +kernel
theorem dX10_dawn_144 : decode cX10_dawn 144 = .ok (.imul, 1) := by decide +kernel
theorem dX10_dawn_145 : decode cX10_dawn 145 = .ok (.iload_n 2, 1) := by decide +kernel
theorem dX10_dawn_146 : decode cX10_dawn 146 = .ok (.iadd, 1) := by decide +kernel
theorem dX10_dawn_147 : decode cX10_dawn 147 = .ok (.iaload, 1) := by decide +kernel
theorem dX10_dawn_148 : decode cX10_dawn 148 = .ok (.iastore, 1) := by decide +kernel
theorem dX10_dawn_149 : decode cX10_dawn 149 = .ok (.iinc 3 1, 3) := by decide +kernel
theorem dX10_dawn_152 : decode cX10_dawn 152 = .ok (.goto (-150), 3) := by decide +kernel
theorem dX10_dawn_155 : decode cX10_dawn 155 = .ok (.return_, 1) := by decide +kernel
theorem dX10_drop_0 : decode cX10_drop 0 = .ok (.aload_n 0, 1) := by decide +kernel
theorem dX10_drop_1 : decode cX10_drop 1 = .ok (.iconst 0, 1) := by decide +kernel
theorem dX10_drop_2 : decode cX10_drop 2 = .ok (.putfield 1, 3) := by decide +kernel
theorem dX10_drop_5 : decode cX10_drop 5 = .ok (.iload_n 1, 1) := by decide +kernel
theorem dX10_drop_6 : decode cX10_drop 6 = .ok (.ifCond .lt 17, 3) := by decide +kernel
theorem dX10_drop_9 : decode cX10_drop 9 = .ok (.iload_n 1, 1) := by decide +kernel
theorem dX10_drop_10 : decode cX10_drop 10 = .ok (.iconst 4, 1) := by decide +kernel
theorem dX10_drop_11 : decode cX10_drop 11 = .ok (.if_icmp .ge 12, 3) := by decide +kernel
theorem dX10_drop_14 : decode cX10_drop 14 = .ok (.aload_n 0, 1) := by decide +kernel
theorem dX10_drop_15 : decode cX10_drop 15 = .ok (.getfield 79, 3) := by decide +kernel
theorem dX10_drop_18 : decode cX10_drop 18 = .ok (.iload_n 1, 1) := by decide +kernel
theorem dX10_drop_19 : decode cX10_drop 19 = .ok (.baload, 1) := by decide +kernel
theorem dX10_drop_20 : decode cX10_drop 20 = .ok (.ifCond .ne 5, 3) := by decide +kernel
theorem dX10_drop_23 : decode cX10_drop 23 = .ok (.iconst 0, 1) := by decide +kernel
theorem dX10_drop_24 : decode cX10_drop 24 = .ok (.ireturn, 1) := by decide +kernel
theorem dX10_drop_25 : decode cX10_drop 25 = .ok (.aload_n 0, 1) := by decide +kernel
theorem dX10_drop_26 : decode cX10_drop 26 = .ok (.getfield 79, 3) := by decide +kernel
theorem dX10_drop_29 : decode cX10_drop 29 = .ok (.iload_n 1, 1) := by decide +kernel
theorem dX10_drop_30 : decode cX10_drop 30 = .ok (.iconst 0, 1) := by decide +kernel
theorem dX10_drop_31 : decode cX10_drop 31 = .ok (.bastore, 1) := by decide +kernel
theorem dX10_drop_32 : decode cX10_drop 32 = .ok (.iconst 1, 1) := by decide +kernel
theorem dX10_drop_33 : decode cX10_drop 33 = .ok (.ireturn, 1) := by decide +kernel
theorem dX10_far_0 : decode cX10_far 0 = .ok (.aload_n 0, 1) := by decide +kernel
theorem dX10_far_1 : decode cX10_far 1 = .ok (.iconst 0, 1) := by decide +kernel
theorem dX10_far_2 : decode cX10_far 2 = .ok (.putfield 1, 3) := by decide +kernel
theorem dX10_far_5 : decode cX10_far 5 = .ok (.aload_n 0, 1) := by decide +kernel
theorem dX10_far_6 : decode cX10_far 6 = .ok (.getfield 302, 3) := by decide +kernel
theorem dX10_far_9 : decode cX10_far 9 = .ok (.ireturn, 1) := by decide +kernel
theorem dX10_herd_0 : decode cX10_herd 0 = .ok (.aload_n 0, 1) := by decide +kernel
theorem dX10_herd_1 : decode cX10_herd 1 = .ok (.iconst 0, 1) := by decide +kernel
theorem dX10_herd_2 : decode cX10_herd 2 = .ok (.putfield 1, 3) := by decide +kernel
theorem dX10_herd_5 : decode cX10_herd 5 = .ok (.iload_n 1, 1) := by decide +kernel
theorem dX10_herd_6 : decode cX10_herd 6 = .ok (.ifCond .lt 48, 3) := by decide +kernel
theorem dX10_herd_9 : decode cX10_herd 9 = .ok (.iload_n 1, 1) := by decide +kernel
theorem dX10_herd_10 : decode cX10_herd 10 = .ok (.iconst 4, 1) := by decide +kernel
theorem dX10_herd_11 : decode cX10_herd 11 = .ok (.if_icmp .ge 43, 3) := by decide +kernel
theorem dX10_herd_14 : decode cX10_herd 14 = .ok (.iload_n 2, 1) := by decide +kernel
theorem dX10_herd_15 : decode cX10_herd 15 = .ok (.invokestatic 278, 3) := by decide +kernel
theorem dX10_herd_18 : decode cX10_herd 18 = .ok (.ifCond .eq 36, 3) := by decide +kernel
theorem dX10_herd_21 : decode cX10_herd 21 = .ok (.iload_n 3, 1) := by decide +kernel
theorem dX10_herd_22 : decode cX10_herd 22 = .ok (.iconst 1, 1) := by decide +kernel
theorem dX10_herd_23 : decode cX10_herd 23 = .ok (.if_icmp .lt 31, 3) := by decide +kernel
theorem dX10_herd_26 : decode cX10_herd 26 = .ok (.iload_n 3, 1) := by decide +kernel
theorem dX10_herd_27 : decode cX10_herd 27 = .ok (.bipush 100, 2) := by decide +kernel
theorem dX10_herd_29 : decode cX10_herd 29 = .ok (.if_icmp .gt 25, 3) := by decide +kernel
theorem dX10_herd_32 : decode cX10_herd 32 = .ok (.iload 4, 2) := by decide +kernel
theorem dX10_herd_34 : decode cX10_herd 34 = .ok (.iconst 1, 1) := by decide +kernel
theorem dX10_herd_35 : decode cX10_herd 35 = .ok (.if_icmp .lt 19, 3) := by decide +kernel
theorem dX10_herd_38 : decode cX10_herd 38 = .ok (.iload 4, 2) := by decide +kernel
theorem dX10_herd_40 : decode cX10_herd 40 = .ok (.bipush 9, 2) := by decide +kernel
theorem dX10_herd_42 : decode cX10_herd 42 = .ok (.if_icmp .gt 12, 3) := by decide +kernel
theorem dX10_herd_45 : decode cX10_herd 45 = .ok (.aload_n 0, 1) := by decide +kernel
theorem dX10_herd_46 : decode cX10_herd 46 = .ok (.iload 5, 2) := by decide +kernel
theorem dX10_herd_48 : decode cX10_herd 48 = .ok (.invokevirtual 271, 3) := by decide +kernel
theorem dX10_herd_51 : decode cX10_herd 51 = .ok (.ifCond .ne 5, 3) := by decide +kernel
theorem dX10_herd_54 : decode cX10_herd 54 = .ok (.iconst 0, 1) := by decide +kernel
theorem dX10_herd_55 : decode cX10_herd 55 = .ok (.ireturn, 1) := by decide +kernel
theorem dX10_herd_56 : decode cX10_herd 56 = .ok (.aload_n 0, 1) := by decide +kernel
theorem dX10_herd_57 : decode cX10_herd 57 = .ok (.getfield 79, 3) := by decide +kernel
theorem dX10_herd_60 : decode cX10_herd 60 = .ok (.iload_n 1, 1) := by decide +kernel
theorem dX10_herd_61 : decode cX10_herd 61 = .ok (.iconst 1, 1) := by decide +kernel
theorem dX10_herd_62 : decode cX10_herd 62 = .ok (.bastore, 1) := by decide +kernel
theorem dX10_herd_63 : decode cX10_herd 63 = .ok (.aload_n 0, 1) := by decide +kernel
theorem dX10_herd_64 : decode cX10_herd 64 = .ok (.getfield 82, 3) := by decide +kernel
theorem dX10_herd_67 : decode cX10_herd 67 = .ok (.iload_n 1, 1) := by decide +kernel
theorem dX10_herd_68 : decode cX10_herd 68 = .ok (.iload_n 2, 1) := by decide +kernel
theorem dX10_herd_69 : decode cX10_herd 69 = .ok (.iastore, 1) := by decide +kernel
theorem dX10_herd_70 : decode cX10_herd 70 = .ok (.aload_n 0, 1) := by decide +kernel
theorem dX10_herd_71 : decode cX10_herd 71 = .ok (.getfield 85, 3) := by decide +kernel
theorem dX10_herd_74 : decode cX10_herd 74 = .ok (.iload_n 1, 1) := by decide +kernel
theorem dX10_herd_75 : decode cX10_herd 75 = .ok (.iload_n 3, 1) := by decide +kernel
theorem dX10_herd_76 : decode cX10_herd 76 = .ok (.iastore, 1) := by decide +kernel
theorem dX10_herd_77 : decode cX10_herd 77 = .ok (.aload_n 0, 1) := by decide +kernel
theorem dX10_herd_78 : decode cX10_herd 78 = .ok (.getfield 88, 3) := by decide +kernel
theorem dX10_herd_81 : decode cX10_herd 81 = .ok (.iload_n 1, 1) := by decide +kernel
theorem dX10_herd_82 : decode cX10_herd 82 = .ok (.iload 4, 2) := by decide +kernel
theorem dX10_herd_84 : decode cX10_herd 84 = .ok (.iastore, 1) := by decide +kernel
theorem dX10_herd_85 : decode cX10_herd 85 = .ok (.aload_n 0, 1) := by decide +kernel
theorem dX10_herd_86 : decode cX10_herd 86 = .ok (.getfield 91, 3) := by decide +kernel
theorem dX10_herd_89 : decode cX10_herd 89 = .ok (.iload_n 1, 1) := by decide +kernel
theorem dX10_herd_90 : decode cX10_herd 90 = .ok (.iload 5, 2) := by decide +kernel
theorem dX10_herd_92 : decode cX10_herd 92 = .ok (.iastore, 1) := by decide +kernel
theorem dX10_herd_93 : decode cX10_herd 93 = .ok (.aload_n 0, 1) := by decide +kernel
theorem dX10_herd_94 : decode cX10_herd 94 = .ok (.getfield 94, 3) := by decide +kernel
theorem dX10_herd_97 : decode cX10_herd 97 = .ok (.iload_n 1, 1) := by decide +kernel
theorem dX10_herd_98 : decode cX10_herd 98 = .ok (.aload_n 0, 1) := by decide +kernel
theorem dX10_herd_99 : decode cX10_herd 99 = .ok (.getfield 213, 3) := by decide +kernel
theorem dX10_herd_102 : decode cX10_herd 102 = .ok (.iastore, 1) := by decide +kernel
theorem dX10_herd_103 : decode cX10_herd 103 = .ok (.iconst 1, 1) := by decide +kernel
theorem dX10_herd_104 : decode cX10_herd 104 = .ok (.ireturn, 1) := by decide +kernel
theorem dX10_step_0 : decode cX10_step 0 = .ok (.aload_n 0, 1) := by decide +kernel
theorem dX10_step_1 : decode cX10_step 1 = .ok (.iconst 0, 1) := by decide +kernel
theorem dX10_step_2 : decode cX10_step 2 = .ok (.putfield 1, 3) := by decide +kernel
theorem dX10_step_5 : decode cX10_step 5 = .ok (.iload_n 1, 1) := by decide +kernel
theorem dX10_step_6 : decode cX10_step 6 = .ok (.ifCond .lt 45, 3) := by decide +kernel
theorem dX10_step_9 : decode cX10_step 9 = .ok (.iload_n 1, 1) := by decide +kernel
theorem dX10_step_10 : decode cX10_step 10 = .ok (.iconst 4, 1) := by decide +kernel
theorem dX10_step_11 : decode cX10_step 11 = .ok (.if_icmp .ge 40, 3) := by decide +kernel
theorem dX10_step_14 : decode cX10_step 14 = .ok (.aload_n 0, 1) := by decide +kernel
theorem dX10_step_15 : decode cX10_step 15 = .ok (.getfield 130, 3) := by decide +kernel
theorem dX10_step_18 : decode cX10_step 18 = .ok (.ifCond .lt 33, 3) := by decide +kernel
theorem dX10_step_21 : decode cX10_step 21 = .ok (.aload_n 0, 1) := by decide +kernel
theorem dX10_step_22 : decode cX10_step 22 = .ok (.getfield 127, 3) := by decide +kernel
theorem dX10_step_25 : decode cX10_step 25 = .ok (.iload_n 1, 1) := by decide +kernel
theorem dX10_step_26 : decode cX10_step 26 = .ok (.baload, 1) := by decide +kernel
theorem dX10_step_27 : decode cX10_step 27 = .ok (.ifCond .eq 24, 3) := by decide +kernel
theorem dX10_step_30 : decode cX10_step 30 = .ok (.iload_n 2, 1) := by decide +kernel
theorem dX10_step_31 : decode cX10_step 31 = .ok (.aload_n 0, 1) := by decide +kernel
theorem dX10_step_32 : decode cX10_step 32 = .ok (.getfield 130, 3) := by decide +kernel
theorem dX10_step_35 : decode cX10_step 35 = .ok (.if_icmp .lt 16, 3) := by decide +kernel
theorem dX10_step_38 : decode cX10_step 38 = .ok (.iload_n 2, 1) := by decide +kernel
theorem dX10_step_39 : decode cX10_step 39 = .ok (.aload_n 0, 1) := by decide +kernel
theorem dX10_step_40 : decode cX10_step 40 = .ok (.getfield 130, 3) := by decide +kernel
theorem dX10_step_43 : decode cX10_step 43 = .ok (.aload_n 0, 1) := by decide +kernel
theorem dX10_step_44 : decode cX10_step 44 = .ok (.getfield 309, 3) := by decide +kernel
theorem dX10_step_47 : decode cX10_step 47 = .ok (.iadd, 1) := by decide +kernel
theorem dX10_step_48 : decode cX10_step 48 = .ok (.if_icmp .lt 5, 3) := by decide +kernel
theorem dX10_step_51 : decode cX10_step 51 = .ok (.iconst (-1), 1) := by decide +kernel
theorem dX10_step_52 : decode cX10_step 52 = .ok (.ireturn, 1) := by decide +kernel
theorem dX10_step_53 : decode cX10_step 53 = .ok (.aload_n 0, 1) := by decide +kernel
theorem dX10_step_54 : decode cX10_step 54 = .ok (.getfield 124, 3) := by decide +kernel
theorem dX10_step_57 : decode cX10_step 57 = .ok (.iconst 4, 1) := by decide +kernel
theorem dX10_step_58 : decode cX10_step 58 = .ok (.iload_n 2, 1) := by decide +kernel
theorem dX10_step_59 : decode cX10_step 59 = .ok (.aload_n 0, 1) := by decide +kernel
theorem dX10_step_60 : decode cX10_step 60 = .ok (.getfield 130, 3) := by decide +kernel
theorem dX10_step_63 : decode cX10_step 63 = .ok (.isub, 1) := by decide +kernel
theorem dX10_step_64 : decode cX10_step 64 = .ok (.imul, 1) := by decide +kernel
theorem dX10_step_65 : decode cX10_step 65 = .ok (.iload_n 1, 1) := by decide +kernel
theorem dX10_step_66 : decode cX10_step 66 = .ok (.iadd, 1) := by decide +kernel
theorem dX10_step_67 : decode cX10_step 67 = .ok (.iaload, 1) := by decide +kernel
theorem dX10_step_68 : decode cX10_step 68 = .ok (.ireturn, 1) := by decide +kernel
theorem dX10_way_0 : decode cX10_way 0 = .ok (.aload_n 0, 1) := by decide +kernel
theorem dX10_way_1 : decode cX10_way 1 = .ok (.iconst 0, 1) := by decide +kernel
theorem dX10_way_2 : decode cX10_way 2 = .ok (.putfield 1, 3) := by decide +kernel
theorem dX10_way_5 : decode cX10_way 5 = .ok (.iload_n 1, 1) := by decide +kernel
theorem dX10_way_6 : decode cX10_way 6 = .ok (.ifCond .lt 34, 3) := by decide +kernel
theorem dX10_way_9 : decode cX10_way 9 = .ok (.iload_n 1, 1) := by decide +kernel
theorem dX10_way_10 : decode cX10_way 10 = .ok (.bipush 6, 2) := by decide +kernel
theorem dX10_way_12 : decode cX10_way 12 = .ok (.if_icmp .ge 28, 3) := by decide +kernel
theorem dX10_way_15 : decode cX10_way 15 = .ok (.iload_n 2, 1) := by decide +kernel
theorem dX10_way_16 : decode cX10_way 16 = .ok (.ifCond .lt 24, 3) := by decide +kernel
theorem dX10_way_19 : decode cX10_way 19 = .ok (.iload_n 2, 1) := by decide +kernel
theorem dX10_way_20 : decode cX10_way 20 = .ok (.bipush 6, 2) := by decide +kernel
theorem dX10_way_22 : decode cX10_way 22 = .ok (.if_icmp .ge 18, 3) := by decide +kernel
theorem dX10_way_25 : decode cX10_way 25 = .ok (.iload_n 1, 1) := by decide +kernel
theorem dX10_way_26 : decode cX10_way 26 = .ok (.iload_n 2, 1) := by decide +kernel
theorem dX10_way_27 : decode cX10_way 27 = .ok (.if_icmp .eq 13, 3) := by decide +kernel
theorem dX10_way_30 : decode cX10_way 30 = .ok (.iload_n 3, 1) := by decide +kernel
theorem dX10_way_31 : decode cX10_way 31 = .ok (.ifCond .lt 9, 3) := by decide +kernel
theorem dX10_way_34 : decode cX10_way 34 = .ok (.iload_n 3, 1) := by decide +kernel
theorem dX10_way_35 : decode cX10_way 35 = .ok (.bipush 9, 2) := by decide +kernel
theorem dX10_way_37 : decode cX10_way 37 = .ok (.if_icmp .le 5, 3) := by decide +kernel
theorem dX10_way_40 : decode cX10_way 40 = .ok (.iconst 0, 1) := by decide +kernel
theorem dX10_way_41 : decode cX10_way 41 = .ok (.ireturn, 1) := by decide +kernel
theorem dX10_way_42 : decode cX10_way 42 = .ok (.aload_n 0, 1) := by decide +kernel
theorem dX10_way_43 : decode cX10_way 43 = .ok (.getfield 97, 3) := by decide +kernel
theorem dX10_way_46 : decode cX10_way 46 = .ok (.bipush 6, 2) := by decide +kernel
theorem dX10_way_48 : decode cX10_way 48 = .ok (.iload_n 1, 1) := by decide +kernel
theorem dX10_way_49 : decode cX10_way 49 = .ok (.imul, 1) := by decide +kernel
theorem dX10_way_50 : decode cX10_way 50 = .ok (.iload_n 2, 1) := by decide +kernel
theorem dX10_way_51 : decode cX10_way 51 = .ok (.iadd, 1) := by decide +kernel
theorem dX10_way_52 : decode cX10_way 52 = .ok (.iload_n 3, 1) := by decide +kernel
theorem dX10_way_53 : decode cX10_way 53 = .ok (.iastore, 1) := by decide +kernel
theorem dX10_way_54 : decode cX10_way 54 = .ok (.iconst 1, 1) := by decide +kernel
theorem dX10_way_55 : decode cX10_way 55 = .ok (.ireturn, 1) := by decide +kernel
set_option maxHeartbeats 4000000 in
set_option maxRecDepth 100000 in
/-- WellCourtModel.herd -/
theorem m_herd (l : Launch) (G : va_G) (cy : Nat → ClassId) (sK sV : Nat → Nat) (ad : Nat → Nat → Nat) (sz : Nat) (st : gS) (hB : gBd bM st) (x : Int32) (y : Int32) (w : Int32) (v : Int32) (t : Int32) (Xx : Int) (Xy : Int) (Xw : Int) (Xv : Int) (Xt : Int) (kx : x.toInt = Xx) (ky : y.toInt = Xy) (kw : w.toInt = Xw) (kv : v.toInt = Xv) (kt : t.toInt = Xt) : gsMi l yX10_herd cX10_herd 6 (some .boolean) ({ frames := 1, cells := 0, slots := 0, locals := 21 } : Room) G cy sK sV (shM cy ad) cnM ad sz [.ref (ad 0 0), .int x, .int y, .int w, .int v, .int t] st (fun (r : Int32) (u : gS) => gBN bM kM [0, 2200, 2300, 2400, 2500, 2600, 2700] st u ∧ ((r = 1 ∧ ((0 ≤ Xx ∧ Xx ≤ 3 ∧ 0 ≤ Xy ∧ Xy ≤ 5 ∧ 0 ≤ Xt ∧ Xt ≤ 5 ∧ ¬ (st 1 0 t.toNatClampNeg).toInt = 0 ∧ 1 ≤ Xw ∧ Xw ≤ 100 ∧ 1 ≤ Xv ∧ Xv ≤ 9)) ∧ (u 22 0 = upd (st 22 0) x.toNatClampNeg (vp_nar .boolean 1)) ∧ (u 23 0 = upd (st 23 0) x.toNatClampNeg y) ∧ (u 24 0 = upd (st 24 0) x.toNatClampNeg w) ∧ (u 25 0 = upd (st 25 0) x.toNatClampNeg v) ∧ (u 26 0 = upd (st 26 0) x.toNatClampNeg t) ∧ (u 27 0 = upd (st 27 0) x.toNatClampNeg (st 0 0 7))) ∨ (r = 0 ∧ (¬ (0 ≤ Xx ∧ Xx ≤ 3 ∧ 0 ≤ Xy ∧ Xy ≤ 5 ∧ 0 ≤ Xt ∧ Xt ≤ 5 ∧ ¬ (st 1 0 t.toNatClampNeg).toInt = 0 ∧ 1 ≤ Xw ∧ Xw ≤ 100 ∧ 1 ≤ Xv ∧ Xv ≤ 9)) ∧ (frM st u)))) := by
  refine gs_start (fun A => gsQi G (shM cy ad) cnM ad _ A) (by decide) (Nat.le_of_ble_eq_true rfl) ?_
  intro p e s m below meth c A ls H hx hb hr hml hlocks hown hts hK hov hE hI hM hm hS hA hl
  have hl : lv_has ls 6 [(0, .ref (ad 0 0)), (1, .int x), (2, .int y), (3, .int w), (4, .int v), (5, .int t)] := hl
  have hB_st : gBN bM kM [0, 2200, 2300, 2400, 2500, 2600, 2700] st st := gBN.rf hB
  refine lv_aload_n hx hb dX10_herd_0 rfl (lv_at hl 0 rfl) ?_
  refine lv_iconst (v := 0) hx hb dX10_herd_1 (by decide) ?_
  refine gs_put (C := RX10) (T := TX10) (N := 59) (ty := .int) (val := .int 0) hx hb hts inX10 tyX10 tyX10_ok nmX10 hown hK hI hm hM hS 0 0 0 (by decide) rfl rfl (by decide) (hts _ gm_897) (fun _ h9 => h9) rfl (0 : Int32) rfl (by decide +kernel) rfl rfl (Nat.le_of_ble_eq_true rfl) dX10_herd_2 (fun st_1 H locs est_1 hM hS => ?_)
  have hB_st_1 : gBN bM kM [0, 2200, 2300, 2400, 2500, 2600, 2700] st st_1 := by rw [est_1]; exact hB_st.up (show (0 : Nat) ∈ _ from by decide) (gi_lo _) (gi_hi _)
  refine lv_iload_n hx hb dX10_herd_5 rfl (lv_at hl 1 rfl) ?_
  refine lv_if_lt (tgt := 54) hx hb dX10_herd_6 (by decide) (fun c_2 => ?_) (fun c_2 => ?_)
  · have ic_2 := gz_lt (rfl : x.toInt = x.toInt) (by decide : (0 : Int32).toInt = 0) c_2
    refine lv_iconst (v := 0) hx hb dX10_herd_54 (by decide) ?_
    exact gs_iret hx hb hr hlocks hM hS (by decide) ⟨hB_st_1, (Or.inr ⟨rfl, by omega, (frM.up est_1)⟩)⟩ (by exact Nat.le_refl _) (by exact Nat.le_refl _) dX10_herd_55
  · have ic_2 := gz_nlt (rfl : x.toInt = x.toInt) (by decide : (0 : Int32).toInt = 0) c_2
    refine lv_iload_n hx hb dX10_herd_9 rfl (lv_at hl 1 rfl) ?_
    refine lv_iconst (v := 4) hx hb dX10_herd_10 (by decide) ?_
    refine lv_icmp_ge (tgt := 54) hx hb dX10_herd_11 (by decide) (fun c_3 => ?_) (fun c_3 => ?_)
    · have ic_3 := gz_le (by decide : (4 : Int32).toInt = 4) (rfl : x.toInt = x.toInt) c_3
      refine lv_iconst (v := 0) hx hb dX10_herd_54 (by decide) ?_
      exact gs_iret hx hb hr hlocks hM hS (by decide) ⟨hB_st_1, (Or.inr ⟨rfl, by omega, (frM.up est_1)⟩)⟩ (by exact Nat.le_refl _) (by exact Nat.le_refl _) dX10_herd_55
    · have ic_3 := gz_nle (by decide : (4 : Int32).toInt = 4) (rfl : x.toInt = x.toInt) c_3
      refine lv_iload_n hx hb dX10_herd_14 rfl (lv_at hl 2 rfl) ?_
      refine gs_calli (va_runS (As := [.int y]) (rest := []) ⟨hx, hb, hml, hown, hts⟩ (m_isClan l G cy sK sV ad H.size st_1 hB_st_1.1 y y.toInt rfl ) ⟨(gz_cb (n := 1) hts gm_1209 gm_12 gm_1211 ⟨by decide +kernel, by decide +kernel, by decide +kernel⟩ ⟨Nat.le_of_ble_eq_true rfl, Nat.le_of_ble_eq_true rfl⟩), hts _ gm_1210⟩ (gs_preS hK hov hE hI hM hm hS hA) rfl rfl hl.1 rfl (lv_room (Nat.le_of_ble_eq_true rfl)) dX10_herd_15 ⟨Nat.le_of_ble_eq_true rfl, Nat.le_of_ble_eq_true rfl⟩) hm hS hA (fun r_4 st_4 H locs hw_4 hM hS => ?_)
      obtain ⟨n_4, hw_4⟩ := hw_4
      have n_4 := gBN.nil n_4
      subst n_4
      rcases hw_4 with ⟨rfl, hw_4_0, hw_4_1⟩ | ⟨rfl, hw_4_0⟩
      · skip
        refine lv_if_eq (tgt := 54) hx hb dX10_herd_18 (by decide) (fun h9 => absurd h9 (by decide)) (fun _ => ?_)
        refine lv_iload_n hx hb dX10_herd_21 rfl (lv_at hl 3 rfl) ?_
        refine lv_iconst (v := 1) hx hb dX10_herd_22 (by decide) ?_
        refine lv_icmp_lt (tgt := 54) hx hb dX10_herd_23 (by decide) (fun c_5 => ?_) (fun c_5 => ?_)
        · have ic_5 := gz_lt (rfl : w.toInt = w.toInt) (by decide : (1 : Int32).toInt = 1) c_5
          refine lv_iconst (v := 0) hx hb dX10_herd_54 (by decide) ?_
          exact gs_iret hx hb hr hlocks hM hS (by decide) ⟨hB_st_1, (Or.inr ⟨rfl, by omega, (frM.up est_1)⟩)⟩ (by exact Nat.le_refl _) (by exact Nat.le_refl _) dX10_herd_55
        · have ic_5 := gz_nlt (rfl : w.toInt = w.toInt) (by decide : (1 : Int32).toInt = 1) c_5
          refine lv_iload_n hx hb dX10_herd_26 rfl (lv_at hl 3 rfl) ?_
          refine lv_bipush (v := 100) hx hb dX10_herd_27 (by decide) ?_
          refine lv_icmp_gt (tgt := 54) hx hb dX10_herd_29 (by decide) (fun c_6 => ?_) (fun c_6 => ?_)
          · have ic_6 := gz_lt (by decide : (100 : Int32).toInt = 100) (rfl : w.toInt = w.toInt) c_6
            refine lv_iconst (v := 0) hx hb dX10_herd_54 (by decide) ?_
            exact gs_iret hx hb hr hlocks hM hS (by decide) ⟨hB_st_1, (Or.inr ⟨rfl, by omega, (frM.up est_1)⟩)⟩ (by exact Nat.le_refl _) (by exact Nat.le_refl _) dX10_herd_55
          · have ic_6 := gz_nlt (by decide : (100 : Int32).toInt = 100) (rfl : w.toInt = w.toInt) c_6
            refine lv_iload hx hb dX10_herd_32 (lv_at hl 4 rfl) ?_
            refine lv_iconst (v := 1) hx hb dX10_herd_34 (by decide) ?_
            refine lv_icmp_lt (tgt := 54) hx hb dX10_herd_35 (by decide) (fun c_7 => ?_) (fun c_7 => ?_)
            · have ic_7 := gz_lt (rfl : v.toInt = v.toInt) (by decide : (1 : Int32).toInt = 1) c_7
              refine lv_iconst (v := 0) hx hb dX10_herd_54 (by decide) ?_
              exact gs_iret hx hb hr hlocks hM hS (by decide) ⟨hB_st_1, (Or.inr ⟨rfl, by omega, (frM.up est_1)⟩)⟩ (by exact Nat.le_refl _) (by exact Nat.le_refl _) dX10_herd_55
            · have ic_7 := gz_nlt (rfl : v.toInt = v.toInt) (by decide : (1 : Int32).toInt = 1) c_7
              refine lv_iload hx hb dX10_herd_38 (lv_at hl 4 rfl) ?_
              refine lv_bipush (v := 9) hx hb dX10_herd_40 (by decide) ?_
              refine lv_icmp_gt (tgt := 54) hx hb dX10_herd_42 (by decide) (fun c_8 => ?_) (fun c_8 => ?_)
              · have ic_8 := gz_lt (by decide : (9 : Int32).toInt = 9) (rfl : v.toInt = v.toInt) c_8
                refine lv_iconst (v := 0) hx hb dX10_herd_54 (by decide) ?_
                exact gs_iret hx hb hr hlocks hM hS (by decide) ⟨hB_st_1, (Or.inr ⟨rfl, by omega, (frM.up est_1)⟩)⟩ (by exact Nat.le_refl _) (by exact Nat.le_refl _) dX10_herd_55
              · have ic_8 := gz_nlt (by decide : (9 : Int32).toInt = 9) (rfl : v.toInt = v.toInt) c_8
                refine lv_aload_n hx hb dX10_herd_45 rfl (lv_at hl 0 rfl) ?_
                refine lv_iload hx hb dX10_herd_46 (lv_at hl 5 rfl) ?_
                refine gs_calli (va_runV (As := [.int t]) (rest := []) ⟨hx, hb, hml, hown, hts⟩ (m_hasWell l G cy sK sV ad H.size st_1 hB_st_1.1 t t.toInt rfl ) ⟨(gz_cb (n := 1) hts gm_1197 gm_12 gm_1200 ⟨by decide +kernel, by decide +kernel, by decide +kernel⟩ ⟨Nat.le_of_ble_eq_true rfl, Nat.le_of_ble_eq_true rfl⟩), hts _ gm_1199, hts _ gs_50⟩ (gs_preV hK hov hE hI hM hm hS hA 0 0 (by decide) rfl rfl) rfl rfl hl.1 rfl (lv_room (Nat.le_of_ble_eq_true rfl)) dX10_herd_48 ⟨Nat.le_of_ble_eq_true rfl, Nat.le_of_ble_eq_true rfl⟩) hm hS hA (fun r_9 st_9 H locs hw_9 hM hS => ?_)
                obtain ⟨n_9, hw_9⟩ := hw_9
                have n_9 := gBN.nil n_9
                subst n_9
                have hqhw_90 : (st_1 1 0 t.toNatClampNeg).toInt = ((st 1 0 t.toNatClampNeg) : Int32).toInt := congrArg Int32.toInt (((congrFun (congrFun (congrFun est_1 1) 0) t.toNatClampNeg).trans (congrFun (congrFun (gU_k (by decide)) 0) t.toNatClampNeg)))
                rcases hw_9 with ⟨rfl, hw_9_0, hw_9_1, hw_9_2⟩ | ⟨rfl, hw_9_0⟩
                · skip
                  refine lv_if_ne (tgt := 56) hx hb dX10_herd_51 (by decide) (fun _ => ?_) (fun h9 => absurd h9 (by decide))
                  refine lv_aload_n hx hb dX10_herd_56 rfl (lv_at hl 0 rfl) ?_
                  refine gs_get (C := RX10) (T := TX10) (N := 59) hx hb hts inX10 hown hK hM 0 0 38 (by decide) rfl rfl (by decide) (hts _ gm_935) (fun _ h9 => h9) rfl dX10_herd_57 ?_
                  refine lv_iload_n hx hb dX10_herd_60 rfl (lv_at hl 1 rfl) ?_
                  refine lv_iconst (v := 1) hx hb dX10_herd_61 (by decide) ?_
                  refine gs_zast hx hb hK hI hm hM hS 22 0 (by decide) (fun _ => rfl) (vp_in_iff.mpr ⟨by omega, by omega⟩) dX10_herd_62 (fun st_10 H locs est_10 hM hS => ?_)
                  have hB_st_10 : gBN bM kM [0, 2200, 2300, 2400, 2500, 2600, 2700] st st_10 := by rw [est_10]; exact hB_st_1.up (show (2200 : Nat) ∈ _ from by decide) (gi_lo _) (gi_hi _)
                  refine lv_aload_n hx hb dX10_herd_63 rfl (lv_at hl 0 rfl) ?_
                  refine gs_get (C := RX10) (T := TX10) (N := 59) hx hb hts inX10 hown hK hM 0 0 39 (by decide) rfl rfl (by decide) (hts _ gm_936) (fun _ h9 => h9) rfl dX10_herd_64 ?_
                  refine lv_iload_n hx hb dX10_herd_67 rfl (lv_at hl 1 rfl) ?_
                  refine lv_iload_n hx hb dX10_herd_68 rfl (lv_at hl 2 rfl) ?_
                  refine gs_iast hx hb hK hI hm hM hS 23 0 (by decide) (fun _ => rfl) (vp_in_iff.mpr ⟨by omega, by omega⟩) dX10_herd_69 (fun st_11 H locs est_11 hM hS => ?_)
                  have hB_st_11 : gBN bM kM [0, 2200, 2300, 2400, 2500, 2600, 2700] st st_11 := by rw [est_11]; exact hB_st_10.up (show (2300 : Nat) ∈ _ from by decide) (gi_lo _) (gi_hi _)
                  refine lv_aload_n hx hb dX10_herd_70 rfl (lv_at hl 0 rfl) ?_
                  refine gs_get (C := RX10) (T := TX10) (N := 59) hx hb hts inX10 hown hK hM 0 0 40 (by decide) rfl rfl (by decide) (hts _ gm_937) (fun _ h9 => h9) rfl dX10_herd_71 ?_
                  refine lv_iload_n hx hb dX10_herd_74 rfl (lv_at hl 1 rfl) ?_
                  refine lv_iload_n hx hb dX10_herd_75 rfl (lv_at hl 3 rfl) ?_
                  refine gs_iast hx hb hK hI hm hM hS 24 0 (by decide) (fun _ => rfl) (vp_in_iff.mpr ⟨by omega, by omega⟩) dX10_herd_76 (fun st_12 H locs est_12 hM hS => ?_)
                  have hB_st_12 : gBN bM kM [0, 2200, 2300, 2400, 2500, 2600, 2700] st st_12 := by rw [est_12]; exact hB_st_11.up (show (2400 : Nat) ∈ _ from by decide) (gi_lo _) (gi_hi _)
                  refine lv_aload_n hx hb dX10_herd_77 rfl (lv_at hl 0 rfl) ?_
                  refine gs_get (C := RX10) (T := TX10) (N := 59) hx hb hts inX10 hown hK hM 0 0 41 (by decide) rfl rfl (by decide) (hts _ gm_938) (fun _ h9 => h9) rfl dX10_herd_78 ?_
                  refine lv_iload_n hx hb dX10_herd_81 rfl (lv_at hl 1 rfl) ?_
                  refine lv_iload hx hb dX10_herd_82 (lv_at hl 4 rfl) ?_
                  refine gs_iast hx hb hK hI hm hM hS 25 0 (by decide) (fun _ => rfl) (vp_in_iff.mpr ⟨by omega, by omega⟩) dX10_herd_84 (fun st_13 H locs est_13 hM hS => ?_)
                  have hB_st_13 : gBN bM kM [0, 2200, 2300, 2400, 2500, 2600, 2700] st st_13 := by rw [est_13]; exact hB_st_12.up (show (2500 : Nat) ∈ _ from by decide) (gi_lo _) (gi_hi _)
                  refine lv_aload_n hx hb dX10_herd_85 rfl (lv_at hl 0 rfl) ?_
                  refine gs_get (C := RX10) (T := TX10) (N := 59) hx hb hts inX10 hown hK hM 0 0 42 (by decide) rfl rfl (by decide) (hts _ gm_939) (fun _ h9 => h9) rfl dX10_herd_86 ?_
                  refine lv_iload_n hx hb dX10_herd_89 rfl (lv_at hl 1 rfl) ?_
                  refine lv_iload hx hb dX10_herd_90 (lv_at hl 5 rfl) ?_
                  refine gs_iast hx hb hK hI hm hM hS 26 0 (by decide) (fun _ => rfl) (vp_in_iff.mpr ⟨by omega, by omega⟩) dX10_herd_92 (fun st_14 H locs est_14 hM hS => ?_)
                  have hB_st_14 : gBN bM kM [0, 2200, 2300, 2400, 2500, 2600, 2700] st st_14 := by rw [est_14]; exact hB_st_13.up (show (2600 : Nat) ∈ _ from by decide) (show (0 : Int) ≤ t.toInt from by omega) (show t.toInt ≤ (5 : Int) from by omega)
                  refine lv_aload_n hx hb dX10_herd_93 rfl (lv_at hl 0 rfl) ?_
                  refine gs_get (C := RX10) (T := TX10) (N := 59) hx hb hts inX10 hown hK hM 0 0 43 (by decide) rfl rfl (by decide) (hts _ gm_940) (fun _ h9 => h9) rfl dX10_herd_94 ?_
                  refine lv_iload_n hx hb dX10_herd_97 rfl (lv_at hl 1 rfl) ?_
                  refine lv_aload_n hx hb dX10_herd_98 rfl (lv_at hl 0 rfl) ?_
                  refine gs_get (C := RX10) (T := TX10) (N := 59) hx hb hts inX10 hown hK hM 0 0 7 (by decide) rfl rfl (by decide) (hts _ gm_904) (fun _ h9 => h9) rfl dX10_herd_99 ?_
                  refine lv_topi (fun x_15 ex_15 => ?_)
                  have ex_15 : (st 0 0 7) = x_15 := Eq.symm (ex_15.trans (((congrFun (congrFun (congrFun est_14 0) 0) 7).trans (congrFun (congrFun (gU_k (by decide)) 0) 7)).trans (((congrFun (congrFun (congrFun est_13 0) 0) 7).trans (congrFun (congrFun (gU_k (by decide)) 0) 7)).trans (((congrFun (congrFun (congrFun est_12 0) 0) 7).trans (congrFun (congrFun (gU_k (by decide)) 0) 7)).trans (((congrFun (congrFun (congrFun est_11 0) 0) 7).trans (congrFun (congrFun (gU_k (by decide)) 0) 7)).trans (((congrFun (congrFun (congrFun est_10 0) 0) 7).trans (congrFun (congrFun (gU_k (by decide)) 0) 7)).trans ((congrFun (congrFun (congrFun est_1 0) 0) 7).trans (gU_other (by decide)))))))))
                  subst ex_15
                  have bf_16 : (0 : Int) ≤ (st 0 0 7).toInt ∧ (st 0 0 7).toInt ≤ (199 : Int) := hB_st.1 0 0 7
                  refine gs_iast hx hb hK hI hm hM hS 27 0 (by decide) (fun _ => rfl) (vp_in_iff.mpr ⟨by omega, by omega⟩) dX10_herd_102 (fun st_17 H locs est_17 hM hS => ?_)
                  have hB_st_17 : gBN bM kM [0, 2200, 2300, 2400, 2500, 2600, 2700] st st_17 := by rw [est_17]; exact hB_st_14.up (show (2700 : Nat) ∈ _ from by decide) (gi_lo _) (gi_hi _)
                  refine lv_iconst (v := 1) hx hb dX10_herd_103 (by decide) ?_
                  exact gs_iret hx hb hr hlocks hM hS (by decide) ⟨hB_st_17, (Or.inl ⟨rfl, ⟨by omega, by omega, by omega, by omega, by omega, by omega, by omega, by omega, by omega, by omega, by omega⟩, ((congrFun (congrFun est_17 22) 0).trans ((congrFun (gU_k (by decide)) 0).trans ((congrFun (congrFun est_14 22) 0).trans ((congrFun (gU_k (by decide)) 0).trans ((congrFun (congrFun est_13 22) 0).trans ((congrFun (gU_k (by decide)) 0).trans ((congrFun (congrFun est_12 22) 0).trans ((congrFun (gU_k (by decide)) 0).trans ((congrFun (congrFun est_11 22) 0).trans ((congrFun (gU_k (by decide)) 0).trans ((congrFun (congrFun est_10 22) 0).trans ((gU_at _ _ _ _ _).trans (congrArg (fun f9 => upd f9 (x.toNatClampNeg) ((vp_nar .boolean 1) : Int32)) ((congrFun (congrFun est_1 22) 0).trans ((congrFun (gU_k (by decide)) 0).trans rfl))))))))))))))), ((congrFun (congrFun est_17 23) 0).trans ((congrFun (gU_k (by decide)) 0).trans ((congrFun (congrFun est_14 23) 0).trans ((congrFun (gU_k (by decide)) 0).trans ((congrFun (congrFun est_13 23) 0).trans ((congrFun (gU_k (by decide)) 0).trans ((congrFun (congrFun est_12 23) 0).trans ((congrFun (gU_k (by decide)) 0).trans ((congrFun (congrFun est_11 23) 0).trans ((gU_at _ _ _ _ _).trans (congrArg (fun f9 => upd f9 (x.toNatClampNeg) (y : Int32)) ((congrFun (congrFun est_10 23) 0).trans ((congrFun (gU_k (by decide)) 0).trans ((congrFun (congrFun est_1 23) 0).trans ((congrFun (gU_k (by decide)) 0).trans rfl))))))))))))))), ((congrFun (congrFun est_17 24) 0).trans ((congrFun (gU_k (by decide)) 0).trans ((congrFun (congrFun est_14 24) 0).trans ((congrFun (gU_k (by decide)) 0).trans ((congrFun (congrFun est_13 24) 0).trans ((congrFun (gU_k (by decide)) 0).trans ((congrFun (congrFun est_12 24) 0).trans ((gU_at _ _ _ _ _).trans (congrArg (fun f9 => upd f9 (x.toNatClampNeg) (w : Int32)) ((congrFun (congrFun est_11 24) 0).trans ((congrFun (gU_k (by decide)) 0).trans ((congrFun (congrFun est_10 24) 0).trans ((congrFun (gU_k (by decide)) 0).trans ((congrFun (congrFun est_1 24) 0).trans ((congrFun (gU_k (by decide)) 0).trans rfl))))))))))))))), ((congrFun (congrFun est_17 25) 0).trans ((congrFun (gU_k (by decide)) 0).trans ((congrFun (congrFun est_14 25) 0).trans ((congrFun (gU_k (by decide)) 0).trans ((congrFun (congrFun est_13 25) 0).trans ((gU_at _ _ _ _ _).trans (congrArg (fun f9 => upd f9 (x.toNatClampNeg) (v : Int32)) ((congrFun (congrFun est_12 25) 0).trans ((congrFun (gU_k (by decide)) 0).trans ((congrFun (congrFun est_11 25) 0).trans ((congrFun (gU_k (by decide)) 0).trans ((congrFun (congrFun est_10 25) 0).trans ((congrFun (gU_k (by decide)) 0).trans ((congrFun (congrFun est_1 25) 0).trans ((congrFun (gU_k (by decide)) 0).trans rfl))))))))))))))), ((congrFun (congrFun est_17 26) 0).trans ((congrFun (gU_k (by decide)) 0).trans ((congrFun (congrFun est_14 26) 0).trans ((gU_at _ _ _ _ _).trans (congrArg (fun f9 => upd f9 (x.toNatClampNeg) (t : Int32)) ((congrFun (congrFun est_13 26) 0).trans ((congrFun (gU_k (by decide)) 0).trans ((congrFun (congrFun est_12 26) 0).trans ((congrFun (gU_k (by decide)) 0).trans ((congrFun (congrFun est_11 26) 0).trans ((congrFun (gU_k (by decide)) 0).trans ((congrFun (congrFun est_10 26) 0).trans ((congrFun (gU_k (by decide)) 0).trans ((congrFun (congrFun est_1 26) 0).trans ((congrFun (gU_k (by decide)) 0).trans rfl))))))))))))))), ((congrFun (congrFun est_17 27) 0).trans ((gU_at _ _ _ _ _).trans (congrArg (fun f9 => upd f9 (x.toNatClampNeg) ((st 0 0 7) : Int32)) ((congrFun (congrFun est_14 27) 0).trans ((congrFun (gU_k (by decide)) 0).trans ((congrFun (congrFun est_13 27) 0).trans ((congrFun (gU_k (by decide)) 0).trans ((congrFun (congrFun est_12 27) 0).trans ((congrFun (gU_k (by decide)) 0).trans ((congrFun (congrFun est_11 27) 0).trans ((congrFun (gU_k (by decide)) 0).trans ((congrFun (congrFun est_10 27) 0).trans ((congrFun (gU_k (by decide)) 0).trans ((congrFun (congrFun est_1 27) 0).trans ((congrFun (gU_k (by decide)) 0).trans rfl)))))))))))))))⟩)⟩ (by exact Nat.le_refl _) (by exact Nat.le_refl _) dX10_herd_104
                · skip
                  refine lv_if_ne (tgt := 56) hx hb dX10_herd_51 (by decide) (fun h9 => absurd (by decide) h9) (fun _ => ?_)
                  refine lv_iconst (v := 0) hx hb dX10_herd_54 (by decide) ?_
                  exact gs_iret hx hb hr hlocks hM hS (by decide) ⟨hB_st_1, (Or.inr ⟨rfl, by omega, (frM.up est_1)⟩)⟩ (by exact Nat.le_refl _) (by exact Nat.le_refl _) dX10_herd_55
      · skip
        refine lv_if_eq (tgt := 54) hx hb dX10_herd_18 (by decide) (fun _ => ?_) (fun h9 => absurd (by decide) h9)
        refine lv_iconst (v := 0) hx hb dX10_herd_54 (by decide) ?_
        exact gs_iret hx hb hr hlocks hM hS (by decide) ⟨hB_st_1, (Or.inr ⟨rfl, by omega, (frM.up est_1)⟩)⟩ (by exact Nat.le_refl _) (by exact Nat.le_refl _) dX10_herd_55

set_option maxHeartbeats 4000000 in
set_option maxRecDepth 100000 in
/-- WellCourtModel.drop -/
theorem m_drop (l : Launch) (G : va_G) (cy : Nat → ClassId) (sK sV : Nat → Nat) (ad : Nat → Nat → Nat) (sz : Nat) (st : gS) (hB : gBd bM st) (x : Int32) (Xx : Int) (kx : x.toInt = Xx) : gsMi l yX10_drop cX10_drop 2 (some .boolean) ({ frames := 0, cells := 0, slots := 0, locals := 0 } : Room) G cy sK sV (shM cy ad) cnM ad sz [.ref (ad 0 0), .int x] st (fun (r : Int32) (u : gS) => gBN bM kM [0, 2200] st u ∧ ((r = 1 ∧ (0 ≤ Xx) ∧ (Xx ≤ 3) ∧ (¬ (st 22 0 x.toNatClampNeg).toInt = 0) ∧ (u 22 0 = upd (st 22 0) x.toNatClampNeg (vp_nar .boolean 0))) ∨ (r = 0 ∧ (Xx < 0 ∨ 3 < Xx ∨ (st 22 0 x.toNatClampNeg).toInt = 0) ∧ (frM st u)))) := by
  refine gs_start (fun A => gsQi G (shM cy ad) cnM ad _ A) (by decide) (Nat.le_of_ble_eq_true rfl) ?_
  intro p e s m below meth c A ls H hx hb hr hml hlocks hown hts hK hov hE hI hM hm hS hA hl
  have hl : lv_has ls 2 [(0, .ref (ad 0 0)), (1, .int x)] := hl
  have hB_st : gBN bM kM [0, 2200] st st := gBN.rf hB
  refine lv_aload_n hx hb dX10_drop_0 rfl (lv_at hl 0 rfl) ?_
  refine lv_iconst (v := 0) hx hb dX10_drop_1 (by decide) ?_
  refine gs_put (C := RX10) (T := TX10) (N := 59) (ty := .int) (val := .int 0) hx hb hts inX10 tyX10 tyX10_ok nmX10 hown hK hI hm hM hS 0 0 0 (by decide) rfl rfl (by decide) (hts _ gm_897) (fun _ h9 => h9) rfl (0 : Int32) rfl (by decide +kernel) rfl rfl (Nat.le_of_ble_eq_true rfl) dX10_drop_2 (fun st_1 H locs est_1 hM hS => ?_)
  have hB_st_1 : gBN bM kM [0, 2200] st st_1 := by rw [est_1]; exact hB_st.up (show (0 : Nat) ∈ _ from by decide) (gi_lo _) (gi_hi _)
  refine lv_iload_n hx hb dX10_drop_5 rfl (lv_at hl 1 rfl) ?_
  refine lv_if_lt (tgt := 23) hx hb dX10_drop_6 (by decide) (fun c_2 => ?_) (fun c_2 => ?_)
  · have ic_2 := gz_lt (rfl : x.toInt = x.toInt) (by decide : (0 : Int32).toInt = 0) c_2
    refine lv_iconst (v := 0) hx hb dX10_drop_23 (by decide) ?_
    exact gs_iret hx hb hr hlocks hM hS (by decide) ⟨hB_st_1, (Or.inr ⟨rfl, by omega, (frM.up est_1)⟩)⟩ (by exact Nat.le_refl _) (by exact Nat.le_refl _) dX10_drop_24
  · have ic_2 := gz_nlt (rfl : x.toInt = x.toInt) (by decide : (0 : Int32).toInt = 0) c_2
    refine lv_iload_n hx hb dX10_drop_9 rfl (lv_at hl 1 rfl) ?_
    refine lv_iconst (v := 4) hx hb dX10_drop_10 (by decide) ?_
    refine lv_icmp_ge (tgt := 23) hx hb dX10_drop_11 (by decide) (fun c_3 => ?_) (fun c_3 => ?_)
    · have ic_3 := gz_le (by decide : (4 : Int32).toInt = 4) (rfl : x.toInt = x.toInt) c_3
      refine lv_iconst (v := 0) hx hb dX10_drop_23 (by decide) ?_
      exact gs_iret hx hb hr hlocks hM hS (by decide) ⟨hB_st_1, (Or.inr ⟨rfl, by omega, (frM.up est_1)⟩)⟩ (by exact Nat.le_refl _) (by exact Nat.le_refl _) dX10_drop_24
    · have ic_3 := gz_nle (by decide : (4 : Int32).toInt = 4) (rfl : x.toInt = x.toInt) c_3
      refine lv_aload_n hx hb dX10_drop_14 rfl (lv_at hl 0 rfl) ?_
      refine gs_get (C := RX10) (T := TX10) (N := 59) hx hb hts inX10 hown hK hM 0 0 38 (by decide) rfl rfl (by decide) (hts _ gm_935) (fun _ h9 => h9) rfl dX10_drop_15 ?_
      refine lv_iload_n hx hb dX10_drop_18 rfl (lv_at hl 1 rfl) ?_
      refine gs_zald hx hb hK hM 22 0 (by decide) rfl (vp_in_iff.mpr ⟨by omega, by omega⟩) dX10_drop_19 ?_
      refine lv_topi (fun x_4 ex_4 => ?_)
      have qx_4 : x_4.toInt = (st_1 22 0 (x.toNatClampNeg)).toInt := congrArg Int32.toInt ex_4
      have rx_4 : x_4.toInt = ((st 22 0 (x.toNatClampNeg)) : Int32).toInt := by rw [ex_4]; exact congrArg Int32.toInt (((congrFun (congrFun (congrFun est_1 22) 0) (x.toNatClampNeg)).trans (congrFun (congrFun (gU_k (by decide)) 0) (x.toNatClampNeg))))
      refine lv_if_ne (tgt := 25) hx hb dX10_drop_20 (by decide) (fun c_5 => ?_) (fun c_5 => ?_)
      · have ic_5 := gz_ne (rfl : x_4.toInt = x_4.toInt) (by decide : (0 : Int32).toInt = 0) c_5
        refine lv_aload_n hx hb dX10_drop_25 rfl (lv_at hl 0 rfl) ?_
        refine gs_get (C := RX10) (T := TX10) (N := 59) hx hb hts inX10 hown hK hM 0 0 38 (by decide) rfl rfl (by decide) (hts _ gm_935) (fun _ h9 => h9) rfl dX10_drop_26 ?_
        refine lv_iload_n hx hb dX10_drop_29 rfl (lv_at hl 1 rfl) ?_
        refine lv_iconst (v := 0) hx hb dX10_drop_30 (by decide) ?_
        refine gs_zast hx hb hK hI hm hM hS 22 0 (by decide) (fun _ => rfl) (vp_in_iff.mpr ⟨by omega, by omega⟩) dX10_drop_31 (fun st_6 H locs est_6 hM hS => ?_)
        have hB_st_6 : gBN bM kM [0, 2200] st st_6 := by rw [est_6]; exact hB_st_1.up (show (2200 : Nat) ∈ _ from by decide) (gi_lo _) (gi_hi _)
        refine lv_iconst (v := 1) hx hb dX10_drop_32 (by decide) ?_
        exact gs_iret hx hb hr hlocks hM hS (by decide) ⟨hB_st_6, (Or.inl ⟨rfl, by omega, by omega, by omega, ((congrFun (congrFun est_6 22) 0).trans ((gU_at _ _ _ _ _).trans (congrArg (fun f9 => upd f9 (x.toNatClampNeg) ((vp_nar .boolean 0) : Int32)) ((congrFun (congrFun est_1 22) 0).trans ((congrFun (gU_k (by decide)) 0).trans rfl)))))⟩)⟩ (by exact Nat.le_refl _) (by exact Nat.le_refl _) dX10_drop_33
      · have ic_5 := gz_eqn (rfl : x_4.toInt = x_4.toInt) (by decide : (0 : Int32).toInt = 0) c_5
        refine lv_iconst (v := 0) hx hb dX10_drop_23 (by decide) ?_
        exact gs_iret hx hb hr hlocks hM hS (by decide) ⟨hB_st_1, (Or.inr ⟨rfl, by omega, (frM.up est_1)⟩)⟩ (by exact Nat.le_refl _) (by exact Nat.le_refl _) dX10_drop_24

set_option maxHeartbeats 4000000 in
set_option maxRecDepth 100000 in
/-- WellCourtModel.way -/
theorem m_way (l : Launch) (G : va_G) (cy : Nat → ClassId) (sK sV : Nat → Nat) (ad : Nat → Nat → Nat) (sz : Nat) (st : gS) (hB : gBd bM st) (x : Int32) (y : Int32) (w : Int32) (Xx : Int) (Xy : Int) (Xw : Int) (kx : x.toInt = Xx) (ky : y.toInt = Xy) (kw : w.toInt = Xw) : gsMi l yX10_way cX10_way 4 (some .boolean) ({ frames := 0, cells := 0, slots := 0, locals := 0 } : Room) G cy sK sV (shM cy ad) cnM ad sz [.ref (ad 0 0), .int x, .int y, .int w] st (fun (r : Int32) (u : gS) => gBN bM kM [0, 2800] st u ∧ ((r = 1 ∧ (0 ≤ Xx ∧ Xx ≤ 5 ∧ 0 ≤ Xy ∧ Xy ≤ 5 ∧ ¬ Xx = Xy ∧ 0 ≤ Xw ∧ Xw ≤ 9) ∧ (u 28 0 = upd (st 28 0) (6 * x.toNatClampNeg + y.toNatClampNeg) w)) ∨ (r = 0 ∧ (¬ (0 ≤ Xx ∧ Xx ≤ 5 ∧ 0 ≤ Xy ∧ Xy ≤ 5 ∧ ¬ Xx = Xy ∧ 0 ≤ Xw ∧ Xw ≤ 9)) ∧ (frM st u)))) := by
  refine gs_start (fun A => gsQi G (shM cy ad) cnM ad _ A) (by decide) (Nat.le_of_ble_eq_true rfl) ?_
  intro p e s m below meth c A ls H hx hb hr hml hlocks hown hts hK hov hE hI hM hm hS hA hl
  have hl : lv_has ls 4 [(0, .ref (ad 0 0)), (1, .int x), (2, .int y), (3, .int w)] := hl
  have hB_st : gBN bM kM [0, 2800] st st := gBN.rf hB
  refine lv_aload_n hx hb dX10_way_0 rfl (lv_at hl 0 rfl) ?_
  refine lv_iconst (v := 0) hx hb dX10_way_1 (by decide) ?_
  refine gs_put (C := RX10) (T := TX10) (N := 59) (ty := .int) (val := .int 0) hx hb hts inX10 tyX10 tyX10_ok nmX10 hown hK hI hm hM hS 0 0 0 (by decide) rfl rfl (by decide) (hts _ gm_897) (fun _ h9 => h9) rfl (0 : Int32) rfl (by decide +kernel) rfl rfl (Nat.le_of_ble_eq_true rfl) dX10_way_2 (fun st_1 H locs est_1 hM hS => ?_)
  have hB_st_1 : gBN bM kM [0, 2800] st st_1 := by rw [est_1]; exact hB_st.up (show (0 : Nat) ∈ _ from by decide) (gi_lo _) (gi_hi _)
  refine lv_iload_n hx hb dX10_way_5 rfl (lv_at hl 1 rfl) ?_
  refine lv_if_lt (tgt := 40) hx hb dX10_way_6 (by decide) (fun c_2 => ?_) (fun c_2 => ?_)
  · have ic_2 := gz_lt (rfl : x.toInt = x.toInt) (by decide : (0 : Int32).toInt = 0) c_2
    refine lv_iconst (v := 0) hx hb dX10_way_40 (by decide) ?_
    exact gs_iret hx hb hr hlocks hM hS (by decide) ⟨hB_st_1, (Or.inr ⟨rfl, by omega, (frM.up est_1)⟩)⟩ (by exact Nat.le_refl _) (by exact Nat.le_refl _) dX10_way_41
  · have ic_2 := gz_nlt (rfl : x.toInt = x.toInt) (by decide : (0 : Int32).toInt = 0) c_2
    refine lv_iload_n hx hb dX10_way_9 rfl (lv_at hl 1 rfl) ?_
    refine lv_bipush (v := 6) hx hb dX10_way_10 (by decide) ?_
    refine lv_icmp_ge (tgt := 40) hx hb dX10_way_12 (by decide) (fun c_3 => ?_) (fun c_3 => ?_)
    · have ic_3 := gz_le (by decide : (6 : Int32).toInt = 6) (rfl : x.toInt = x.toInt) c_3
      refine lv_iconst (v := 0) hx hb dX10_way_40 (by decide) ?_
      exact gs_iret hx hb hr hlocks hM hS (by decide) ⟨hB_st_1, (Or.inr ⟨rfl, by omega, (frM.up est_1)⟩)⟩ (by exact Nat.le_refl _) (by exact Nat.le_refl _) dX10_way_41
    · have ic_3 := gz_nle (by decide : (6 : Int32).toInt = 6) (rfl : x.toInt = x.toInt) c_3
      refine lv_iload_n hx hb dX10_way_15 rfl (lv_at hl 2 rfl) ?_
      refine lv_if_lt (tgt := 40) hx hb dX10_way_16 (by decide) (fun c_4 => ?_) (fun c_4 => ?_)
      · have ic_4 := gz_lt (rfl : y.toInt = y.toInt) (by decide : (0 : Int32).toInt = 0) c_4
        refine lv_iconst (v := 0) hx hb dX10_way_40 (by decide) ?_
        exact gs_iret hx hb hr hlocks hM hS (by decide) ⟨hB_st_1, (Or.inr ⟨rfl, by omega, (frM.up est_1)⟩)⟩ (by exact Nat.le_refl _) (by exact Nat.le_refl _) dX10_way_41
      · have ic_4 := gz_nlt (rfl : y.toInt = y.toInt) (by decide : (0 : Int32).toInt = 0) c_4
        refine lv_iload_n hx hb dX10_way_19 rfl (lv_at hl 2 rfl) ?_
        refine lv_bipush (v := 6) hx hb dX10_way_20 (by decide) ?_
        refine lv_icmp_ge (tgt := 40) hx hb dX10_way_22 (by decide) (fun c_5 => ?_) (fun c_5 => ?_)
        · have ic_5 := gz_le (by decide : (6 : Int32).toInt = 6) (rfl : y.toInt = y.toInt) c_5
          refine lv_iconst (v := 0) hx hb dX10_way_40 (by decide) ?_
          exact gs_iret hx hb hr hlocks hM hS (by decide) ⟨hB_st_1, (Or.inr ⟨rfl, by omega, (frM.up est_1)⟩)⟩ (by exact Nat.le_refl _) (by exact Nat.le_refl _) dX10_way_41
        · have ic_5 := gz_nle (by decide : (6 : Int32).toInt = 6) (rfl : y.toInt = y.toInt) c_5
          refine lv_iload_n hx hb dX10_way_25 rfl (lv_at hl 1 rfl) ?_
          refine lv_iload_n hx hb dX10_way_26 rfl (lv_at hl 2 rfl) ?_
          refine lv_icmp_eq (tgt := 40) hx hb dX10_way_27 (by decide) (fun c_6 => ?_) (fun c_6 => ?_)
          · have ic_6 := gz_eq (rfl : x.toInt = x.toInt) (rfl : y.toInt = y.toInt) c_6
            refine lv_iconst (v := 0) hx hb dX10_way_40 (by decide) ?_
            exact gs_iret hx hb hr hlocks hM hS (by decide) ⟨hB_st_1, (Or.inr ⟨rfl, by omega, (frM.up est_1)⟩)⟩ (by exact Nat.le_refl _) (by exact Nat.le_refl _) dX10_way_41
          · have ic_6 := gz_ne (rfl : x.toInt = x.toInt) (rfl : y.toInt = y.toInt) c_6
            refine lv_iload_n hx hb dX10_way_30 rfl (lv_at hl 3 rfl) ?_
            refine lv_if_lt (tgt := 40) hx hb dX10_way_31 (by decide) (fun c_7 => ?_) (fun c_7 => ?_)
            · have ic_7 := gz_lt (rfl : w.toInt = w.toInt) (by decide : (0 : Int32).toInt = 0) c_7
              refine lv_iconst (v := 0) hx hb dX10_way_40 (by decide) ?_
              exact gs_iret hx hb hr hlocks hM hS (by decide) ⟨hB_st_1, (Or.inr ⟨rfl, by omega, (frM.up est_1)⟩)⟩ (by exact Nat.le_refl _) (by exact Nat.le_refl _) dX10_way_41
            · have ic_7 := gz_nlt (rfl : w.toInt = w.toInt) (by decide : (0 : Int32).toInt = 0) c_7
              refine lv_iload_n hx hb dX10_way_34 rfl (lv_at hl 3 rfl) ?_
              refine lv_bipush (v := 9) hx hb dX10_way_35 (by decide) ?_
              refine lv_icmp_le (tgt := 42) hx hb dX10_way_37 (by decide) (fun c_8 => ?_) (fun c_8 => ?_)
              · have ic_8 := gz_le (rfl : w.toInt = w.toInt) (by decide : (9 : Int32).toInt = 9) c_8
                refine lv_aload_n hx hb dX10_way_42 rfl (lv_at hl 0 rfl) ?_
                refine gs_get (C := RX10) (T := TX10) (N := 59) hx hb hts inX10 hown hK hM 0 0 44 (by decide) rfl rfl (by decide) (hts _ gm_941) (fun _ h9 => h9) rfl dX10_way_43 ?_
                refine lv_bipush (v := 6) hx hb dX10_way_46 (by decide) ?_
                refine lv_iload_n hx hb dX10_way_48 rfl (lv_at hl 1 rfl) ?_
                refine lv_imul hx hb dX10_way_49 ?_
                refine lv_topi (fun x_9 ex_9 => ?_)
                try have tx_9 : x_9.toInt = 6 * x.toInt := by rw [ex_9]; exact gz_mulI (x := 6) (y := x.toInt) (by decide) rfl (by omega) (by omega)
                refine lv_iload_n hx hb dX10_way_50 rfl (lv_at hl 2 rfl) ?_
                refine lv_iadd hx hb dX10_way_51 ?_
                refine lv_topi (fun x_10 ex_10 => ?_)
                try have tx_10 : x_10.toInt = x_9.toInt + y.toInt := by rw [ex_10]; exact gz_addI (x := x_9.toInt) (y := y.toInt) rfl rfl (by omega) (by omega)
                refine lv_iload_n hx hb dX10_way_52 rfl (lv_at hl 3 rfl) ?_
                refine gs_iast hx hb hK hI hm hM hS 28 0 (by decide) (fun _ => rfl) (vp_in_iff.mpr ⟨by omega, by omega⟩) dX10_way_53 (fun st_11 H locs est_11 hM hS => ?_)
                have hB_st_11 : gBN bM kM [0, 2800] st st_11 := by rw [est_11]; exact hB_st_1.up (show (2800 : Nat) ∈ _ from by decide) (gi_lo _) (gi_hi _)
                refine lv_iconst (v := 1) hx hb dX10_way_54 (by decide) ?_
                exact gs_iret hx hb hr hlocks hM hS (by decide) ⟨hB_st_11, (Or.inl ⟨rfl, by omega, (by have c_x_10 := gs_cl (x := x_10) (by omega); have c_x := gs_cl (x := x) (by omega); have c_y := gs_cl (x := y) (by omega); rw [show st_11 28 0 = (upd (st 28 0) (x_10.toNatClampNeg) (w : Int32)) from ((congrFun (congrFun est_11 28) 0).trans ((gU_at _ _ _ _ _).trans (congrArg (fun f9 => upd f9 (x_10.toNatClampNeg) (w : Int32)) ((congrFun (congrFun est_1 28) 0).trans ((congrFun (gU_k (by decide)) 0).trans rfl))))), show x_10.toNatClampNeg = 6 * x.toNatClampNeg + y.toNatClampNeg by omega])⟩)⟩ (by exact Nat.le_refl _) (by exact Nat.le_refl _) dX10_way_55
              · have ic_8 := gz_nle (rfl : w.toInt = w.toInt) (by decide : (9 : Int32).toInt = 9) c_8
                refine lv_iconst (v := 0) hx hb dX10_way_40 (by decide) ?_
                exact gs_iret hx hb hr hlocks hM hS (by decide) ⟨hB_st_1, (Or.inr ⟨rfl, by omega, (frM.up est_1)⟩)⟩ (by exact Nat.le_refl _) (by exact Nat.le_refl _) dX10_way_41

set_option maxHeartbeats 4000000 in
set_option maxRecDepth 100000 in
/-- WellCourtModel.step -/
theorem m_step (l : Launch) (G : va_G) (cy : Nat → ClassId) (sK sV : Nat → Nat) (ad : Nat → Nat → Nat) (sz : Nat) (st : gS) (hB : gBd bM st) (x : Int32) (y : Int32) (Xx : Int) (Xy : Int) (kx : x.toInt = Xx) (ky : y.toInt = Xy) : gsMi l yX10_step cX10_step 3 (some .int) ({ frames := 0, cells := 0, slots := 0, locals := 0 } : Room) G cy sK sV (shM cy ad) cnM ad sz [.ref (ad 0 0), .int x, .int y] st (fun (r : Int32) (u : gS) => gBN bM kM [0] st u ∧ ((((0 ≤ Xx ∧ Xx ≤ 3 ∧ 0 ≤ (st 0 0 55).toInt ∧ ¬ (st 38 0 x.toNatClampNeg).toInt = 0 ∧ (st 0 0 55).toInt ≤ Xy ∧ Xy < (st 0 0 55).toInt + (st 0 0 56).toInt) ∧ r = st 37 0 (4 * (Xy - (st 0 0 55).toInt) + Xx).toNat) ∨ (¬ (0 ≤ Xx ∧ Xx ≤ 3 ∧ 0 ≤ (st 0 0 55).toInt ∧ ¬ (st 38 0 x.toNatClampNeg).toInt = 0 ∧ (st 0 0 55).toInt ≤ Xy ∧ Xy < (st 0 0 55).toInt + (st 0 0 56).toInt) ∧ r.toInt = -1)) ∧ (frM st u))) := by
  refine gs_start (fun A => gsQi G (shM cy ad) cnM ad _ A) (by decide) (Nat.le_of_ble_eq_true rfl) ?_
  intro p e s m below meth c A ls H hx hb hr hml hlocks hown hts hK hov hE hI hM hm hS hA hl
  have hl : lv_has ls 3 [(0, .ref (ad 0 0)), (1, .int x), (2, .int y)] := hl
  have hB_st : gBN bM kM [0] st st := gBN.rf hB
  have b55 : (-1 : Int) ≤ (st 0 0 55).toInt ∧ (st 0 0 55).toInt ≤ (199 : Int) := hB 0 0 55
  have b56 : (0 : Int) ≤ (st 0 0 56).toInt ∧ (st 0 0 56).toInt ≤ (14 : Int) := hB 0 0 56
  refine lv_aload_n hx hb dX10_step_0 rfl (lv_at hl 0 rfl) ?_
  refine lv_iconst (v := 0) hx hb dX10_step_1 (by decide) ?_
  refine gs_put (C := RX10) (T := TX10) (N := 59) (ty := .int) (val := .int 0) hx hb hts inX10 tyX10 tyX10_ok nmX10 hown hK hI hm hM hS 0 0 0 (by decide) rfl rfl (by decide) (hts _ gm_897) (fun _ h9 => h9) rfl (0 : Int32) rfl (by decide +kernel) rfl rfl (Nat.le_of_ble_eq_true rfl) dX10_step_2 (fun st_1 H locs est_1 hM hS => ?_)
  have hB_st_1 : gBN bM kM [0] st st_1 := by rw [est_1]; exact hB_st.up (show (0 : Nat) ∈ _ from by decide) (gi_lo _) (gi_hi _)
  refine lv_iload_n hx hb dX10_step_5 rfl (lv_at hl 1 rfl) ?_
  refine lv_if_lt (tgt := 51) hx hb dX10_step_6 (by decide) (fun c_2 => ?_) (fun c_2 => ?_)
  · have ic_2 := gz_lt (rfl : x.toInt = x.toInt) (by decide : (0 : Int32).toInt = 0) c_2
    refine lv_iconst (v := (-1)) hx hb dX10_step_51 (by decide) ?_
    exact gs_iret hx hb hr hlocks hM hS rfl ⟨hB_st_1, (Or.inr ⟨fun h9 => by omega, by decide⟩), (frM.up est_1)⟩ (by exact Nat.le_refl _) (by exact Nat.le_refl _) dX10_step_52
  · have ic_2 := gz_nlt (rfl : x.toInt = x.toInt) (by decide : (0 : Int32).toInt = 0) c_2
    refine lv_iload_n hx hb dX10_step_9 rfl (lv_at hl 1 rfl) ?_
    refine lv_iconst (v := 4) hx hb dX10_step_10 (by decide) ?_
    refine lv_icmp_ge (tgt := 51) hx hb dX10_step_11 (by decide) (fun c_3 => ?_) (fun c_3 => ?_)
    · have ic_3 := gz_le (by decide : (4 : Int32).toInt = 4) (rfl : x.toInt = x.toInt) c_3
      refine lv_iconst (v := (-1)) hx hb dX10_step_51 (by decide) ?_
      exact gs_iret hx hb hr hlocks hM hS rfl ⟨hB_st_1, (Or.inr ⟨fun h9 => by omega, by decide⟩), (frM.up est_1)⟩ (by exact Nat.le_refl _) (by exact Nat.le_refl _) dX10_step_52
    · have ic_3 := gz_nle (by decide : (4 : Int32).toInt = 4) (rfl : x.toInt = x.toInt) c_3
      refine lv_aload_n hx hb dX10_step_14 rfl (lv_at hl 0 rfl) ?_
      refine gs_get (C := RX10) (T := TX10) (N := 59) hx hb hts inX10 hown hK hM 0 0 55 (by decide) rfl rfl (by decide) (hts _ gm_952) (fun _ h9 => h9) rfl dX10_step_15 ?_
      refine lv_topi (fun x_4 ex_4 => ?_)
      have ex_4 : (st 0 0 55) = x_4 := Eq.symm (ex_4.trans ((congrFun (congrFun (congrFun est_1 0) 0) 55).trans (gU_other (by decide))))
      subst ex_4
      have bf_5 : (-1 : Int) ≤ (st 0 0 55).toInt ∧ (st 0 0 55).toInt ≤ (199 : Int) := hB_st.1 0 0 55
      refine lv_if_lt (tgt := 51) hx hb dX10_step_18 (by decide) (fun c_6 => ?_) (fun c_6 => ?_)
      · have ic_6 := gz_lt (rfl : (st 0 0 55).toInt = (st 0 0 55).toInt) (by decide : (0 : Int32).toInt = 0) c_6
        refine lv_iconst (v := (-1)) hx hb dX10_step_51 (by decide) ?_
        exact gs_iret hx hb hr hlocks hM hS rfl ⟨hB_st_1, (Or.inr ⟨fun h9 => by omega, by decide⟩), (frM.up est_1)⟩ (by exact Nat.le_refl _) (by exact Nat.le_refl _) dX10_step_52
      · have ic_6 := gz_nlt (rfl : (st 0 0 55).toInt = (st 0 0 55).toInt) (by decide : (0 : Int32).toInt = 0) c_6
        refine lv_aload_n hx hb dX10_step_21 rfl (lv_at hl 0 rfl) ?_
        refine gs_get (C := RX10) (T := TX10) (N := 59) hx hb hts inX10 hown hK hM 0 0 54 (by decide) rfl rfl (by decide) (hts _ gm_951) (fun _ h9 => h9) rfl dX10_step_22 ?_
        refine lv_iload_n hx hb dX10_step_25 rfl (lv_at hl 1 rfl) ?_
        refine gs_zald hx hb hK hM 38 0 (by decide) rfl (vp_in_iff.mpr ⟨by omega, by omega⟩) dX10_step_26 ?_
        refine lv_topi (fun x_7 ex_7 => ?_)
        have qx_7 : x_7.toInt = (st_1 38 0 (x.toNatClampNeg)).toInt := congrArg Int32.toInt ex_7
        have rx_7 : x_7.toInt = ((st 38 0 (x.toNatClampNeg)) : Int32).toInt := by rw [ex_7]; exact congrArg Int32.toInt (((congrFun (congrFun (congrFun est_1 38) 0) (x.toNatClampNeg)).trans (congrFun (congrFun (gU_k (by decide)) 0) (x.toNatClampNeg))))
        refine lv_if_eq (tgt := 51) hx hb dX10_step_27 (by decide) (fun c_8 => ?_) (fun c_8 => ?_)
        · have ic_8 := gz_eq (rfl : x_7.toInt = x_7.toInt) (by decide : (0 : Int32).toInt = 0) c_8
          refine lv_iconst (v := (-1)) hx hb dX10_step_51 (by decide) ?_
          exact gs_iret hx hb hr hlocks hM hS rfl ⟨hB_st_1, (Or.inr ⟨fun h9 => by omega, by decide⟩), (frM.up est_1)⟩ (by exact Nat.le_refl _) (by exact Nat.le_refl _) dX10_step_52
        · have ic_8 := gz_ne (rfl : x_7.toInt = x_7.toInt) (by decide : (0 : Int32).toInt = 0) c_8
          refine lv_iload_n hx hb dX10_step_30 rfl (lv_at hl 2 rfl) ?_
          refine lv_aload_n hx hb dX10_step_31 rfl (lv_at hl 0 rfl) ?_
          refine gs_get (C := RX10) (T := TX10) (N := 59) hx hb hts inX10 hown hK hM 0 0 55 (by decide) rfl rfl (by decide) (hts _ gm_952) (fun _ h9 => h9) rfl dX10_step_32 ?_
          refine lv_topi (fun x_9 ex_9 => ?_)
          have ex_9 : (st 0 0 55) = x_9 := Eq.symm (ex_9.trans ((congrFun (congrFun (congrFun est_1 0) 0) 55).trans (gU_other (by decide))))
          subst ex_9
          have bf_10 : (-1 : Int) ≤ (st 0 0 55).toInt ∧ (st 0 0 55).toInt ≤ (199 : Int) := hB_st.1 0 0 55
          refine lv_icmp_lt (tgt := 51) hx hb dX10_step_35 (by decide) (fun c_11 => ?_) (fun c_11 => ?_)
          · have ic_11 := gz_lt (rfl : y.toInt = y.toInt) (rfl : (st 0 0 55).toInt = (st 0 0 55).toInt) c_11
            have lc_11 := gi_hi (st 0 0 55)
            refine lv_iconst (v := (-1)) hx hb dX10_step_51 (by decide) ?_
            exact gs_iret hx hb hr hlocks hM hS rfl ⟨hB_st_1, (Or.inr ⟨fun h9 => by omega, by decide⟩), (frM.up est_1)⟩ (by exact Nat.le_refl _) (by exact Nat.le_refl _) dX10_step_52
          · have ic_11 := gz_nlt (rfl : y.toInt = y.toInt) (rfl : (st 0 0 55).toInt = (st 0 0 55).toInt) c_11
            refine lv_iload_n hx hb dX10_step_38 rfl (lv_at hl 2 rfl) ?_
            refine lv_aload_n hx hb dX10_step_39 rfl (lv_at hl 0 rfl) ?_
            refine gs_get (C := RX10) (T := TX10) (N := 59) hx hb hts inX10 hown hK hM 0 0 55 (by decide) rfl rfl (by decide) (hts _ gm_952) (fun _ h9 => h9) rfl dX10_step_40 ?_
            refine lv_topi (fun x_12 ex_12 => ?_)
            have ex_12 : (st 0 0 55) = x_12 := Eq.symm (ex_12.trans ((congrFun (congrFun (congrFun est_1 0) 0) 55).trans (gU_other (by decide))))
            subst ex_12
            have bf_13 : (-1 : Int) ≤ (st 0 0 55).toInt ∧ (st 0 0 55).toInt ≤ (199 : Int) := hB_st.1 0 0 55
            refine lv_aload_n hx hb dX10_step_43 rfl (lv_at hl 0 rfl) ?_
            refine gs_get (C := RX10) (T := TX10) (N := 59) hx hb hts inX10 hown hK hM 0 0 56 (by decide) rfl rfl (by decide) (hts _ gm_953) (fun _ h9 => h9) rfl dX10_step_44 ?_
            refine lv_topi (fun x_14 ex_14 => ?_)
            have ex_14 : (st 0 0 56) = x_14 := Eq.symm (ex_14.trans ((congrFun (congrFun (congrFun est_1 0) 0) 56).trans (gU_other (by decide))))
            subst ex_14
            have bf_15 : (0 : Int) ≤ (st 0 0 56).toInt ∧ (st 0 0 56).toInt ≤ (14 : Int) := hB_st.1 0 0 56
            refine lv_iadd hx hb dX10_step_47 ?_
            refine lv_topi (fun x_16 ex_16 => ?_)
            try have tx_16 : x_16.toInt = (st 0 0 55).toInt + (st 0 0 56).toInt := by rw [ex_16]; exact gz_addI (x := (st 0 0 55).toInt) (y := (st 0 0 56).toInt) rfl rfl (by omega) (by omega)
            refine lv_icmp_lt (tgt := 53) hx hb dX10_step_48 (by decide) (fun c_17 => ?_) (fun c_17 => ?_)
            · have ic_17 := gz_lt (rfl : y.toInt = y.toInt) (rfl : x_16.toInt = x_16.toInt) c_17
              have lc_17 := gi_hi x_16
              refine lv_aload_n hx hb dX10_step_53 rfl (lv_at hl 0 rfl) ?_
              refine gs_get (C := RX10) (T := TX10) (N := 59) hx hb hts inX10 hown hK hM 0 0 53 (by decide) rfl rfl (by decide) (hts _ gm_950) (fun _ h9 => h9) rfl dX10_step_54 ?_
              refine lv_iconst (v := 4) hx hb dX10_step_57 (by decide) ?_
              refine lv_iload_n hx hb dX10_step_58 rfl (lv_at hl 2 rfl) ?_
              refine lv_aload_n hx hb dX10_step_59 rfl (lv_at hl 0 rfl) ?_
              refine gs_get (C := RX10) (T := TX10) (N := 59) hx hb hts inX10 hown hK hM 0 0 55 (by decide) rfl rfl (by decide) (hts _ gm_952) (fun _ h9 => h9) rfl dX10_step_60 ?_
              refine lv_topi (fun x_18 ex_18 => ?_)
              have ex_18 : (st 0 0 55) = x_18 := Eq.symm (ex_18.trans ((congrFun (congrFun (congrFun est_1 0) 0) 55).trans (gU_other (by decide))))
              subst ex_18
              have bf_19 : (-1 : Int) ≤ (st 0 0 55).toInt ∧ (st 0 0 55).toInt ≤ (199 : Int) := hB_st.1 0 0 55
              refine lv_isub hx hb dX10_step_63 ?_
              refine lv_topi (fun x_20 ex_20 => ?_)
              try have tx_20 : x_20.toInt = y.toInt - (st 0 0 55).toInt := by rw [ex_20]; exact gz_subI (x := y.toInt) (y := (st 0 0 55).toInt) rfl rfl (by omega) (by omega)
              refine lv_imul hx hb dX10_step_64 ?_
              refine lv_topi (fun x_21 ex_21 => ?_)
              try have tx_21 : x_21.toInt = 4 * x_20.toInt := by rw [ex_21]; exact gz_mulI (x := 4) (y := x_20.toInt) (by decide) rfl (by omega) (by omega)
              refine lv_iload_n hx hb dX10_step_65 rfl (lv_at hl 1 rfl) ?_
              refine lv_iadd hx hb dX10_step_66 ?_
              refine lv_topi (fun x_22 ex_22 => ?_)
              try have tx_22 : x_22.toInt = x_21.toInt + x.toInt := by rw [ex_22]; exact gz_addI (x := x_21.toInt) (y := x.toInt) rfl rfl (by omega) (by omega)
              refine gs_iald hx hb hK hM 37 0 (by decide) rfl (vp_in_iff.mpr ⟨by omega, by omega⟩) dX10_step_67 ?_
              refine lv_topi (fun x_23 ex_23 => ?_)
              have qx_23 : x_23.toInt = (st_1 37 0 (x_22.toNatClampNeg)).toInt := congrArg Int32.toInt ex_23
              have rx_23 : x_23.toInt = ((st 37 0 (x_22.toNatClampNeg)) : Int32).toInt := by rw [ex_23]; exact congrArg Int32.toInt (((congrFun (congrFun (congrFun est_1 37) 0) (x_22.toNatClampNeg)).trans (congrFun (congrFun (gU_k (by decide)) 0) (x_22.toNatClampNeg))))
              exact gs_iret hx hb hr hlocks hM hS rfl ⟨hB_st_1, (Or.inl ⟨⟨by omega, by omega, by omega, by omega, by omega, by omega⟩, (by have c_i := gs_cl (x := x_22) (by omega); rw [show (4 * (Xy - (st 0 0 55).toInt) + Xx).toNat = x_22.toNatClampNeg by omega]; exact (ex_23.trans ((congrFun (congrFun (congrFun est_1 37) 0) (x_22.toNatClampNeg)).trans (congrFun (congrFun (gU_k (by decide)) 0) (x_22.toNatClampNeg)))))⟩), (frM.up est_1)⟩ (by exact Nat.le_refl _) (by exact Nat.le_refl _) dX10_step_68
            · have ic_17 := gz_nlt (rfl : y.toInt = y.toInt) (rfl : x_16.toInt = x_16.toInt) c_17
              refine lv_iconst (v := (-1)) hx hb dX10_step_51 (by decide) ?_
              exact gs_iret hx hb hr hlocks hM hS rfl ⟨hB_st_1, (Or.inr ⟨fun h9 => by omega, by decide⟩), (frM.up est_1)⟩ (by exact Nat.le_refl _) (by exact Nat.le_refl _) dX10_step_52

set_option maxHeartbeats 4000000 in
set_option maxRecDepth 100000 in
/-- WellCourtModel.far -/
theorem m_far (l : Launch) (G : va_G) (cy : Nat → ClassId) (sK sV : Nat → Nat) (ad : Nat → Nat → Nat) (sz : Nat) (st : gS) (hB : gBd bM st) : gsMi l yX10_far cX10_far 1 (some .int) ({ frames := 0, cells := 0, slots := 0, locals := 0 } : Room) G cy sK sV (shM cy ad) cnM ad sz [.ref (ad 0 0)] st (fun (r : Int32) (u : gS) => gBN bM kM [0] st u ∧ ((r = st 0 0 58) ∧ (frM st u))) := by
  refine gs_start (fun A => gsQi G (shM cy ad) cnM ad _ A) (by decide) (Nat.le_of_ble_eq_true rfl) ?_
  intro p e s m below meth c A ls H hx hb hr hml hlocks hown hts hK hov hE hI hM hm hS hA hl
  have hl : lv_has ls 1 [(0, .ref (ad 0 0))] := hl
  have hB_st : gBN bM kM [0] st st := gBN.rf hB
  refine lv_aload_n hx hb dX10_far_0 rfl (lv_at hl 0 rfl) ?_
  refine lv_iconst (v := 0) hx hb dX10_far_1 (by decide) ?_
  refine gs_put (C := RX10) (T := TX10) (N := 59) (ty := .int) (val := .int 0) hx hb hts inX10 tyX10 tyX10_ok nmX10 hown hK hI hm hM hS 0 0 0 (by decide) rfl rfl (by decide) (hts _ gm_897) (fun _ h9 => h9) rfl (0 : Int32) rfl (by decide +kernel) rfl rfl (Nat.le_of_ble_eq_true rfl) dX10_far_2 (fun st_1 H locs est_1 hM hS => ?_)
  have hB_st_1 : gBN bM kM [0] st st_1 := by rw [est_1]; exact hB_st.up (show (0 : Nat) ∈ _ from by decide) (gi_lo _) (gi_hi _)
  refine lv_aload_n hx hb dX10_far_5 rfl (lv_at hl 0 rfl) ?_
  refine gs_get (C := RX10) (T := TX10) (N := 59) hx hb hts inX10 hown hK hM 0 0 58 (by decide) rfl rfl (by decide) (hts _ gm_955) (fun _ h9 => h9) rfl dX10_far_6 ?_
  refine lv_topi (fun x_2 ex_2 => ?_)
  have ex_2 : (st 0 0 58) = x_2 := Eq.symm (ex_2.trans ((congrFun (congrFun (congrFun est_1 0) 0) 58).trans (gU_other (by decide))))
  subst ex_2
  exact gs_iret hx hb hr hlocks hM hS rfl ⟨hB_st_1, rfl, (frM.up est_1)⟩ (by exact Nat.le_refl _) (by exact Nat.le_refl _) dX10_far_9

set_option maxHeartbeats 4000000 in
set_option maxRecDepth 100000 in
/-- WellCourtModel.count -/
theorem m_count (l : Launch) (G : va_G) (cy : Nat → ClassId) (sK sV : Nat → Nat) (ad : Nat → Nat → Nat) (sz : Nat) (st : gS) (hB : gBd bM st) (x : Int32) (Xx : Int) (kx : x.toInt = Xx) : gsMi l yX10_count cX10_count 4 (some .int) ({ frames := 0, cells := 0, slots := 0, locals := 0 } : Room) G cy sK sV (shM cy ad) cnM ad sz [.ref (ad 0 0), .int x] st (fun (r : Int32) (u : gS) => gBN bM kM [0] st u ∧ (True)) := by
  refine gs_start (fun A => gsQi G (shM cy ad) cnM ad _ A) (by decide) (Nat.le_of_ble_eq_true rfl) ?_
  intro p e s m below meth c A ls H hx hb hr hml hlocks hown hts hK hov hE hI hM hm hS hA hl
  have hl : lv_has ls 4 [(0, .ref (ad 0 0)), (1, .int x)] := hl
  have hB_st : gBN bM kM [0] st st := gBN.rf hB
  generalize hQe : MQ below _ _ s _ _ A = Q
  refine lv_aload_n hx hb dX10_count_0 rfl (lv_at hl 0 rfl) ?_
  refine lv_iconst (v := 0) hx hb dX10_count_1 (by decide) ?_
  refine gs_put (C := RX10) (T := TX10) (N := 59) (ty := .int) (val := .int 0) hx hb hts inX10 tyX10 tyX10_ok nmX10 hown hK hI hm hM hS 0 0 0 (by decide) rfl rfl (by decide) (hts _ gm_897) (fun _ h9 => h9) rfl (0 : Int32) rfl (by decide +kernel) rfl rfl (Nat.le_of_ble_eq_true rfl) dX10_count_2 (fun st_1 H locs est_1 hM hS => ?_)
  have hB_st_1 : gBN bM kM [0] st st_1 := by rw [est_1]; exact hB_st.up (show (0 : Nat) ∈ _ from by decide) (gi_lo _) (gi_hi _)
  refine lv_iconst (v := 0) hx hb dX10_count_5 (by decide) ?_
  refine lv_istore_n (lv' := [(2, .int 0), (0, .ref (ad 0 0)), (1, .int x)]) hx hb dX10_count_6 rfl hl (by decide) rfl (fun ls hl => ?_)
  refine lv_iload_n hx hb dX10_count_7 rfl (lv_at hl 2 rfl) ?_
  rcases (show x.toInt < 0 ∨ 6 < x.toInt ∨ x.toInt = 0 ∨ x.toInt = 1 ∨ x.toInt = 2 ∨ x.toInt = 3 ∨ x.toInt = 4 ∨ x.toInt = 5 ∨ x.toInt = 6 by omega) with h_2 | h_2 | h_2 | h_2 | h_2 | h_2 | h_2 | h_2 | h_2
  · refine lv_tableOut (tgt := 142) hx hb dX10_count_8 (Or.inl h_2) (by decide) ?_
    refine lv_iconst (v := (-1)) hx hb dX10_count_142 (by decide) ?_
    rw [← hQe]
    exact gs_iret hx hb hr hlocks hM hS rfl ⟨hB_st_1, trivial⟩ (by exact Nat.le_refl _) (by exact Nat.le_refl _) dX10_count_143
  · refine lv_tableOut (tgt := 142) hx hb dX10_count_8 (Or.inr h_2) (by decide) ?_
    refine lv_iconst (v := (-1)) hx hb dX10_count_142 (by decide) ?_
    rw [← hQe]
    exact gs_iret hx hb hr hlocks hM hS rfl ⟨hB_st_1, trivial⟩ (by exact Nat.le_refl _) (by exact Nat.le_refl _) dX10_count_143
  · refine lv_tableIn (tgt := 52) hx hb dX10_count_8 (by omega) (by omega) (by rw [h_2]; rfl) (by decide) ?_
    refine lv_aload_n hx hb dX10_count_52 rfl (lv_at hl 1 rfl) ?_
    refine gs_get (C := RX10) (T := TX10) (N := 59) hx hb hts inX10 hown hK hM 0 0 7 (by decide) rfl rfl (by decide) (hts _ gm_904) (fun _ h9 => h9) rfl dX10_count_53 ?_
    refine lv_topi (fun x_3 ex_3 => ?_)
    have ex_3 : (st 0 0 7) = x_3 := Eq.symm (ex_3.trans ((congrFun (congrFun (congrFun est_1 0) 0) 7).trans (gU_other (by decide))))
    subst ex_3
    have bf_4 : (0 : Int) ≤ (st 0 0 7).toInt ∧ (st 0 0 7).toInt ≤ (199 : Int) := hB_st.1 0 0 7
    rw [← hQe]
    exact gs_iret hx hb hr hlocks hM hS rfl ⟨hB_st_1, trivial⟩ (by exact Nat.le_refl _) (by exact Nat.le_refl _) dX10_count_56
  · refine lv_tableIn (tgt := 57) hx hb dX10_count_8 (by omega) (by omega) (by rw [h_2]; rfl) (by decide) ?_
    refine lv_iconst (v := 0) hx hb dX10_count_57 (by decide) ?_
    refine lv_istore_n (lv' := [(3, .int 0), (2, .int 0), (0, .ref (ad 0 0)), (1, .int x)]) hx hb dX10_count_58 rfl hl (by decide) rfl (fun ls hl => ?_)
    have lp5 : ∀ (n5 : Nat) (sv5 : gS) (y5_0 : Int32) (y5_1 : Int32) (H : Heap) (locs : List Loc) (ls : Array Slot), (6 - y5_1.toInt).toNat < n5 → gBN bM kM [0] st sv5 → (0 ≤ y5_1.toInt) → gM G (shM cy ad) cnM ad sv5 H → va_S A s.heap H locs → lv_has ls 4 [(3, .int y5_1), (2, .int y5_0), (0, .ref (ad 0 0)), (1, .int x)] → W p l e ({ frames := 0, cells := 0, slots := 0, locals := 0 } : Room) s m [.ref (ad 0 0), .int x].toArray below meth c H locs 0 0 Q (F0 m 59 ls []) := by
      intro n5
      induction n5 with
      | zero => intro sv5 y5_0 y5_1 H locs ls h9; exact absurd h9 (Nat.not_lt_zero _)
      | succ n5 ih_5 =>
        intro sv5 y5_0 y5_1 H locs ls hme5 hB_sv5 hv5_0 hM hS hl
        refine lv_iload_n hx hb dX10_count_59 rfl (lv_at hl 0 rfl) ?_
        refine lv_bipush (v := 6) hx hb dX10_count_60 (by decide) ?_
        refine lv_icmp_ge (tgt := 88) hx hb dX10_count_62 (by decide) (fun c_6 => ?_) (fun c_6 => ?_)
        · have ic_6 := gz_le (by decide : (6 : Int32).toInt = 6) (rfl : y5_1.toInt = y5_1.toInt) c_6
          refine lv_iload_n hx hb dX10_count_88 rfl (lv_at hl 1 rfl) ?_
          rw [← hQe]
          exact gs_iret hx hb hr hlocks hM hS rfl ⟨hB_sv5, trivial⟩ (by exact Nat.le_refl _) (by exact Nat.le_refl _) dX10_count_89
        · have ic_6 := gz_nle (by decide : (6 : Int32).toInt = 6) (rfl : y5_1.toInt = y5_1.toInt) c_6
          refine lv_iload_n hx hb dX10_count_65 rfl (lv_at hl 1 rfl) ?_
          refine lv_aload_n hx hb dX10_count_66 rfl (lv_at hl 2 rfl) ?_
          refine gs_get (C := RX10) (T := TX10) (N := 59) hx hb hts inX10 hown hK hM 0 0 1 (by decide) rfl rfl (by decide) (hts _ gm_898) (fun _ h9 => h9) rfl dX10_count_67 ?_
          refine lv_iload_n hx hb dX10_count_70 rfl (lv_at hl 0 rfl) ?_
          refine gs_zald hx hb hK hM 1 0 (by decide) rfl (vp_in_iff.mpr ⟨by omega, by omega⟩) dX10_count_71 ?_
          refine lv_topi (fun x_7 ex_7 => ?_)
          have qx_7 : x_7.toInt = (sv5 1 0 (y5_1.toNatClampNeg)).toInt := congrArg Int32.toInt ex_7
          have rx_7 : x_7.toInt = ((st 1 0 (y5_1.toNatClampNeg)) : Int32).toInt := by rw [ex_7]; exact congrArg Int32.toInt ((hB_sv5.2 1 0 (y5_1.toNatClampNeg) (show (100 : Nat) ∉ _ from by decide)))
          refine lv_if_eq (tgt := 79) hx hb dX10_count_72 (by decide) (fun c_8 => ?_) (fun c_8 => ?_)
          · have ic_8 := gz_eq (rfl : x_7.toInt = x_7.toInt) (by decide : (0 : Int32).toInt = 0) c_8
            refine lv_iconst (v := 0) hx hb dX10_count_79 (by decide) ?_
            refine lv_iadd hx hb dX10_count_80 ?_
            refine lv_topi (fun x_9 ex_9 => ?_)
            refine lv_istore_n (lv' := [(2, .int x_9), (3, .int y5_1), (0, .ref (ad 0 0)), (1, .int x)]) hx hb dX10_count_81 rfl hl (by decide) rfl (fun ls hl => ?_)
            obtain ⟨x_10, ex_10⟩ : ∃ y : Int32, y = y5_1 + 1 := ⟨_, rfl⟩
            try have tx_10 : x_10.toInt = y5_1.toInt + 1 := by rw [ex_10]; exact gz_addP (x := y5_1.toInt) (y := 1) rfl (by decide) (by omega) (by omega)
            refine lv_iinc (v := (x_10)) (lv' := [(3, .int x_10), (2, .int x_9), (0, .ref (ad 0 0)), (1, .int x)]) hx hb dX10_count_82 hl (k := 1) rfl (by rw [ex_10]; rfl) (by decide) rfl (fun ls hl => ?_)
            refine lv_goto (tgt := 59) hx hb dX10_count_85 (by decide) ?_
            exact ih_5 sv5 (x_9 : Int32) (x_10 : Int32) H _ ls (by omega) hB_sv5 (by omega) hM hS (lv_sub hl [0, 1, 2, 3] rfl)
          · have ic_8 := gz_ne (rfl : x_7.toInt = x_7.toInt) (by decide : (0 : Int32).toInt = 0) c_8
            refine lv_iconst (v := 1) hx hb dX10_count_75 (by decide) ?_
            refine lv_goto (tgt := 80) hx hb dX10_count_76 (by decide) ?_
            refine lv_iadd hx hb dX10_count_80 ?_
            refine lv_topi (fun x_11 ex_11 => ?_)
            refine lv_istore_n (lv' := [(2, .int x_11), (3, .int y5_1), (0, .ref (ad 0 0)), (1, .int x)]) hx hb dX10_count_81 rfl hl (by decide) rfl (fun ls hl => ?_)
            obtain ⟨x_12, ex_12⟩ : ∃ y : Int32, y = y5_1 + 1 := ⟨_, rfl⟩
            try have tx_12 : x_12.toInt = y5_1.toInt + 1 := by rw [ex_12]; exact gz_addP (x := y5_1.toInt) (y := 1) rfl (by decide) (by omega) (by omega)
            refine lv_iinc (v := (x_12)) (lv' := [(3, .int x_12), (2, .int x_11), (0, .ref (ad 0 0)), (1, .int x)]) hx hb dX10_count_82 hl (k := 1) rfl (by rw [ex_12]; rfl) (by decide) rfl (fun ls hl => ?_)
            refine lv_goto (tgt := 59) hx hb dX10_count_85 (by decide) ?_
            exact ih_5 sv5 (x_11 : Int32) (x_12 : Int32) H _ ls (by omega) hB_sv5 (by omega) hM hS (lv_sub hl [0, 1, 2, 3] rfl)
    exact lp5 ((6 - ((0 : Int32) : Int32).toInt).toNat + 1) st_1 ((0 : Int32) : Int32) ((0 : Int32) : Int32) H _ ls (Nat.lt_succ_self _) hB_st_1 (by have hl0 : (0 : Int32).toInt = 0 := (by decide); have hl1 : (0 : Int32).toInt = 0 := (by decide); omega) hM hS (lv_sub hl [0, 1, 2, 3] rfl)
  · refine lv_tableIn (tgt := 90) hx hb dX10_count_8 (by omega) (by omega) (by rw [h_2]; rfl) (by decide) ?_
    refine lv_aload_n hx hb dX10_count_90 rfl (lv_at hl 1 rfl) ?_
    refine gs_get (C := RX10) (T := TX10) (N := 59) hx hb hts inX10 hown hK hM 0 0 29 (by decide) rfl rfl (by decide) (hts _ gm_926) (fun _ h9 => h9) rfl dX10_count_91 ?_
    refine lv_topi (fun x_13 ex_13 => ?_)
    have ex_13 : (st 0 0 29) = x_13 := Eq.symm (ex_13.trans ((congrFun (congrFun (congrFun est_1 0) 0) 29).trans (gU_other (by decide))))
    subst ex_13
    have bf_14 : (0 : Int) ≤ (st 0 0 29).toInt ∧ (st 0 0 29).toInt ≤ (20 : Int) := hB_st.1 0 0 29
    rw [← hQe]
    exact gs_iret hx hb hr hlocks hM hS rfl ⟨hB_st_1, trivial⟩ (by exact Nat.le_refl _) (by exact Nat.le_refl _) dX10_count_94
  · refine lv_tableIn (tgt := 95) hx hb dX10_count_8 (by omega) (by omega) (by rw [h_2]; rfl) (by decide) ?_
    refine lv_iconst (v := 0) hx hb dX10_count_95 (by decide) ?_
    refine lv_istore_n (lv' := [(3, .int 0), (2, .int 0), (0, .ref (ad 0 0)), (1, .int x)]) hx hb dX10_count_96 rfl hl (by decide) rfl (fun ls hl => ?_)
    have lp15 : ∀ (n15 : Nat) (sv15 : gS) (y15_0 : Int32) (y15_1 : Int32) (H : Heap) (locs : List Loc) (ls : Array Slot), (4 - y15_1.toInt).toNat < n15 → gBN bM kM [0] st sv15 → (0 ≤ y15_1.toInt) → gM G (shM cy ad) cnM ad sv15 H → va_S A s.heap H locs → lv_has ls 4 [(3, .int y15_1), (2, .int y15_0), (0, .ref (ad 0 0)), (1, .int x)] → W p l e ({ frames := 0, cells := 0, slots := 0, locals := 0 } : Room) s m [.ref (ad 0 0), .int x].toArray below meth c H locs 0 0 Q (F0 m 97 ls []) := by
      intro n15
      induction n15 with
      | zero => intro sv15 y15_0 y15_1 H locs ls h9; exact absurd h9 (Nat.not_lt_zero _)
      | succ n15 ih_15 =>
        intro sv15 y15_0 y15_1 H locs ls hme15 hB_sv15 hv15_0 hM hS hl
        refine lv_iload_n hx hb dX10_count_97 rfl (lv_at hl 0 rfl) ?_
        refine lv_iconst (v := 4) hx hb dX10_count_98 (by decide) ?_
        refine lv_icmp_ge (tgt := 125) hx hb dX10_count_99 (by decide) (fun c_16 => ?_) (fun c_16 => ?_)
        · have ic_16 := gz_le (by decide : (4 : Int32).toInt = 4) (rfl : y15_1.toInt = y15_1.toInt) c_16
          refine lv_iload_n hx hb dX10_count_125 rfl (lv_at hl 1 rfl) ?_
          rw [← hQe]
          exact gs_iret hx hb hr hlocks hM hS rfl ⟨hB_sv15, trivial⟩ (by exact Nat.le_refl _) (by exact Nat.le_refl _) dX10_count_126
        · have ic_16 := gz_nle (by decide : (4 : Int32).toInt = 4) (rfl : y15_1.toInt = y15_1.toInt) c_16
          refine lv_iload_n hx hb dX10_count_102 rfl (lv_at hl 1 rfl) ?_
          refine lv_aload_n hx hb dX10_count_103 rfl (lv_at hl 2 rfl) ?_
          refine gs_get (C := RX10) (T := TX10) (N := 59) hx hb hts inX10 hown hK hM 0 0 38 (by decide) rfl rfl (by decide) (hts _ gm_935) (fun _ h9 => h9) rfl dX10_count_104 ?_
          refine lv_iload_n hx hb dX10_count_107 rfl (lv_at hl 0 rfl) ?_
          refine gs_zald hx hb hK hM 22 0 (by decide) rfl (vp_in_iff.mpr ⟨by omega, by omega⟩) dX10_count_108 ?_
          refine lv_topi (fun x_17 ex_17 => ?_)
          have qx_17 : x_17.toInt = (sv15 22 0 (y15_1.toNatClampNeg)).toInt := congrArg Int32.toInt ex_17
          have rx_17 : x_17.toInt = ((st 22 0 (y15_1.toNatClampNeg)) : Int32).toInt := by rw [ex_17]; exact congrArg Int32.toInt ((hB_sv15.2 22 0 (y15_1.toNatClampNeg) (show (2200 : Nat) ∉ _ from by decide)))
          refine lv_if_eq (tgt := 116) hx hb dX10_count_109 (by decide) (fun c_18 => ?_) (fun c_18 => ?_)
          · have ic_18 := gz_eq (rfl : x_17.toInt = x_17.toInt) (by decide : (0 : Int32).toInt = 0) c_18
            refine lv_iconst (v := 0) hx hb dX10_count_116 (by decide) ?_
            refine lv_iadd hx hb dX10_count_117 ?_
            refine lv_topi (fun x_19 ex_19 => ?_)
            refine lv_istore_n (lv' := [(2, .int x_19), (3, .int y15_1), (0, .ref (ad 0 0)), (1, .int x)]) hx hb dX10_count_118 rfl hl (by decide) rfl (fun ls hl => ?_)
            obtain ⟨x_20, ex_20⟩ : ∃ y : Int32, y = y15_1 + 1 := ⟨_, rfl⟩
            try have tx_20 : x_20.toInt = y15_1.toInt + 1 := by rw [ex_20]; exact gz_addP (x := y15_1.toInt) (y := 1) rfl (by decide) (by omega) (by omega)
            refine lv_iinc (v := (x_20)) (lv' := [(3, .int x_20), (2, .int x_19), (0, .ref (ad 0 0)), (1, .int x)]) hx hb dX10_count_119 hl (k := 1) rfl (by rw [ex_20]; rfl) (by decide) rfl (fun ls hl => ?_)
            refine lv_goto (tgt := 97) hx hb dX10_count_122 (by decide) ?_
            exact ih_15 sv15 (x_19 : Int32) (x_20 : Int32) H _ ls (by omega) hB_sv15 (by omega) hM hS (lv_sub hl [0, 1, 2, 3] rfl)
          · have ic_18 := gz_ne (rfl : x_17.toInt = x_17.toInt) (by decide : (0 : Int32).toInt = 0) c_18
            refine lv_iconst (v := 1) hx hb dX10_count_112 (by decide) ?_
            refine lv_goto (tgt := 117) hx hb dX10_count_113 (by decide) ?_
            refine lv_iadd hx hb dX10_count_117 ?_
            refine lv_topi (fun x_21 ex_21 => ?_)
            refine lv_istore_n (lv' := [(2, .int x_21), (3, .int y15_1), (0, .ref (ad 0 0)), (1, .int x)]) hx hb dX10_count_118 rfl hl (by decide) rfl (fun ls hl => ?_)
            obtain ⟨x_22, ex_22⟩ : ∃ y : Int32, y = y15_1 + 1 := ⟨_, rfl⟩
            try have tx_22 : x_22.toInt = y15_1.toInt + 1 := by rw [ex_22]; exact gz_addP (x := y15_1.toInt) (y := 1) rfl (by decide) (by omega) (by omega)
            refine lv_iinc (v := (x_22)) (lv' := [(3, .int x_22), (2, .int x_21), (0, .ref (ad 0 0)), (1, .int x)]) hx hb dX10_count_119 hl (k := 1) rfl (by rw [ex_22]; rfl) (by decide) rfl (fun ls hl => ?_)
            refine lv_goto (tgt := 97) hx hb dX10_count_122 (by decide) ?_
            exact ih_15 sv15 (x_21 : Int32) (x_22 : Int32) H _ ls (by omega) hB_sv15 (by omega) hM hS (lv_sub hl [0, 1, 2, 3] rfl)
    exact lp15 ((4 - ((0 : Int32) : Int32).toInt).toNat + 1) st_1 ((0 : Int32) : Int32) ((0 : Int32) : Int32) H _ ls (Nat.lt_succ_self _) hB_st_1 (by have hl0 : (0 : Int32).toInt = 0 := (by decide); have hl1 : (0 : Int32).toInt = 0 := (by decide); omega) hM hS (lv_sub hl [0, 1, 2, 3] rfl)
  · refine lv_tableIn (tgt := 127) hx hb dX10_count_8 (by omega) (by omega) (by rw [h_2]; rfl) (by decide) ?_
    refine lv_aload_n hx hb dX10_count_127 rfl (lv_at hl 1 rfl) ?_
    refine gs_get (C := RX10) (T := TX10) (N := 59) hx hb hts inX10 hown hK hM 0 0 37 (by decide) rfl rfl (by decide) (hts _ gm_934) (fun _ h9 => h9) rfl dX10_count_128 ?_
    refine lv_topi (fun x_23 ex_23 => ?_)
    have ex_23 : (st 0 0 37) = x_23 := Eq.symm (ex_23.trans ((congrFun (congrFun (congrFun est_1 0) 0) 37).trans (gU_other (by decide))))
    subst ex_23
    have bf_24 : (0 : Int) ≤ (st 0 0 37).toInt ∧ (st 0 0 37).toInt ≤ (300 : Int) := hB_st.1 0 0 37
    rw [← hQe]
    exact gs_iret hx hb hr hlocks hM hS rfl ⟨hB_st_1, trivial⟩ (by exact Nat.le_refl _) (by exact Nat.le_refl _) dX10_count_131
  · refine lv_tableIn (tgt := 132) hx hb dX10_count_8 (by omega) (by omega) (by rw [h_2]; rfl) (by decide) ?_
    refine lv_aload_n hx hb dX10_count_132 rfl (lv_at hl 1 rfl) ?_
    refine gs_get (C := RX10) (T := TX10) (N := 59) hx hb hts inX10 hown hK hM 0 0 9 (by decide) rfl rfl (by decide) (hts _ gm_906) (fun _ h9 => h9) rfl dX10_count_133 ?_
    refine lv_topi (fun x_25 ex_25 => ?_)
    have ex_25 : (st 0 0 9) = x_25 := Eq.symm (ex_25.trans ((congrFun (congrFun (congrFun est_1 0) 0) 9).trans (gU_other (by decide))))
    subst ex_25
    have bf_26 : (0 : Int) ≤ (st 0 0 9).toInt ∧ (st 0 0 9).toInt ≤ (800 : Int) := hB_st.1 0 0 9
    rw [← hQe]
    exact gs_iret hx hb hr hlocks hM hS rfl ⟨hB_st_1, trivial⟩ (by exact Nat.le_refl _) (by exact Nat.le_refl _) dX10_count_136
  · refine lv_tableIn (tgt := 137) hx hb dX10_count_8 (by omega) (by omega) (by rw [h_2]; rfl) (by decide) ?_
    refine lv_aload_n hx hb dX10_count_137 rfl (lv_at hl 1 rfl) ?_
    refine gs_get (C := RX10) (T := TX10) (N := 59) hx hb hts inX10 hown hK hM 0 0 57 (by decide) rfl rfl (by decide) (hts _ gm_954) (fun _ h9 => h9) rfl dX10_count_138 ?_
    refine lv_topi (fun x_27 ex_27 => ?_)
    have ex_27 : (st 0 0 57) = x_27 := Eq.symm (ex_27.trans ((congrFun (congrFun (congrFun est_1 0) 0) 57).trans (gU_other (by decide))))
    subst ex_27
    rw [← hQe]
    exact gs_iret hx hb hr hlocks hM hS rfl ⟨hB_st_1, trivial⟩ (by exact Nat.le_refl _) (by exact Nat.le_refl _) dX10_count_141

set_option maxHeartbeats 4000000 in
set_option maxRecDepth 100000 in
/-- WellCourtModel.dawn -/
theorem m_dawn (l : Launch) (G : va_G) (cy : Nat → ClassId) (sK sV : Nat → Nat) (ad : Nat → Nat → Nat) (sz : Nat) (st : gS) (hB : gBd bM st) (x : Int32) (y : Int32) (Xx : Int) (Xy : Int) (kx : x.toInt = Xx) (ky : y.toInt = Xy) (hx0 : 0 ≤ Xx) (hx1 : Xx ≤ 55) (hy0 : 0 ≤ Xy) (hy1 : Xy ≤ 199) (rs : List Rl) (bk : Nat) (hbk : (st 0 0 28).toInt = (bk : Int)) (hru : (st 0 0 29).toInt = (rs.length : Int)) (hLM : LM rs st bk) : gsMv l yX10_dawn cX10_dawn 6 ({ frames := 1, cells := 0, slots := 0, locals := 23 } : Room) G cy sK sV (shM cy ad) cnM ad sz [.ref (ad 0 0), .int x, .int y] st (fun (u : gS) => gBN bM kM [2900, 3500, 3600] st u ∧ ((dwM rs st u x.toNatClampNeg y.toNatClampNeg 6))) := by
  refine gs_start (fun A => gsQv G (shM cy ad) cnM ad _ A) (by decide) (Nat.le_of_ble_eq_true rfl) ?_
  intro p e s m below meth c A ls H hx hb hr hml hlocks hown hts hK hov hE hI hM hm hS hA hl
  have hl : lv_has ls 6 [(0, .ref (ad 0 0)), (1, .int x), (2, .int y)] := hl
  have hB_st : gBN bM kM [2900, 3500, 3600] st st := gBN.rf hB
  generalize hQe : MQ below _ _ s _ _ A = Q
  refine lv_iconst (v := 0) hx hb dX10_dawn_0 (by decide) ?_
  refine lv_istore_n (lv' := [(3, .int 0), (0, .ref (ad 0 0)), (1, .int x), (2, .int y)]) hx hb dX10_dawn_1 rfl hl (by decide) rfl (fun ls hl => ?_)
  have lp1 : ∀ (n1 : Nat) (sv1 : gS) (y1_0 : Int32) (H : Heap) (locs : List Loc) (ls : Array Slot), (6 - y1_0.toInt).toNat < n1 → gBN bM kM [2900, 3500, 3600] st sv1 → (0 ≤ y1_0.toInt) → (dwM rs st sv1 x.toNatClampNeg y.toNatClampNeg y1_0.toInt) → (y1_0.toInt ≤ 6) → gM G (shM cy ad) cnM ad sv1 H → va_S A s.heap H locs → lv_has ls 6 [(3, .int y1_0), (0, .ref (ad 0 0)), (1, .int x), (2, .int y)] → W p l e ({ frames := 1, cells := 0, slots := 0, locals := 23 } : Room) s m [.ref (ad 0 0), .int x, .int y].toArray below meth c H locs 0 0 Q (F0 m 2 ls []) := by
    intro n1
    induction n1 with
    | zero => intro sv1 y1_0 H locs ls h9; exact absurd h9 (Nat.not_lt_zero _)
    | succ n1 ih_1 =>
      intro sv1 y1_0 H locs ls hme1 hB_sv1 hv1_0 hv1_1 hv1_2 hM hS hl
      refine lv_iload_n hx hb dX10_dawn_2 rfl (lv_at hl 0 rfl) ?_
      refine lv_bipush (v := 6) hx hb dX10_dawn_3 (by decide) ?_
      refine lv_icmp_ge (tgt := 155) hx hb dX10_dawn_5 (by decide) (fun c_2 => ?_) (fun c_2 => ?_)
      · have ic_2 := gz_le (by decide : (6 : Int32).toInt = 6) (rfl : y1_0.toInt = y1_0.toInt) c_2
        rw [← hQe]
        exact gs_vret hx hb hr hlocks hM hS ⟨hB_sv1, (by rw [show (6 : Int) = y1_0.toInt by omega]; exact hv1_1)⟩ (by exact Nat.le_refl _) (by exact Nat.le_refl _) dX10_dawn_155
      · have ic_2 := gz_nle (by decide : (6 : Int32).toInt = 6) (rfl : y1_0.toInt = y1_0.toInt) c_2
        refine lv_aload_n hx hb dX10_dawn_8 rfl (lv_at hl 1 rfl) ?_
        refine gs_get (C := RX10) (T := TX10) (N := 59) hx hb hts inX10 hown hK hM 0 0 45 (by decide) rfl rfl (by decide) (hts _ gm_942) (fun _ h9 => h9) rfl dX10_dawn_9 ?_
        refine lv_bipush (v := 6) hx hb dX10_dawn_12 (by decide) ?_
        refine lv_iload_n hx hb dX10_dawn_14 rfl (lv_at hl 2 rfl) ?_
        refine lv_imul hx hb dX10_dawn_15 ?_
        refine lv_topi (fun x_3 ex_3 => ?_)
        try have tx_3 : x_3.toInt = 6 * x.toInt := by rw [ex_3]; exact gz_mulI (x := 6) (y := x.toInt) (by decide) rfl (by omega) (by omega)
        refine lv_iload_n hx hb dX10_dawn_16 rfl (lv_at hl 0 rfl) ?_
        refine lv_iadd hx hb dX10_dawn_17 ?_
        refine lv_topi (fun x_4 ex_4 => ?_)
        try have tx_4 : x_4.toInt = x_3.toInt + y1_0.toInt := by rw [ex_4]; exact gz_addI (x := x_3.toInt) (y := y1_0.toInt) rfl rfl (by omega) (by omega)
        refine gs_iald hx hb hK hM 29 0 (by decide) rfl (vp_in_iff.mpr ⟨by omega, by omega⟩) dX10_dawn_18 ?_
        refine lv_topi (fun x_5 ex_5 => ?_)
        have qx_5 : x_5.toInt = (sv1 29 0 (x_4.toNatClampNeg)).toInt := congrArg Int32.toInt ex_5
        have hl9 : x_5 = st 29 0 (6 * x.toNatClampNeg + y1_0.toNatClampNeg) := (by have c_x_4 := gs_cl (x := x_4) (by omega); have c_x := gs_cl (x := x) (by omega); have c_y1_0 := gs_cl (x := y1_0) (by omega); have h9 : x_5 = sv1 29 0 x_4.toNatClampNeg := ex_5; rw [show x_4.toNatClampNeg = 6 * x.toNatClampNeg + y1_0.toNatClampNeg by omega] at h9; exact h9.trans (dwM.lv hv1_1 (by omega)))
        refine lv_istore (lv' := [(4, .int x_5), (3, .int y1_0), (0, .ref (ad 0 0)), (1, .int x), (2, .int y)]) hx hb dX10_dawn_19 hl (by decide) rfl (fun ls hl => ?_)
        refine lv_aload_n hx hb dX10_dawn_21 rfl (lv_at hl 2 rfl) ?_
        refine gs_get (C := RX10) (T := TX10) (N := 59) hx hb hts inX10 hown hK hM 0 0 1 (by decide) rfl rfl (by decide) (hts _ gm_898) (fun _ h9 => h9) rfl dX10_dawn_22 ?_
        refine lv_iload_n hx hb dX10_dawn_25 rfl (lv_at hl 1 rfl) ?_
        refine gs_zald hx hb hK hM 1 0 (by decide) rfl (vp_in_iff.mpr ⟨by omega, by omega⟩) dX10_dawn_26 ?_
        refine lv_topi (fun x_6 ex_6 => ?_)
        have qx_6 : x_6.toInt = (sv1 1 0 (y1_0.toNatClampNeg)).toInt := congrArg Int32.toInt ex_6
        have rx_6 : x_6.toInt = ((st 1 0 (y1_0.toNatClampNeg)) : Int32).toInt := by rw [ex_6]; exact congrArg Int32.toInt ((hB_sv1.2 1 0 (y1_0.toNatClampNeg) (show (100 : Nat) ∉ _ from by decide)))
        refine lv_if_eq (tgt := 68) hx hb dX10_dawn_27 (by decide) (fun c_7 => ?_) (fun c_7 => ?_)
        · have ic_7 := gz_eq (rfl : x_6.toInt = x_6.toInt) (by decide : (0 : Int32).toInt = 0) c_7
          refine lv_aload_n hx hb dX10_dawn_68 rfl (lv_at hl 2 rfl) ?_
          refine gs_get (C := RX10) (T := TX10) (N := 59) hx hb hts inX10 hown hK hM 0 0 45 (by decide) rfl rfl (by decide) (hts _ gm_942) (fun _ h9 => h9) rfl dX10_dawn_69 ?_
          refine lv_bipush (v := 6) hx hb dX10_dawn_72 (by decide) ?_
          refine lv_iload_n hx hb dX10_dawn_74 rfl (lv_at hl 3 rfl) ?_
          refine lv_imul hx hb dX10_dawn_75 ?_
          refine lv_topi (fun x_8 ex_8 => ?_)
          try have tx_8 : x_8.toInt = 6 * x.toInt := by rw [ex_8]; exact gz_mulI (x := 6) (y := x.toInt) (by decide) rfl (by omega) (by omega)
          refine lv_iload_n hx hb dX10_dawn_76 rfl (lv_at hl 1 rfl) ?_
          refine lv_iadd hx hb dX10_dawn_77 ?_
          refine lv_topi (fun x_9 ex_9 => ?_)
          try have tx_9 : x_9.toInt = x_8.toInt + y1_0.toInt := by rw [ex_9]; exact gz_addI (x := x_8.toInt) (y := y1_0.toInt) rfl rfl (by omega) (by omega)
          refine lv_iload hx hb dX10_dawn_78 (lv_at hl 0 rfl) ?_
          refine gs_iast hx hb hK hI hm hM hS 29 0 (by decide) (fun _ => rfl) (vp_in_iff.mpr ⟨by omega, by omega⟩) dX10_dawn_80 (fun st_10 H locs est_10 hM hS => ?_)
          have hB_st_10 : gBN bM kM [2900, 3500, 3600] st st_10 := by rw [est_10]; exact hB_sv1.up (show (2900 : Nat) ∈ _ from by decide) (gi_lo _) (gi_hi _)
          refine lv_aload_n hx hb dX10_dawn_81 rfl (lv_at hl 2 rfl) ?_
          refine gs_get (C := RX10) (T := TX10) (N := 59) hx hb hts inX10 hown hK hM 0 0 51 (by decide) rfl rfl (by decide) (hts _ gm_948) (fun _ h9 => h9) rfl dX10_dawn_82 ?_
          refine lv_bipush (v := 6) hx hb dX10_dawn_85 (by decide) ?_
          refine lv_iload_n hx hb dX10_dawn_87 rfl (lv_at hl 3 rfl) ?_
          refine lv_imul hx hb dX10_dawn_88 ?_
          refine lv_topi (fun x_11 ex_11 => ?_)
          try have tx_11 : x_11.toInt = 6 * x.toInt := by rw [ex_11]; exact gz_mulI (x := 6) (y := x.toInt) (by decide) rfl (by omega) (by omega)
          refine lv_iload_n hx hb dX10_dawn_89 rfl (lv_at hl 1 rfl) ?_
          refine lv_iadd hx hb dX10_dawn_90 ?_
          refine lv_topi (fun x_12 ex_12 => ?_)
          try have tx_12 : x_12.toInt = x_11.toInt + y1_0.toInt := by rw [ex_12]; exact gz_addI (x := x_11.toInt) (y := y1_0.toInt) rfl rfl (by omega) (by omega)
          refine lv_iload hx hb dX10_dawn_91 (lv_at hl 0 rfl) ?_
          refine gs_iast hx hb hK hI hm hM hS 35 0 (by decide) (fun _ => rfl) (vp_in_iff.mpr ⟨by omega, by omega⟩) dX10_dawn_93 (fun st_13 H locs est_13 hM hS => ?_)
          have hB_st_13 : gBN bM kM [2900, 3500, 3600] st st_13 := by rw [est_13]; exact hB_st_10.up (show (3500 : Nat) ∈ _ from by decide) (gi_lo _) (gi_hi _)
          refine lv_aload_n hx hb dX10_dawn_94 rfl (lv_at hl 2 rfl) ?_
          refine gs_get (C := RX10) (T := TX10) (N := 59) hx hb hts inX10 hown hK hM 0 0 1 (by decide) rfl rfl (by decide) (hts _ gm_898) (fun _ h9 => h9) rfl dX10_dawn_95 ?_
          refine lv_iload_n hx hb dX10_dawn_98 rfl (lv_at hl 1 rfl) ?_
          refine gs_zald hx hb hK hM 1 0 (by decide) rfl (vp_in_iff.mpr ⟨by omega, by omega⟩) dX10_dawn_99 ?_
          refine lv_topi (fun x_14 ex_14 => ?_)
          have qx_14 : x_14.toInt = (st_13 1 0 (y1_0.toNatClampNeg)).toInt := congrArg Int32.toInt ex_14
          have rx_14 : x_14.toInt = ((st 1 0 (y1_0.toNatClampNeg)) : Int32).toInt := by rw [ex_14]; exact congrArg Int32.toInt ((((congrFun (congrFun (congrFun est_13 1) 0) (y1_0.toNatClampNeg)).trans (congrFun (congrFun (gU_k (by decide)) 0) (y1_0.toNatClampNeg))).trans (((congrFun (congrFun (congrFun est_10 1) 0) (y1_0.toNatClampNeg)).trans (congrFun (congrFun (gU_k (by decide)) 0) (y1_0.toNatClampNeg))).trans (hB_sv1.2 1 0 (y1_0.toNatClampNeg) (show (100 : Nat) ∉ _ from by decide)))))
          refine lv_if_eq (tgt := 113) hx hb dX10_dawn_100 (by decide) (fun c_15 => ?_) (fun c_15 => ?_)
          · have ic_15 := gz_eq (rfl : x_14.toInt = x_14.toInt) (by decide : (0 : Int32).toInt = 0) c_15
            refine lv_iconst (v := (-1)) hx hb dX10_dawn_113 (by decide) ?_
            refine lv_istore (lv' := [(5, .int (-1)), (4, .int x_5), (3, .int y1_0), (0, .ref (ad 0 0)), (1, .int x), (2, .int y)]) hx hb dX10_dawn_114 hl (by decide) rfl (fun ls hl => ?_)
            refine lv_aload_n hx hb dX10_dawn_116 rfl (lv_at hl 3 rfl) ?_
            refine gs_get (C := RX10) (T := TX10) (N := 59) hx hb hts inX10 hown hK hM 0 0 52 (by decide) rfl rfl (by decide) (hts _ gm_949) (fun _ h9 => h9) rfl dX10_dawn_117 ?_
            refine lv_bipush (v := 6) hx hb dX10_dawn_120 (by decide) ?_
            refine lv_iload_n hx hb dX10_dawn_122 rfl (lv_at hl 4 rfl) ?_
            refine lv_imul hx hb dX10_dawn_123 ?_
            refine lv_topi (fun x_16 ex_16 => ?_)
            try have tx_16 : x_16.toInt = 6 * x.toInt := by rw [ex_16]; exact gz_mulI (x := 6) (y := x.toInt) (by decide) rfl (by omega) (by omega)
            refine lv_iload_n hx hb dX10_dawn_124 rfl (lv_at hl 2 rfl) ?_
            refine lv_iadd hx hb dX10_dawn_125 ?_
            refine lv_topi (fun x_17 ex_17 => ?_)
            try have tx_17 : x_17.toInt = x_16.toInt + y1_0.toInt := by rw [ex_17]; exact gz_addI (x := x_16.toInt) (y := y1_0.toInt) rfl rfl (by omega) (by omega)
            refine lv_iload hx hb dX10_dawn_126 (lv_at hl 0 rfl) ?_
            refine lv_if_lt (tgt := 136) hx hb dX10_dawn_128 (by decide) (fun _ => ?_) (fun h9 => absurd (by decide) h9)
            refine lv_aload_n hx hb dX10_dawn_136 rfl (lv_at hl 3 rfl) ?_
            refine gs_get (C := RX10) (T := TX10) (N := 59) hx hb hts inX10 hown hK hM 0 0 6 (by decide) rfl rfl (by decide) (hts _ gm_903) (fun _ h9 => h9) rfl dX10_dawn_137 ?_
            refine lv_sipush (v := 200) hx hb dX10_dawn_140 (by decide) ?_
            refine lv_iload_n hx hb dX10_dawn_143 rfl (lv_at hl 2 rfl) ?_
            refine lv_imul hx hb dX10_dawn_144 ?_
            refine lv_topi (fun x_18 ex_18 => ?_)
            try have tx_18 : x_18.toInt = 200 * y1_0.toInt := by rw [ex_18]; exact gz_mulI (x := 200) (y := y1_0.toInt) (by decide) rfl (by omega) (by omega)
            refine lv_iload_n hx hb dX10_dawn_145 rfl (lv_at hl 5 rfl) ?_
            refine lv_iadd hx hb dX10_dawn_146 ?_
            refine lv_topi (fun x_19 ex_19 => ?_)
            try have tx_19 : x_19.toInt = x_18.toInt + y.toInt := by rw [ex_19]; exact gz_addI (x := x_18.toInt) (y := y.toInt) rfl rfl (by omega) (by omega)
            refine gs_iald hx hb hK hM 6 0 (by decide) rfl (vp_in_iff.mpr ⟨by omega, by omega⟩) dX10_dawn_147 ?_
            refine lv_topi (fun x_20 ex_20 => ?_)
            have qx_20 : x_20.toInt = (st_13 6 0 (x_19.toNatClampNeg)).toInt := congrArg Int32.toInt ex_20
            have rx_20 : x_20.toInt = ((st 6 0 (x_19.toNatClampNeg)) : Int32).toInt := by rw [ex_20]; exact congrArg Int32.toInt ((((congrFun (congrFun (congrFun est_13 6) 0) (x_19.toNatClampNeg)).trans (congrFun (congrFun (gU_k (by decide)) 0) (x_19.toNatClampNeg))).trans (((congrFun (congrFun (congrFun est_10 6) 0) (x_19.toNatClampNeg)).trans (congrFun (congrFun (gU_k (by decide)) 0) (x_19.toNatClampNeg))).trans (hB_sv1.2 6 0 (x_19.toNatClampNeg) (show (600 : Nat) ∉ _ from by decide)))))
            refine gs_iast hx hb hK hI hm hM hS 36 0 (by decide) (fun _ => rfl) (vp_in_iff.mpr ⟨by omega, by omega⟩) dX10_dawn_148 (fun st_21 H locs est_21 hM hS => ?_)
            have hB_st_21 : gBN bM kM [2900, 3500, 3600] st st_21 := by rw [est_21]; exact hB_st_13.up (show (3600 : Nat) ∈ _ from by decide) (gi_lo _) (gi_hi _)
            obtain ⟨x_22, ex_22⟩ : ∃ y : Int32, y = y1_0 + 1 := ⟨_, rfl⟩
            try have tx_22 : x_22.toInt = y1_0.toInt + 1 := by rw [ex_22]; exact gz_addP (x := y1_0.toInt) (y := 1) rfl (by decide) (by omega) (by omega)
            refine lv_iinc (v := (x_22)) (lv' := [(3, .int x_22), (5, .int (-1)), (4, .int x_5), (0, .ref (ad 0 0)), (1, .int x), (2, .int y)]) hx hb dX10_dawn_149 hl (k := 2) rfl (by rw [ex_22]; rfl) (by decide) rfl (fun ls hl => ?_)
            refine lv_goto (tgt := 2) hx hb dX10_dawn_152 (by decide) ?_
            exact ih_1 st_21 (x_22 : Int32) H _ ls (by omega) hB_st_21 (by omega) (dwM.step (v := x_5) (c := x_20) (i := x_9) hv1_1 (by omega) (by omega) (by omega) (by have c_x_9 := gs_cl (x := x_9) (by omega); have c_x := gs_cl (x := x) (by omega); have c_y1_0 := gs_cl (x := y1_0) (by omega); omega) (by have c_x_9 := gs_cl (x := x_9) (by omega); have c_x := gs_cl (x := x) (by omega); have c_y1_0 := gs_cl (x := y1_0) (by omega); rw [show st_21 29 0 = (upd (sv1 29 0) (x_9.toNatClampNeg) (x_5 : Int32)) from ((congrFun (congrFun est_21 29) 0).trans ((congrFun (gU_k (by decide)) 0).trans ((congrFun (congrFun est_13 29) 0).trans ((congrFun (gU_k (by decide)) 0).trans ((congrFun (congrFun est_10 29) 0).trans ((gU_at _ _ _ _ _).trans (congrArg (fun f9 => upd f9 (x_9.toNatClampNeg) (x_5 : Int32)) rfl))))))), show x_9.toNatClampNeg = 6 * x.toNatClampNeg + y1_0.toNatClampNeg by omega]) (by have c_x_12 := gs_cl (x := x_12) (by omega); have c_x := gs_cl (x := x) (by omega); have c_y1_0 := gs_cl (x := y1_0) (by omega); rw [show st_21 35 0 = (upd (sv1 35 0) (x_12.toNatClampNeg) (x_5 : Int32)) from ((congrFun (congrFun est_21 35) 0).trans ((congrFun (gU_k (by decide)) 0).trans ((congrFun (congrFun est_13 35) 0).trans ((gU_at _ _ _ _ _).trans (congrArg (fun f9 => upd f9 (x_12.toNatClampNeg) (x_5 : Int32)) ((congrFun (congrFun est_10 35) 0).trans ((congrFun (gU_k (by decide)) 0).trans rfl))))))), show x_12.toNatClampNeg = 6 * x.toNatClampNeg + y1_0.toNatClampNeg by omega]) (by have c_x_17 := gs_cl (x := x_17) (by omega); have c_x := gs_cl (x := x) (by omega); have c_y1_0 := gs_cl (x := y1_0) (by omega); rw [show st_21 36 0 = (upd (sv1 36 0) (x_17.toNatClampNeg) (x_20 : Int32)) from ((congrFun (congrFun est_21 36) 0).trans ((gU_at _ _ _ _ _).trans (congrArg (fun f9 => upd f9 (x_17.toNatClampNeg) (x_20 : Int32)) ((congrFun (congrFun est_13 36) 0).trans ((congrFun (gU_k (by decide)) 0).trans ((congrFun (congrFun est_10 36) 0).trans ((congrFun (gU_k (by decide)) 0).trans rfl))))))), show x_17.toNatClampNeg = 6 * x.toNatClampNeg + y1_0.toNatClampNeg by omega]) (by unfold dwL; rw [if_pos (by omega)]; exact hl9) (by have hv9 : x_5 = dwL st x.toNatClampNeg y1_0.toNatClampNeg := (by unfold dwL; rw [if_pos (by omega)]; exact hl9); have c_z := gs_cl (x := y1_0) (by omega); rw [← hv9, c_z]; rw [if_neg (fun h7 => by exact h7.1 (by omega))]; exact (by have c_x_19 := gs_cl (x := x_19) (by omega); have c_y := gs_cl (x := y) (by omega); have c_y1_0 := gs_cl (x := y1_0) (by omega); have h9 := congrArg Int32.toInt (ex_20.trans (((congrFun (congrFun (congrFun est_13 6) 0) (x_19.toNatClampNeg)).trans (congrFun (congrFun (gU_k (by decide)) 0) (x_19.toNatClampNeg))).trans (((congrFun (congrFun (congrFun est_10 6) 0) (x_19.toNatClampNeg)).trans (congrFun (congrFun (gU_k (by decide)) 0) (x_19.toNatClampNeg))).trans (hB_sv1.2 6 0 (x_19.toNatClampNeg) (show (600 : Nat) ∉ _ from by decide))))); rw [show x_19.toNatClampNeg = 200 * y1_0.toNatClampNeg + y.toNatClampNeg by omega] at h9; exact h9))) (by omega) hM hS (lv_sub hl [0, 3, 4, 5] rfl)
          · have ic_15 := gz_ne (rfl : x_14.toInt = x_14.toInt) (by decide : (0 : Int32).toInt = 0) c_15
            refine lv_aload_n hx hb dX10_dawn_103 rfl (lv_at hl 2 rfl) ?_
            refine lv_iload_n hx hb dX10_dawn_104 rfl (lv_at hl 1 rfl) ?_
            refine lv_iload hx hb dX10_dawn_105 (lv_at hl 0 rfl) ?_
            refine gs_calli (va_runV (As := [.int y1_0, .int x_5]) (rest := []) ⟨hx, hb, hml, hown, hts⟩ (m_byDrought l G cy sK sV ad H.size st_13 hB_st_13.1 y1_0 x_5 y1_0.toInt x_5.toInt rfl rfl rs bk ((congrArg Int32.toInt ((((congrFun (congrFun (congrFun est_13 0) 0) 28).trans (congrFun (congrFun (gU_k (by decide)) 0) 28)).trans (((congrFun (congrFun (congrFun est_10 0) 0) 28).trans (congrFun (congrFun (gU_k (by decide)) 0) 28)).trans (hB_sv1.2 0 0 28 (show (28 : Nat) ∉ _ from by decide)))))).trans hbk) ((congrArg Int32.toInt ((((congrFun (congrFun (congrFun est_13 0) 0) 29).trans (congrFun (congrFun (gU_k (by decide)) 0) 29)).trans (((congrFun (congrFun (congrFun est_10 0) 0) 29).trans (congrFun (congrFun (gU_k (by decide)) 0) 29)).trans (hB_sv1.2 0 0 29 (show (29 : Nat) ∉ _ from by decide)))))).trans hru) (LM.all hLM (mA.trans (mA.trans (mA.trans mA.rf (mA.frame hB_sv1.2 (by decide))) (mA.upk est_10 (by decide))) (mA.upk est_13 (by decide))))) ⟨(gz_cb (n := 2) hts gm_1181 gm_12 gm_1184 ⟨by decide +kernel, by decide +kernel, by decide +kernel⟩ ⟨Nat.le_of_ble_eq_true rfl, Nat.le_of_ble_eq_true rfl⟩), hts _ gm_1183, hts _ gs_49⟩ (gs_preV hK hov hE hI hM hm hS hA 0 0 (by decide) rfl rfl) rfl rfl hl.1 rfl (lv_room (Nat.le_of_ble_eq_true rfl)) dX10_dawn_107 ⟨Nat.le_of_ble_eq_true rfl, Nat.le_of_ble_eq_true rfl⟩) hm hS hA (fun r_23 st_23 H locs hw_23 hM hS => ?_)
            obtain ⟨n_23, hw_23⟩ := hw_23
            have n_23 := gBN.nil n_23
            subst n_23
            have hw_23_0 := hw_23
            refine lv_goto (tgt := 114) hx hb dX10_dawn_110 (by decide) ?_
            refine lv_istore (lv' := [(5, .int r_23), (4, .int x_5), (3, .int y1_0), (0, .ref (ad 0 0)), (1, .int x), (2, .int y)]) hx hb dX10_dawn_114 hl (by decide) rfl (fun ls hl => ?_)
            refine lv_aload_n hx hb dX10_dawn_116 rfl (lv_at hl 3 rfl) ?_
            refine gs_get (C := RX10) (T := TX10) (N := 59) hx hb hts inX10 hown hK hM 0 0 52 (by decide) rfl rfl (by decide) (hts _ gm_949) (fun _ h9 => h9) rfl dX10_dawn_117 ?_
            refine lv_bipush (v := 6) hx hb dX10_dawn_120 (by decide) ?_
            refine lv_iload_n hx hb dX10_dawn_122 rfl (lv_at hl 4 rfl) ?_
            refine lv_imul hx hb dX10_dawn_123 ?_
            refine lv_topi (fun x_24 ex_24 => ?_)
            try have tx_24 : x_24.toInt = 6 * x.toInt := by rw [ex_24]; exact gz_mulI (x := 6) (y := x.toInt) (by decide) rfl (by omega) (by omega)
            refine lv_iload_n hx hb dX10_dawn_124 rfl (lv_at hl 2 rfl) ?_
            refine lv_iadd hx hb dX10_dawn_125 ?_
            refine lv_topi (fun x_25 ex_25 => ?_)
            try have tx_25 : x_25.toInt = x_24.toInt + y1_0.toInt := by rw [ex_25]; exact gz_addI (x := x_24.toInt) (y := y1_0.toInt) rfl rfl (by omega) (by omega)
            refine lv_iload hx hb dX10_dawn_126 (lv_at hl 0 rfl) ?_
            refine lv_if_lt (tgt := 136) hx hb dX10_dawn_128 (by decide) (fun c_26 => ?_) (fun c_26 => ?_)
            · have ic_26 := gz_lt (rfl : r_23.toInt = r_23.toInt) (by decide : (0 : Int32).toInt = 0) c_26
              refine lv_aload_n hx hb dX10_dawn_136 rfl (lv_at hl 3 rfl) ?_
              refine gs_get (C := RX10) (T := TX10) (N := 59) hx hb hts inX10 hown hK hM 0 0 6 (by decide) rfl rfl (by decide) (hts _ gm_903) (fun _ h9 => h9) rfl dX10_dawn_137 ?_
              refine lv_sipush (v := 200) hx hb dX10_dawn_140 (by decide) ?_
              refine lv_iload_n hx hb dX10_dawn_143 rfl (lv_at hl 2 rfl) ?_
              refine lv_imul hx hb dX10_dawn_144 ?_
              refine lv_topi (fun x_27 ex_27 => ?_)
              try have tx_27 : x_27.toInt = 200 * y1_0.toInt := by rw [ex_27]; exact gz_mulI (x := 200) (y := y1_0.toInt) (by decide) rfl (by omega) (by omega)
              refine lv_iload_n hx hb dX10_dawn_145 rfl (lv_at hl 5 rfl) ?_
              refine lv_iadd hx hb dX10_dawn_146 ?_
              refine lv_topi (fun x_28 ex_28 => ?_)
              try have tx_28 : x_28.toInt = x_27.toInt + y.toInt := by rw [ex_28]; exact gz_addI (x := x_27.toInt) (y := y.toInt) rfl rfl (by omega) (by omega)
              refine gs_iald hx hb hK hM 6 0 (by decide) rfl (vp_in_iff.mpr ⟨by omega, by omega⟩) dX10_dawn_147 ?_
              refine lv_topi (fun x_29 ex_29 => ?_)
              have qx_29 : x_29.toInt = (st_13 6 0 (x_28.toNatClampNeg)).toInt := congrArg Int32.toInt ex_29
              have rx_29 : x_29.toInt = ((st 6 0 (x_28.toNatClampNeg)) : Int32).toInt := by rw [ex_29]; exact congrArg Int32.toInt ((((congrFun (congrFun (congrFun est_13 6) 0) (x_28.toNatClampNeg)).trans (congrFun (congrFun (gU_k (by decide)) 0) (x_28.toNatClampNeg))).trans (((congrFun (congrFun (congrFun est_10 6) 0) (x_28.toNatClampNeg)).trans (congrFun (congrFun (gU_k (by decide)) 0) (x_28.toNatClampNeg))).trans (hB_sv1.2 6 0 (x_28.toNatClampNeg) (show (600 : Nat) ∉ _ from by decide)))))
              refine gs_iast hx hb hK hI hm hM hS 36 0 (by decide) (fun _ => rfl) (vp_in_iff.mpr ⟨by omega, by omega⟩) dX10_dawn_148 (fun st_30 H locs est_30 hM hS => ?_)
              have hB_st_30 : gBN bM kM [2900, 3500, 3600] st st_30 := by rw [est_30]; exact hB_st_13.up (show (3600 : Nat) ∈ _ from by decide) (gi_lo _) (gi_hi _)
              obtain ⟨x_31, ex_31⟩ : ∃ y : Int32, y = y1_0 + 1 := ⟨_, rfl⟩
              try have tx_31 : x_31.toInt = y1_0.toInt + 1 := by rw [ex_31]; exact gz_addP (x := y1_0.toInt) (y := 1) rfl (by decide) (by omega) (by omega)
              refine lv_iinc (v := (x_31)) (lv' := [(3, .int x_31), (5, .int r_23), (4, .int x_5), (0, .ref (ad 0 0)), (1, .int x), (2, .int y)]) hx hb dX10_dawn_149 hl (k := 2) rfl (by rw [ex_31]; rfl) (by decide) rfl (fun ls hl => ?_)
              refine lv_goto (tgt := 2) hx hb dX10_dawn_152 (by decide) ?_
              exact ih_1 st_30 (x_31 : Int32) H _ ls (by omega) hB_st_30 (by omega) (dwM.step (v := x_5) (c := x_29) (i := x_9) hv1_1 (by omega) (by omega) (by omega) (by have c_x_9 := gs_cl (x := x_9) (by omega); have c_x := gs_cl (x := x) (by omega); have c_y1_0 := gs_cl (x := y1_0) (by omega); omega) (by have c_x_9 := gs_cl (x := x_9) (by omega); have c_x := gs_cl (x := x) (by omega); have c_y1_0 := gs_cl (x := y1_0) (by omega); rw [show st_30 29 0 = (upd (sv1 29 0) (x_9.toNatClampNeg) (x_5 : Int32)) from ((congrFun (congrFun est_30 29) 0).trans ((congrFun (gU_k (by decide)) 0).trans ((congrFun (congrFun est_13 29) 0).trans ((congrFun (gU_k (by decide)) 0).trans ((congrFun (congrFun est_10 29) 0).trans ((gU_at _ _ _ _ _).trans (congrArg (fun f9 => upd f9 (x_9.toNatClampNeg) (x_5 : Int32)) rfl))))))), show x_9.toNatClampNeg = 6 * x.toNatClampNeg + y1_0.toNatClampNeg by omega]) (by have c_x_12 := gs_cl (x := x_12) (by omega); have c_x := gs_cl (x := x) (by omega); have c_y1_0 := gs_cl (x := y1_0) (by omega); rw [show st_30 35 0 = (upd (sv1 35 0) (x_12.toNatClampNeg) (x_5 : Int32)) from ((congrFun (congrFun est_30 35) 0).trans ((congrFun (gU_k (by decide)) 0).trans ((congrFun (congrFun est_13 35) 0).trans ((gU_at _ _ _ _ _).trans (congrArg (fun f9 => upd f9 (x_12.toNatClampNeg) (x_5 : Int32)) ((congrFun (congrFun est_10 35) 0).trans ((congrFun (gU_k (by decide)) 0).trans rfl))))))), show x_12.toNatClampNeg = 6 * x.toNatClampNeg + y1_0.toNatClampNeg by omega]) (by have c_x_25 := gs_cl (x := x_25) (by omega); have c_x := gs_cl (x := x) (by omega); have c_y1_0 := gs_cl (x := y1_0) (by omega); rw [show st_30 36 0 = (upd (sv1 36 0) (x_25.toNatClampNeg) (x_29 : Int32)) from ((congrFun (congrFun est_30 36) 0).trans ((gU_at _ _ _ _ _).trans (congrArg (fun f9 => upd f9 (x_25.toNatClampNeg) (x_29 : Int32)) ((congrFun (congrFun est_13 36) 0).trans ((congrFun (gU_k (by decide)) 0).trans ((congrFun (congrFun est_10 36) 0).trans ((congrFun (gU_k (by decide)) 0).trans rfl))))))), show x_25.toNatClampNeg = 6 * x.toNatClampNeg + y1_0.toNatClampNeg by omega]) (by unfold dwL; rw [if_pos (by omega)]; exact hl9) (by have hv9 : x_5 = dwL st x.toNatClampNeg y1_0.toNatClampNeg := (by unfold dwL; rw [if_pos (by omega)]; exact hl9); have c_z := gs_cl (x := y1_0) (by omega); rw [← hv9, c_z]; have h8 := hw_23_0; rw [if_neg (fun h7 => by have h6 := h7.2; omega)]; exact (by have c_x_28 := gs_cl (x := x_28) (by omega); have c_y := gs_cl (x := y) (by omega); have c_y1_0 := gs_cl (x := y1_0) (by omega); have h9 := congrArg Int32.toInt (ex_29.trans (((congrFun (congrFun (congrFun est_13 6) 0) (x_28.toNatClampNeg)).trans (congrFun (congrFun (gU_k (by decide)) 0) (x_28.toNatClampNeg))).trans (((congrFun (congrFun (congrFun est_10 6) 0) (x_28.toNatClampNeg)).trans (congrFun (congrFun (gU_k (by decide)) 0) (x_28.toNatClampNeg))).trans (hB_sv1.2 6 0 (x_28.toNatClampNeg) (show (600 : Nat) ∉ _ from by decide))))); rw [show x_28.toNatClampNeg = 200 * y1_0.toNatClampNeg + y.toNatClampNeg by omega] at h9; exact h9))) (by omega) hM hS (lv_sub hl [0, 3, 4, 5] rfl)
            · have ic_26 := gz_nlt (rfl : r_23.toInt = r_23.toInt) (by decide : (0 : Int32).toInt = 0) c_26
              refine lv_iload hx hb dX10_dawn_131 (lv_at hl 0 rfl) ?_
              refine lv_goto (tgt := 148) hx hb dX10_dawn_133 (by decide) ?_
              refine gs_iast hx hb hK hI hm hM hS 36 0 (by decide) (fun _ => rfl) (vp_in_iff.mpr ⟨by omega, by omega⟩) dX10_dawn_148 (fun st_32 H locs est_32 hM hS => ?_)
              have hB_st_32 : gBN bM kM [2900, 3500, 3600] st st_32 := by rw [est_32]; exact hB_st_13.up (show (3600 : Nat) ∈ _ from by decide) (gi_lo _) (gi_hi _)
              obtain ⟨x_33, ex_33⟩ : ∃ y : Int32, y = y1_0 + 1 := ⟨_, rfl⟩
              try have tx_33 : x_33.toInt = y1_0.toInt + 1 := by rw [ex_33]; exact gz_addP (x := y1_0.toInt) (y := 1) rfl (by decide) (by omega) (by omega)
              refine lv_iinc (v := (x_33)) (lv' := [(3, .int x_33), (5, .int r_23), (4, .int x_5), (0, .ref (ad 0 0)), (1, .int x), (2, .int y)]) hx hb dX10_dawn_149 hl (k := 2) rfl (by rw [ex_33]; rfl) (by decide) rfl (fun ls hl => ?_)
              refine lv_goto (tgt := 2) hx hb dX10_dawn_152 (by decide) ?_
              exact ih_1 st_32 (x_33 : Int32) H _ ls (by omega) hB_st_32 (by omega) (dwM.step (v := x_5) (c := r_23) (i := x_9) hv1_1 (by omega) (by omega) (by omega) (by have c_x_9 := gs_cl (x := x_9) (by omega); have c_x := gs_cl (x := x) (by omega); have c_y1_0 := gs_cl (x := y1_0) (by omega); omega) (by have c_x_9 := gs_cl (x := x_9) (by omega); have c_x := gs_cl (x := x) (by omega); have c_y1_0 := gs_cl (x := y1_0) (by omega); rw [show st_32 29 0 = (upd (sv1 29 0) (x_9.toNatClampNeg) (x_5 : Int32)) from ((congrFun (congrFun est_32 29) 0).trans ((congrFun (gU_k (by decide)) 0).trans ((congrFun (congrFun est_13 29) 0).trans ((congrFun (gU_k (by decide)) 0).trans ((congrFun (congrFun est_10 29) 0).trans ((gU_at _ _ _ _ _).trans (congrArg (fun f9 => upd f9 (x_9.toNatClampNeg) (x_5 : Int32)) rfl))))))), show x_9.toNatClampNeg = 6 * x.toNatClampNeg + y1_0.toNatClampNeg by omega]) (by have c_x_12 := gs_cl (x := x_12) (by omega); have c_x := gs_cl (x := x) (by omega); have c_y1_0 := gs_cl (x := y1_0) (by omega); rw [show st_32 35 0 = (upd (sv1 35 0) (x_12.toNatClampNeg) (x_5 : Int32)) from ((congrFun (congrFun est_32 35) 0).trans ((congrFun (gU_k (by decide)) 0).trans ((congrFun (congrFun est_13 35) 0).trans ((gU_at _ _ _ _ _).trans (congrArg (fun f9 => upd f9 (x_12.toNatClampNeg) (x_5 : Int32)) ((congrFun (congrFun est_10 35) 0).trans ((congrFun (gU_k (by decide)) 0).trans rfl))))))), show x_12.toNatClampNeg = 6 * x.toNatClampNeg + y1_0.toNatClampNeg by omega]) (by have c_x_25 := gs_cl (x := x_25) (by omega); have c_x := gs_cl (x := x) (by omega); have c_y1_0 := gs_cl (x := y1_0) (by omega); rw [show st_32 36 0 = (upd (sv1 36 0) (x_25.toNatClampNeg) (r_23 : Int32)) from ((congrFun (congrFun est_32 36) 0).trans ((gU_at _ _ _ _ _).trans (congrArg (fun f9 => upd f9 (x_25.toNatClampNeg) (r_23 : Int32)) ((congrFun (congrFun est_13 36) 0).trans ((congrFun (gU_k (by decide)) 0).trans ((congrFun (congrFun est_10 36) 0).trans ((congrFun (gU_k (by decide)) 0).trans rfl))))))), show x_25.toNatClampNeg = 6 * x.toNatClampNeg + y1_0.toNatClampNeg by omega]) (by unfold dwL; rw [if_pos (by omega)]; exact hl9) (by have hv9 : x_5 = dwL st x.toNatClampNeg y1_0.toNatClampNeg := (by unfold dwL; rw [if_pos (by omega)]; exact hl9); have c_z := gs_cl (x := y1_0) (by omega); rw [← hv9, c_z]; have h8 := hw_23_0; rw [if_pos ⟨by omega, by omega⟩]; exact h8)) (by omega) hM hS (lv_sub hl [0, 3, 4, 5] rfl)
        · have ic_7 := gz_ne (rfl : x_6.toInt = x_6.toInt) (by decide : (0 : Int32).toInt = 0) c_7
          refine lv_iload hx hb dX10_dawn_30 (lv_at hl 0 rfl) ?_
          refine lv_aload_n hx hb dX10_dawn_32 rfl (lv_at hl 2 rfl) ?_
          refine gs_get (C := RX10) (T := TX10) (N := 59) hx hb hts inX10 hown hK hM 0 0 3 (by decide) rfl rfl (by decide) (hts _ gm_900) (fun _ h9 => h9) rfl dX10_dawn_33 ?_
          refine lv_iload_n hx hb dX10_dawn_36 rfl (lv_at hl 1 rfl) ?_
          refine gs_iald hx hb hK hM 3 0 (by decide) rfl (vp_in_iff.mpr ⟨by omega, by omega⟩) dX10_dawn_37 ?_
          refine lv_topi (fun x_34 ex_34 => ?_)
          have qx_34 : x_34.toInt = (sv1 3 0 (y1_0.toNatClampNeg)).toInt := congrArg Int32.toInt ex_34
          have rx_34 : x_34.toInt = ((st 3 0 (y1_0.toNatClampNeg)) : Int32).toInt := by rw [ex_34]; exact congrArg Int32.toInt ((hB_sv1.2 3 0 (y1_0.toNatClampNeg) (show (300 : Nat) ∉ _ from by decide)))
          refine lv_iadd hx hb dX10_dawn_38 ?_
          refine lv_topi (fun x_35 ex_35 => ?_)
          refine lv_aload_n hx hb dX10_dawn_39 rfl (lv_at hl 2 rfl) ?_
          refine gs_get (C := RX10) (T := TX10) (N := 59) hx hb hts inX10 hown hK hM 0 0 2 (by decide) rfl rfl (by decide) (hts _ gm_899) (fun _ h9 => h9) rfl dX10_dawn_40 ?_
          refine lv_iload_n hx hb dX10_dawn_43 rfl (lv_at hl 1 rfl) ?_
          refine gs_iald hx hb hK hM 2 0 (by decide) rfl (vp_in_iff.mpr ⟨by omega, by omega⟩) dX10_dawn_44 ?_
          refine lv_topi (fun x_36 ex_36 => ?_)
          have qx_36 : x_36.toInt = (sv1 2 0 (y1_0.toNatClampNeg)).toInt := congrArg Int32.toInt ex_36
          have rx_36 : x_36.toInt = ((st 2 0 (y1_0.toNatClampNeg)) : Int32).toInt := by rw [ex_36]; exact congrArg Int32.toInt ((hB_sv1.2 2 0 (y1_0.toNatClampNeg) (show (200 : Nat) ∉ _ from by decide)))
          refine lv_icmp_le (tgt := 57) hx hb dX10_dawn_45 (by decide) (fun c_37 => ?_) (fun c_37 => ?_)
          · have ic_37 := gz_le (rfl : x_35.toInt = x_35.toInt) (rfl : x_36.toInt = x_36.toInt) c_37
            refine lv_iload hx hb dX10_dawn_57 (lv_at hl 0 rfl) ?_
            refine lv_aload_n hx hb dX10_dawn_59 rfl (lv_at hl 2 rfl) ?_
            refine gs_get (C := RX10) (T := TX10) (N := 59) hx hb hts inX10 hown hK hM 0 0 3 (by decide) rfl rfl (by decide) (hts _ gm_900) (fun _ h9 => h9) rfl dX10_dawn_60 ?_
            refine lv_iload_n hx hb dX10_dawn_63 rfl (lv_at hl 1 rfl) ?_
            refine gs_iald hx hb hK hM 3 0 (by decide) rfl (vp_in_iff.mpr ⟨by omega, by omega⟩) dX10_dawn_64 ?_
            refine lv_topi (fun x_38 ex_38 => ?_)
            have qx_38 : x_38.toInt = (sv1 3 0 (y1_0.toNatClampNeg)).toInt := congrArg Int32.toInt ex_38
            have rx_38 : x_38.toInt = ((st 3 0 (y1_0.toNatClampNeg)) : Int32).toInt := by rw [ex_38]; exact congrArg Int32.toInt ((hB_sv1.2 3 0 (y1_0.toNatClampNeg) (show (300 : Nat) ∉ _ from by decide)))
            refine lv_iadd hx hb dX10_dawn_65 ?_
            refine lv_topi (fun x_39 ex_39 => ?_)
            refine lv_istore (lv' := [(4, .int x_39), (3, .int y1_0), (0, .ref (ad 0 0)), (1, .int x), (2, .int y)]) hx hb dX10_dawn_66 hl (by decide) rfl (fun ls hl => ?_)
            refine lv_aload_n hx hb dX10_dawn_68 rfl (lv_at hl 2 rfl) ?_
            refine gs_get (C := RX10) (T := TX10) (N := 59) hx hb hts inX10 hown hK hM 0 0 45 (by decide) rfl rfl (by decide) (hts _ gm_942) (fun _ h9 => h9) rfl dX10_dawn_69 ?_
            refine lv_bipush (v := 6) hx hb dX10_dawn_72 (by decide) ?_
            refine lv_iload_n hx hb dX10_dawn_74 rfl (lv_at hl 3 rfl) ?_
            refine lv_imul hx hb dX10_dawn_75 ?_
            refine lv_topi (fun x_40 ex_40 => ?_)
            try have tx_40 : x_40.toInt = 6 * x.toInt := by rw [ex_40]; exact gz_mulI (x := 6) (y := x.toInt) (by decide) rfl (by omega) (by omega)
            refine lv_iload_n hx hb dX10_dawn_76 rfl (lv_at hl 1 rfl) ?_
            refine lv_iadd hx hb dX10_dawn_77 ?_
            refine lv_topi (fun x_41 ex_41 => ?_)
            try have tx_41 : x_41.toInt = x_40.toInt + y1_0.toInt := by rw [ex_41]; exact gz_addI (x := x_40.toInt) (y := y1_0.toInt) rfl rfl (by omega) (by omega)
            refine lv_iload hx hb dX10_dawn_78 (lv_at hl 0 rfl) ?_
            refine gs_iast hx hb hK hI hm hM hS 29 0 (by decide) (fun _ => rfl) (vp_in_iff.mpr ⟨by omega, by omega⟩) dX10_dawn_80 (fun st_42 H locs est_42 hM hS => ?_)
            have hB_st_42 : gBN bM kM [2900, 3500, 3600] st st_42 := by rw [est_42]; exact hB_sv1.up (show (2900 : Nat) ∈ _ from by decide) (gi_lo _) (gi_hi _)
            refine lv_aload_n hx hb dX10_dawn_81 rfl (lv_at hl 2 rfl) ?_
            refine gs_get (C := RX10) (T := TX10) (N := 59) hx hb hts inX10 hown hK hM 0 0 51 (by decide) rfl rfl (by decide) (hts _ gm_948) (fun _ h9 => h9) rfl dX10_dawn_82 ?_
            refine lv_bipush (v := 6) hx hb dX10_dawn_85 (by decide) ?_
            refine lv_iload_n hx hb dX10_dawn_87 rfl (lv_at hl 3 rfl) ?_
            refine lv_imul hx hb dX10_dawn_88 ?_
            refine lv_topi (fun x_43 ex_43 => ?_)
            try have tx_43 : x_43.toInt = 6 * x.toInt := by rw [ex_43]; exact gz_mulI (x := 6) (y := x.toInt) (by decide) rfl (by omega) (by omega)
            refine lv_iload_n hx hb dX10_dawn_89 rfl (lv_at hl 1 rfl) ?_
            refine lv_iadd hx hb dX10_dawn_90 ?_
            refine lv_topi (fun x_44 ex_44 => ?_)
            try have tx_44 : x_44.toInt = x_43.toInt + y1_0.toInt := by rw [ex_44]; exact gz_addI (x := x_43.toInt) (y := y1_0.toInt) rfl rfl (by omega) (by omega)
            refine lv_iload hx hb dX10_dawn_91 (lv_at hl 0 rfl) ?_
            refine gs_iast hx hb hK hI hm hM hS 35 0 (by decide) (fun _ => rfl) (vp_in_iff.mpr ⟨by omega, by omega⟩) dX10_dawn_93 (fun st_45 H locs est_45 hM hS => ?_)
            have hB_st_45 : gBN bM kM [2900, 3500, 3600] st st_45 := by rw [est_45]; exact hB_st_42.up (show (3500 : Nat) ∈ _ from by decide) (gi_lo _) (gi_hi _)
            refine lv_aload_n hx hb dX10_dawn_94 rfl (lv_at hl 2 rfl) ?_
            refine gs_get (C := RX10) (T := TX10) (N := 59) hx hb hts inX10 hown hK hM 0 0 1 (by decide) rfl rfl (by decide) (hts _ gm_898) (fun _ h9 => h9) rfl dX10_dawn_95 ?_
            refine lv_iload_n hx hb dX10_dawn_98 rfl (lv_at hl 1 rfl) ?_
            refine gs_zald hx hb hK hM 1 0 (by decide) rfl (vp_in_iff.mpr ⟨by omega, by omega⟩) dX10_dawn_99 ?_
            refine lv_topi (fun x_46 ex_46 => ?_)
            have qx_46 : x_46.toInt = (st_45 1 0 (y1_0.toNatClampNeg)).toInt := congrArg Int32.toInt ex_46
            have rx_46 : x_46.toInt = ((st 1 0 (y1_0.toNatClampNeg)) : Int32).toInt := by rw [ex_46]; exact congrArg Int32.toInt ((((congrFun (congrFun (congrFun est_45 1) 0) (y1_0.toNatClampNeg)).trans (congrFun (congrFun (gU_k (by decide)) 0) (y1_0.toNatClampNeg))).trans (((congrFun (congrFun (congrFun est_42 1) 0) (y1_0.toNatClampNeg)).trans (congrFun (congrFun (gU_k (by decide)) 0) (y1_0.toNatClampNeg))).trans (hB_sv1.2 1 0 (y1_0.toNatClampNeg) (show (100 : Nat) ∉ _ from by decide)))))
            refine lv_if_eq (tgt := 113) hx hb dX10_dawn_100 (by decide) (fun c_47 => ?_) (fun c_47 => ?_)
            · have ic_47 := gz_eq (rfl : x_46.toInt = x_46.toInt) (by decide : (0 : Int32).toInt = 0) c_47
              refine lv_iconst (v := (-1)) hx hb dX10_dawn_113 (by decide) ?_
              refine lv_istore (lv' := [(5, .int (-1)), (4, .int x_39), (3, .int y1_0), (0, .ref (ad 0 0)), (1, .int x), (2, .int y)]) hx hb dX10_dawn_114 hl (by decide) rfl (fun ls hl => ?_)
              refine lv_aload_n hx hb dX10_dawn_116 rfl (lv_at hl 3 rfl) ?_
              refine gs_get (C := RX10) (T := TX10) (N := 59) hx hb hts inX10 hown hK hM 0 0 52 (by decide) rfl rfl (by decide) (hts _ gm_949) (fun _ h9 => h9) rfl dX10_dawn_117 ?_
              refine lv_bipush (v := 6) hx hb dX10_dawn_120 (by decide) ?_
              refine lv_iload_n hx hb dX10_dawn_122 rfl (lv_at hl 4 rfl) ?_
              refine lv_imul hx hb dX10_dawn_123 ?_
              refine lv_topi (fun x_48 ex_48 => ?_)
              try have tx_48 : x_48.toInt = 6 * x.toInt := by rw [ex_48]; exact gz_mulI (x := 6) (y := x.toInt) (by decide) rfl (by omega) (by omega)
              refine lv_iload_n hx hb dX10_dawn_124 rfl (lv_at hl 2 rfl) ?_
              refine lv_iadd hx hb dX10_dawn_125 ?_
              refine lv_topi (fun x_49 ex_49 => ?_)
              try have tx_49 : x_49.toInt = x_48.toInt + y1_0.toInt := by rw [ex_49]; exact gz_addI (x := x_48.toInt) (y := y1_0.toInt) rfl rfl (by omega) (by omega)
              refine lv_iload hx hb dX10_dawn_126 (lv_at hl 0 rfl) ?_
              refine lv_if_lt (tgt := 136) hx hb dX10_dawn_128 (by decide) (fun _ => ?_) (fun h9 => absurd (by decide) h9)
              refine lv_aload_n hx hb dX10_dawn_136 rfl (lv_at hl 3 rfl) ?_
              refine gs_get (C := RX10) (T := TX10) (N := 59) hx hb hts inX10 hown hK hM 0 0 6 (by decide) rfl rfl (by decide) (hts _ gm_903) (fun _ h9 => h9) rfl dX10_dawn_137 ?_
              refine lv_sipush (v := 200) hx hb dX10_dawn_140 (by decide) ?_
              refine lv_iload_n hx hb dX10_dawn_143 rfl (lv_at hl 2 rfl) ?_
              refine lv_imul hx hb dX10_dawn_144 ?_
              refine lv_topi (fun x_50 ex_50 => ?_)
              try have tx_50 : x_50.toInt = 200 * y1_0.toInt := by rw [ex_50]; exact gz_mulI (x := 200) (y := y1_0.toInt) (by decide) rfl (by omega) (by omega)
              refine lv_iload_n hx hb dX10_dawn_145 rfl (lv_at hl 5 rfl) ?_
              refine lv_iadd hx hb dX10_dawn_146 ?_
              refine lv_topi (fun x_51 ex_51 => ?_)
              try have tx_51 : x_51.toInt = x_50.toInt + y.toInt := by rw [ex_51]; exact gz_addI (x := x_50.toInt) (y := y.toInt) rfl rfl (by omega) (by omega)
              refine gs_iald hx hb hK hM 6 0 (by decide) rfl (vp_in_iff.mpr ⟨by omega, by omega⟩) dX10_dawn_147 ?_
              refine lv_topi (fun x_52 ex_52 => ?_)
              have qx_52 : x_52.toInt = (st_45 6 0 (x_51.toNatClampNeg)).toInt := congrArg Int32.toInt ex_52
              have rx_52 : x_52.toInt = ((st 6 0 (x_51.toNatClampNeg)) : Int32).toInt := by rw [ex_52]; exact congrArg Int32.toInt ((((congrFun (congrFun (congrFun est_45 6) 0) (x_51.toNatClampNeg)).trans (congrFun (congrFun (gU_k (by decide)) 0) (x_51.toNatClampNeg))).trans (((congrFun (congrFun (congrFun est_42 6) 0) (x_51.toNatClampNeg)).trans (congrFun (congrFun (gU_k (by decide)) 0) (x_51.toNatClampNeg))).trans (hB_sv1.2 6 0 (x_51.toNatClampNeg) (show (600 : Nat) ∉ _ from by decide)))))
              refine gs_iast hx hb hK hI hm hM hS 36 0 (by decide) (fun _ => rfl) (vp_in_iff.mpr ⟨by omega, by omega⟩) dX10_dawn_148 (fun st_53 H locs est_53 hM hS => ?_)
              have hB_st_53 : gBN bM kM [2900, 3500, 3600] st st_53 := by rw [est_53]; exact hB_st_45.up (show (3600 : Nat) ∈ _ from by decide) (gi_lo _) (gi_hi _)
              obtain ⟨x_54, ex_54⟩ : ∃ y : Int32, y = y1_0 + 1 := ⟨_, rfl⟩
              try have tx_54 : x_54.toInt = y1_0.toInt + 1 := by rw [ex_54]; exact gz_addP (x := y1_0.toInt) (y := 1) rfl (by decide) (by omega) (by omega)
              refine lv_iinc (v := (x_54)) (lv' := [(3, .int x_54), (5, .int (-1)), (4, .int x_39), (0, .ref (ad 0 0)), (1, .int x), (2, .int y)]) hx hb dX10_dawn_149 hl (k := 2) rfl (by rw [ex_54]; rfl) (by decide) rfl (fun ls hl => ?_)
              refine lv_goto (tgt := 2) hx hb dX10_dawn_152 (by decide) ?_
              exact ih_1 st_53 (x_54 : Int32) H _ ls (by omega) hB_st_53 (by omega) (dwM.step (v := x_39) (c := x_52) (i := x_41) hv1_1 (by omega) (by omega) (by omega) (by have c_x_41 := gs_cl (x := x_41) (by omega); have c_x := gs_cl (x := x) (by omega); have c_y1_0 := gs_cl (x := y1_0) (by omega); omega) (by have c_x_41 := gs_cl (x := x_41) (by omega); have c_x := gs_cl (x := x) (by omega); have c_y1_0 := gs_cl (x := y1_0) (by omega); rw [show st_53 29 0 = (upd (sv1 29 0) (x_41.toNatClampNeg) (x_39 : Int32)) from ((congrFun (congrFun est_53 29) 0).trans ((congrFun (gU_k (by decide)) 0).trans ((congrFun (congrFun est_45 29) 0).trans ((congrFun (gU_k (by decide)) 0).trans ((congrFun (congrFun est_42 29) 0).trans ((gU_at _ _ _ _ _).trans (congrArg (fun f9 => upd f9 (x_41.toNatClampNeg) (x_39 : Int32)) rfl))))))), show x_41.toNatClampNeg = 6 * x.toNatClampNeg + y1_0.toNatClampNeg by omega]) (by have c_x_44 := gs_cl (x := x_44) (by omega); have c_x := gs_cl (x := x) (by omega); have c_y1_0 := gs_cl (x := y1_0) (by omega); rw [show st_53 35 0 = (upd (sv1 35 0) (x_44.toNatClampNeg) (x_39 : Int32)) from ((congrFun (congrFun est_53 35) 0).trans ((congrFun (gU_k (by decide)) 0).trans ((congrFun (congrFun est_45 35) 0).trans ((gU_at _ _ _ _ _).trans (congrArg (fun f9 => upd f9 (x_44.toNatClampNeg) (x_39 : Int32)) ((congrFun (congrFun est_42 35) 0).trans ((congrFun (gU_k (by decide)) 0).trans rfl))))))), show x_44.toNatClampNeg = 6 * x.toNatClampNeg + y1_0.toNatClampNeg by omega]) (by have c_x_49 := gs_cl (x := x_49) (by omega); have c_x := gs_cl (x := x) (by omega); have c_y1_0 := gs_cl (x := y1_0) (by omega); rw [show st_53 36 0 = (upd (sv1 36 0) (x_49.toNatClampNeg) (x_52 : Int32)) from ((congrFun (congrFun est_53 36) 0).trans ((gU_at _ _ _ _ _).trans (congrArg (fun f9 => upd f9 (x_49.toNatClampNeg) (x_52 : Int32)) ((congrFun (congrFun est_45 36) 0).trans ((congrFun (gU_k (by decide)) 0).trans ((congrFun (congrFun est_42 36) 0).trans ((congrFun (gU_k (by decide)) 0).trans rfl))))))), show x_49.toNatClampNeg = 6 * x.toNatClampNeg + y1_0.toNatClampNeg by omega]) (by unfold dwL; rw [if_neg (by omega)]; exact gw_lo (s := x_35) (by rw [ex_35, hl9, show x_34 = _ from (ex_34.trans (hB_sv1.2 3 0 (y1_0.toNatClampNeg) (show (300 : Nat) ∉ _ from by decide)))]) (by have h9 := congrArg Int32.toInt (ex_36.trans (hB_sv1.2 2 0 (y1_0.toNatClampNeg) (show (200 : Nat) ∉ _ from by decide))); omega) (by rw [ex_39, hl9, show x_38 = _ from (ex_38.trans (hB_sv1.2 3 0 (y1_0.toNatClampNeg) (show (300 : Nat) ∉ _ from by decide)))])) (by have hv9 : x_39 = dwL st x.toNatClampNeg y1_0.toNatClampNeg := (by unfold dwL; rw [if_neg (by omega)]; exact gw_lo (s := x_35) (by rw [ex_35, hl9, show x_34 = _ from (ex_34.trans (hB_sv1.2 3 0 (y1_0.toNatClampNeg) (show (300 : Nat) ∉ _ from by decide)))]) (by have h9 := congrArg Int32.toInt (ex_36.trans (hB_sv1.2 2 0 (y1_0.toNatClampNeg) (show (200 : Nat) ∉ _ from by decide))); omega) (by rw [ex_39, hl9, show x_38 = _ from (ex_38.trans (hB_sv1.2 3 0 (y1_0.toNatClampNeg) (show (300 : Nat) ∉ _ from by decide)))])); have c_z := gs_cl (x := y1_0) (by omega); rw [← hv9, c_z]; rw [if_neg (fun h7 => by exact h7.1 (by omega))]; exact (by have c_x_51 := gs_cl (x := x_51) (by omega); have c_y := gs_cl (x := y) (by omega); have c_y1_0 := gs_cl (x := y1_0) (by omega); have h9 := congrArg Int32.toInt (ex_52.trans (((congrFun (congrFun (congrFun est_45 6) 0) (x_51.toNatClampNeg)).trans (congrFun (congrFun (gU_k (by decide)) 0) (x_51.toNatClampNeg))).trans (((congrFun (congrFun (congrFun est_42 6) 0) (x_51.toNatClampNeg)).trans (congrFun (congrFun (gU_k (by decide)) 0) (x_51.toNatClampNeg))).trans (hB_sv1.2 6 0 (x_51.toNatClampNeg) (show (600 : Nat) ∉ _ from by decide))))); rw [show x_51.toNatClampNeg = 200 * y1_0.toNatClampNeg + y.toNatClampNeg by omega] at h9; exact h9))) (by omega) hM hS (lv_sub hl [0, 3, 4, 5] rfl)
            · have ic_47 := gz_ne (rfl : x_46.toInt = x_46.toInt) (by decide : (0 : Int32).toInt = 0) c_47
              refine lv_aload_n hx hb dX10_dawn_103 rfl (lv_at hl 2 rfl) ?_
              refine lv_iload_n hx hb dX10_dawn_104 rfl (lv_at hl 1 rfl) ?_
              refine lv_iload hx hb dX10_dawn_105 (lv_at hl 0 rfl) ?_
              refine gs_calli (va_runV (As := [.int y1_0, .int x_39]) (rest := []) ⟨hx, hb, hml, hown, hts⟩ (m_byDrought l G cy sK sV ad H.size st_45 hB_st_45.1 y1_0 x_39 y1_0.toInt x_39.toInt rfl rfl rs bk ((congrArg Int32.toInt ((((congrFun (congrFun (congrFun est_45 0) 0) 28).trans (congrFun (congrFun (gU_k (by decide)) 0) 28)).trans (((congrFun (congrFun (congrFun est_42 0) 0) 28).trans (congrFun (congrFun (gU_k (by decide)) 0) 28)).trans (hB_sv1.2 0 0 28 (show (28 : Nat) ∉ _ from by decide)))))).trans hbk) ((congrArg Int32.toInt ((((congrFun (congrFun (congrFun est_45 0) 0) 29).trans (congrFun (congrFun (gU_k (by decide)) 0) 29)).trans (((congrFun (congrFun (congrFun est_42 0) 0) 29).trans (congrFun (congrFun (gU_k (by decide)) 0) 29)).trans (hB_sv1.2 0 0 29 (show (29 : Nat) ∉ _ from by decide)))))).trans hru) (LM.all hLM (mA.trans (mA.trans (mA.trans mA.rf (mA.frame hB_sv1.2 (by decide))) (mA.upk est_42 (by decide))) (mA.upk est_45 (by decide))))) ⟨(gz_cb (n := 2) hts gm_1181 gm_12 gm_1184 ⟨by decide +kernel, by decide +kernel, by decide +kernel⟩ ⟨Nat.le_of_ble_eq_true rfl, Nat.le_of_ble_eq_true rfl⟩), hts _ gm_1183, hts _ gs_49⟩ (gs_preV hK hov hE hI hM hm hS hA 0 0 (by decide) rfl rfl) rfl rfl hl.1 rfl (lv_room (Nat.le_of_ble_eq_true rfl)) dX10_dawn_107 ⟨Nat.le_of_ble_eq_true rfl, Nat.le_of_ble_eq_true rfl⟩) hm hS hA (fun r_55 st_55 H locs hw_55 hM hS => ?_)
              obtain ⟨n_55, hw_55⟩ := hw_55
              have n_55 := gBN.nil n_55
              subst n_55
              have hw_55_0 := hw_55
              refine lv_goto (tgt := 114) hx hb dX10_dawn_110 (by decide) ?_
              refine lv_istore (lv' := [(5, .int r_55), (4, .int x_39), (3, .int y1_0), (0, .ref (ad 0 0)), (1, .int x), (2, .int y)]) hx hb dX10_dawn_114 hl (by decide) rfl (fun ls hl => ?_)
              refine lv_aload_n hx hb dX10_dawn_116 rfl (lv_at hl 3 rfl) ?_
              refine gs_get (C := RX10) (T := TX10) (N := 59) hx hb hts inX10 hown hK hM 0 0 52 (by decide) rfl rfl (by decide) (hts _ gm_949) (fun _ h9 => h9) rfl dX10_dawn_117 ?_
              refine lv_bipush (v := 6) hx hb dX10_dawn_120 (by decide) ?_
              refine lv_iload_n hx hb dX10_dawn_122 rfl (lv_at hl 4 rfl) ?_
              refine lv_imul hx hb dX10_dawn_123 ?_
              refine lv_topi (fun x_56 ex_56 => ?_)
              try have tx_56 : x_56.toInt = 6 * x.toInt := by rw [ex_56]; exact gz_mulI (x := 6) (y := x.toInt) (by decide) rfl (by omega) (by omega)
              refine lv_iload_n hx hb dX10_dawn_124 rfl (lv_at hl 2 rfl) ?_
              refine lv_iadd hx hb dX10_dawn_125 ?_
              refine lv_topi (fun x_57 ex_57 => ?_)
              try have tx_57 : x_57.toInt = x_56.toInt + y1_0.toInt := by rw [ex_57]; exact gz_addI (x := x_56.toInt) (y := y1_0.toInt) rfl rfl (by omega) (by omega)
              refine lv_iload hx hb dX10_dawn_126 (lv_at hl 0 rfl) ?_
              refine lv_if_lt (tgt := 136) hx hb dX10_dawn_128 (by decide) (fun c_58 => ?_) (fun c_58 => ?_)
              · have ic_58 := gz_lt (rfl : r_55.toInt = r_55.toInt) (by decide : (0 : Int32).toInt = 0) c_58
                refine lv_aload_n hx hb dX10_dawn_136 rfl (lv_at hl 3 rfl) ?_
                refine gs_get (C := RX10) (T := TX10) (N := 59) hx hb hts inX10 hown hK hM 0 0 6 (by decide) rfl rfl (by decide) (hts _ gm_903) (fun _ h9 => h9) rfl dX10_dawn_137 ?_
                refine lv_sipush (v := 200) hx hb dX10_dawn_140 (by decide) ?_
                refine lv_iload_n hx hb dX10_dawn_143 rfl (lv_at hl 2 rfl) ?_
                refine lv_imul hx hb dX10_dawn_144 ?_
                refine lv_topi (fun x_59 ex_59 => ?_)
                try have tx_59 : x_59.toInt = 200 * y1_0.toInt := by rw [ex_59]; exact gz_mulI (x := 200) (y := y1_0.toInt) (by decide) rfl (by omega) (by omega)
                refine lv_iload_n hx hb dX10_dawn_145 rfl (lv_at hl 5 rfl) ?_
                refine lv_iadd hx hb dX10_dawn_146 ?_
                refine lv_topi (fun x_60 ex_60 => ?_)
                try have tx_60 : x_60.toInt = x_59.toInt + y.toInt := by rw [ex_60]; exact gz_addI (x := x_59.toInt) (y := y.toInt) rfl rfl (by omega) (by omega)
                refine gs_iald hx hb hK hM 6 0 (by decide) rfl (vp_in_iff.mpr ⟨by omega, by omega⟩) dX10_dawn_147 ?_
                refine lv_topi (fun x_61 ex_61 => ?_)
                have qx_61 : x_61.toInt = (st_45 6 0 (x_60.toNatClampNeg)).toInt := congrArg Int32.toInt ex_61
                have rx_61 : x_61.toInt = ((st 6 0 (x_60.toNatClampNeg)) : Int32).toInt := by rw [ex_61]; exact congrArg Int32.toInt ((((congrFun (congrFun (congrFun est_45 6) 0) (x_60.toNatClampNeg)).trans (congrFun (congrFun (gU_k (by decide)) 0) (x_60.toNatClampNeg))).trans (((congrFun (congrFun (congrFun est_42 6) 0) (x_60.toNatClampNeg)).trans (congrFun (congrFun (gU_k (by decide)) 0) (x_60.toNatClampNeg))).trans (hB_sv1.2 6 0 (x_60.toNatClampNeg) (show (600 : Nat) ∉ _ from by decide)))))
                refine gs_iast hx hb hK hI hm hM hS 36 0 (by decide) (fun _ => rfl) (vp_in_iff.mpr ⟨by omega, by omega⟩) dX10_dawn_148 (fun st_62 H locs est_62 hM hS => ?_)
                have hB_st_62 : gBN bM kM [2900, 3500, 3600] st st_62 := by rw [est_62]; exact hB_st_45.up (show (3600 : Nat) ∈ _ from by decide) (gi_lo _) (gi_hi _)
                obtain ⟨x_63, ex_63⟩ : ∃ y : Int32, y = y1_0 + 1 := ⟨_, rfl⟩
                try have tx_63 : x_63.toInt = y1_0.toInt + 1 := by rw [ex_63]; exact gz_addP (x := y1_0.toInt) (y := 1) rfl (by decide) (by omega) (by omega)
                refine lv_iinc (v := (x_63)) (lv' := [(3, .int x_63), (5, .int r_55), (4, .int x_39), (0, .ref (ad 0 0)), (1, .int x), (2, .int y)]) hx hb dX10_dawn_149 hl (k := 2) rfl (by rw [ex_63]; rfl) (by decide) rfl (fun ls hl => ?_)
                refine lv_goto (tgt := 2) hx hb dX10_dawn_152 (by decide) ?_
                exact ih_1 st_62 (x_63 : Int32) H _ ls (by omega) hB_st_62 (by omega) (dwM.step (v := x_39) (c := x_61) (i := x_41) hv1_1 (by omega) (by omega) (by omega) (by have c_x_41 := gs_cl (x := x_41) (by omega); have c_x := gs_cl (x := x) (by omega); have c_y1_0 := gs_cl (x := y1_0) (by omega); omega) (by have c_x_41 := gs_cl (x := x_41) (by omega); have c_x := gs_cl (x := x) (by omega); have c_y1_0 := gs_cl (x := y1_0) (by omega); rw [show st_62 29 0 = (upd (sv1 29 0) (x_41.toNatClampNeg) (x_39 : Int32)) from ((congrFun (congrFun est_62 29) 0).trans ((congrFun (gU_k (by decide)) 0).trans ((congrFun (congrFun est_45 29) 0).trans ((congrFun (gU_k (by decide)) 0).trans ((congrFun (congrFun est_42 29) 0).trans ((gU_at _ _ _ _ _).trans (congrArg (fun f9 => upd f9 (x_41.toNatClampNeg) (x_39 : Int32)) rfl))))))), show x_41.toNatClampNeg = 6 * x.toNatClampNeg + y1_0.toNatClampNeg by omega]) (by have c_x_44 := gs_cl (x := x_44) (by omega); have c_x := gs_cl (x := x) (by omega); have c_y1_0 := gs_cl (x := y1_0) (by omega); rw [show st_62 35 0 = (upd (sv1 35 0) (x_44.toNatClampNeg) (x_39 : Int32)) from ((congrFun (congrFun est_62 35) 0).trans ((congrFun (gU_k (by decide)) 0).trans ((congrFun (congrFun est_45 35) 0).trans ((gU_at _ _ _ _ _).trans (congrArg (fun f9 => upd f9 (x_44.toNatClampNeg) (x_39 : Int32)) ((congrFun (congrFun est_42 35) 0).trans ((congrFun (gU_k (by decide)) 0).trans rfl))))))), show x_44.toNatClampNeg = 6 * x.toNatClampNeg + y1_0.toNatClampNeg by omega]) (by have c_x_57 := gs_cl (x := x_57) (by omega); have c_x := gs_cl (x := x) (by omega); have c_y1_0 := gs_cl (x := y1_0) (by omega); rw [show st_62 36 0 = (upd (sv1 36 0) (x_57.toNatClampNeg) (x_61 : Int32)) from ((congrFun (congrFun est_62 36) 0).trans ((gU_at _ _ _ _ _).trans (congrArg (fun f9 => upd f9 (x_57.toNatClampNeg) (x_61 : Int32)) ((congrFun (congrFun est_45 36) 0).trans ((congrFun (gU_k (by decide)) 0).trans ((congrFun (congrFun est_42 36) 0).trans ((congrFun (gU_k (by decide)) 0).trans rfl))))))), show x_57.toNatClampNeg = 6 * x.toNatClampNeg + y1_0.toNatClampNeg by omega]) (by unfold dwL; rw [if_neg (by omega)]; exact gw_lo (s := x_35) (by rw [ex_35, hl9, show x_34 = _ from (ex_34.trans (hB_sv1.2 3 0 (y1_0.toNatClampNeg) (show (300 : Nat) ∉ _ from by decide)))]) (by have h9 := congrArg Int32.toInt (ex_36.trans (hB_sv1.2 2 0 (y1_0.toNatClampNeg) (show (200 : Nat) ∉ _ from by decide))); omega) (by rw [ex_39, hl9, show x_38 = _ from (ex_38.trans (hB_sv1.2 3 0 (y1_0.toNatClampNeg) (show (300 : Nat) ∉ _ from by decide)))])) (by have hv9 : x_39 = dwL st x.toNatClampNeg y1_0.toNatClampNeg := (by unfold dwL; rw [if_neg (by omega)]; exact gw_lo (s := x_35) (by rw [ex_35, hl9, show x_34 = _ from (ex_34.trans (hB_sv1.2 3 0 (y1_0.toNatClampNeg) (show (300 : Nat) ∉ _ from by decide)))]) (by have h9 := congrArg Int32.toInt (ex_36.trans (hB_sv1.2 2 0 (y1_0.toNatClampNeg) (show (200 : Nat) ∉ _ from by decide))); omega) (by rw [ex_39, hl9, show x_38 = _ from (ex_38.trans (hB_sv1.2 3 0 (y1_0.toNatClampNeg) (show (300 : Nat) ∉ _ from by decide)))])); have c_z := gs_cl (x := y1_0) (by omega); rw [← hv9, c_z]; have h8 := hw_55_0; rw [if_neg (fun h7 => by have h6 := h7.2; omega)]; exact (by have c_x_60 := gs_cl (x := x_60) (by omega); have c_y := gs_cl (x := y) (by omega); have c_y1_0 := gs_cl (x := y1_0) (by omega); have h9 := congrArg Int32.toInt (ex_61.trans (((congrFun (congrFun (congrFun est_45 6) 0) (x_60.toNatClampNeg)).trans (congrFun (congrFun (gU_k (by decide)) 0) (x_60.toNatClampNeg))).trans (((congrFun (congrFun (congrFun est_42 6) 0) (x_60.toNatClampNeg)).trans (congrFun (congrFun (gU_k (by decide)) 0) (x_60.toNatClampNeg))).trans (hB_sv1.2 6 0 (x_60.toNatClampNeg) (show (600 : Nat) ∉ _ from by decide))))); rw [show x_60.toNatClampNeg = 200 * y1_0.toNatClampNeg + y.toNatClampNeg by omega] at h9; exact h9))) (by omega) hM hS (lv_sub hl [0, 3, 4, 5] rfl)
              · have ic_58 := gz_nlt (rfl : r_55.toInt = r_55.toInt) (by decide : (0 : Int32).toInt = 0) c_58
                refine lv_iload hx hb dX10_dawn_131 (lv_at hl 0 rfl) ?_
                refine lv_goto (tgt := 148) hx hb dX10_dawn_133 (by decide) ?_
                refine gs_iast hx hb hK hI hm hM hS 36 0 (by decide) (fun _ => rfl) (vp_in_iff.mpr ⟨by omega, by omega⟩) dX10_dawn_148 (fun st_64 H locs est_64 hM hS => ?_)
                have hB_st_64 : gBN bM kM [2900, 3500, 3600] st st_64 := by rw [est_64]; exact hB_st_45.up (show (3600 : Nat) ∈ _ from by decide) (gi_lo _) (gi_hi _)
                obtain ⟨x_65, ex_65⟩ : ∃ y : Int32, y = y1_0 + 1 := ⟨_, rfl⟩
                try have tx_65 : x_65.toInt = y1_0.toInt + 1 := by rw [ex_65]; exact gz_addP (x := y1_0.toInt) (y := 1) rfl (by decide) (by omega) (by omega)
                refine lv_iinc (v := (x_65)) (lv' := [(3, .int x_65), (5, .int r_55), (4, .int x_39), (0, .ref (ad 0 0)), (1, .int x), (2, .int y)]) hx hb dX10_dawn_149 hl (k := 2) rfl (by rw [ex_65]; rfl) (by decide) rfl (fun ls hl => ?_)
                refine lv_goto (tgt := 2) hx hb dX10_dawn_152 (by decide) ?_
                exact ih_1 st_64 (x_65 : Int32) H _ ls (by omega) hB_st_64 (by omega) (dwM.step (v := x_39) (c := r_55) (i := x_41) hv1_1 (by omega) (by omega) (by omega) (by have c_x_41 := gs_cl (x := x_41) (by omega); have c_x := gs_cl (x := x) (by omega); have c_y1_0 := gs_cl (x := y1_0) (by omega); omega) (by have c_x_41 := gs_cl (x := x_41) (by omega); have c_x := gs_cl (x := x) (by omega); have c_y1_0 := gs_cl (x := y1_0) (by omega); rw [show st_64 29 0 = (upd (sv1 29 0) (x_41.toNatClampNeg) (x_39 : Int32)) from ((congrFun (congrFun est_64 29) 0).trans ((congrFun (gU_k (by decide)) 0).trans ((congrFun (congrFun est_45 29) 0).trans ((congrFun (gU_k (by decide)) 0).trans ((congrFun (congrFun est_42 29) 0).trans ((gU_at _ _ _ _ _).trans (congrArg (fun f9 => upd f9 (x_41.toNatClampNeg) (x_39 : Int32)) rfl))))))), show x_41.toNatClampNeg = 6 * x.toNatClampNeg + y1_0.toNatClampNeg by omega]) (by have c_x_44 := gs_cl (x := x_44) (by omega); have c_x := gs_cl (x := x) (by omega); have c_y1_0 := gs_cl (x := y1_0) (by omega); rw [show st_64 35 0 = (upd (sv1 35 0) (x_44.toNatClampNeg) (x_39 : Int32)) from ((congrFun (congrFun est_64 35) 0).trans ((congrFun (gU_k (by decide)) 0).trans ((congrFun (congrFun est_45 35) 0).trans ((gU_at _ _ _ _ _).trans (congrArg (fun f9 => upd f9 (x_44.toNatClampNeg) (x_39 : Int32)) ((congrFun (congrFun est_42 35) 0).trans ((congrFun (gU_k (by decide)) 0).trans rfl))))))), show x_44.toNatClampNeg = 6 * x.toNatClampNeg + y1_0.toNatClampNeg by omega]) (by have c_x_57 := gs_cl (x := x_57) (by omega); have c_x := gs_cl (x := x) (by omega); have c_y1_0 := gs_cl (x := y1_0) (by omega); rw [show st_64 36 0 = (upd (sv1 36 0) (x_57.toNatClampNeg) (r_55 : Int32)) from ((congrFun (congrFun est_64 36) 0).trans ((gU_at _ _ _ _ _).trans (congrArg (fun f9 => upd f9 (x_57.toNatClampNeg) (r_55 : Int32)) ((congrFun (congrFun est_45 36) 0).trans ((congrFun (gU_k (by decide)) 0).trans ((congrFun (congrFun est_42 36) 0).trans ((congrFun (gU_k (by decide)) 0).trans rfl))))))), show x_57.toNatClampNeg = 6 * x.toNatClampNeg + y1_0.toNatClampNeg by omega]) (by unfold dwL; rw [if_neg (by omega)]; exact gw_lo (s := x_35) (by rw [ex_35, hl9, show x_34 = _ from (ex_34.trans (hB_sv1.2 3 0 (y1_0.toNatClampNeg) (show (300 : Nat) ∉ _ from by decide)))]) (by have h9 := congrArg Int32.toInt (ex_36.trans (hB_sv1.2 2 0 (y1_0.toNatClampNeg) (show (200 : Nat) ∉ _ from by decide))); omega) (by rw [ex_39, hl9, show x_38 = _ from (ex_38.trans (hB_sv1.2 3 0 (y1_0.toNatClampNeg) (show (300 : Nat) ∉ _ from by decide)))])) (by have hv9 : x_39 = dwL st x.toNatClampNeg y1_0.toNatClampNeg := (by unfold dwL; rw [if_neg (by omega)]; exact gw_lo (s := x_35) (by rw [ex_35, hl9, show x_34 = _ from (ex_34.trans (hB_sv1.2 3 0 (y1_0.toNatClampNeg) (show (300 : Nat) ∉ _ from by decide)))]) (by have h9 := congrArg Int32.toInt (ex_36.trans (hB_sv1.2 2 0 (y1_0.toNatClampNeg) (show (200 : Nat) ∉ _ from by decide))); omega) (by rw [ex_39, hl9, show x_38 = _ from (ex_38.trans (hB_sv1.2 3 0 (y1_0.toNatClampNeg) (show (300 : Nat) ∉ _ from by decide)))])); have c_z := gs_cl (x := y1_0) (by omega); rw [← hv9, c_z]; have h8 := hw_55_0; rw [if_pos ⟨by omega, by omega⟩]; exact h8)) (by omega) hM hS (lv_sub hl [0, 3, 4, 5] rfl)
          · have ic_37 := gz_nle (rfl : x_35.toInt = x_35.toInt) (rfl : x_36.toInt = x_36.toInt) c_37
            have lc_37 := gi_hi x_35
            refine lv_aload_n hx hb dX10_dawn_48 rfl (lv_at hl 2 rfl) ?_
            refine gs_get (C := RX10) (T := TX10) (N := 59) hx hb hts inX10 hown hK hM 0 0 2 (by decide) rfl rfl (by decide) (hts _ gm_899) (fun _ h9 => h9) rfl dX10_dawn_49 ?_
            refine lv_iload_n hx hb dX10_dawn_52 rfl (lv_at hl 1 rfl) ?_
            refine gs_iald hx hb hK hM 2 0 (by decide) rfl (vp_in_iff.mpr ⟨by omega, by omega⟩) dX10_dawn_53 ?_
            refine lv_topi (fun x_66 ex_66 => ?_)
            have qx_66 : x_66.toInt = (sv1 2 0 (y1_0.toNatClampNeg)).toInt := congrArg Int32.toInt ex_66
            have rx_66 : x_66.toInt = ((st 2 0 (y1_0.toNatClampNeg)) : Int32).toInt := by rw [ex_66]; exact congrArg Int32.toInt ((hB_sv1.2 2 0 (y1_0.toNatClampNeg) (show (200 : Nat) ∉ _ from by decide)))
            refine lv_goto (tgt := 66) hx hb dX10_dawn_54 (by decide) ?_
            refine lv_istore (lv' := [(4, .int x_66), (3, .int y1_0), (0, .ref (ad 0 0)), (1, .int x), (2, .int y)]) hx hb dX10_dawn_66 hl (by decide) rfl (fun ls hl => ?_)
            refine lv_aload_n hx hb dX10_dawn_68 rfl (lv_at hl 2 rfl) ?_
            refine gs_get (C := RX10) (T := TX10) (N := 59) hx hb hts inX10 hown hK hM 0 0 45 (by decide) rfl rfl (by decide) (hts _ gm_942) (fun _ h9 => h9) rfl dX10_dawn_69 ?_
            refine lv_bipush (v := 6) hx hb dX10_dawn_72 (by decide) ?_
            refine lv_iload_n hx hb dX10_dawn_74 rfl (lv_at hl 3 rfl) ?_
            refine lv_imul hx hb dX10_dawn_75 ?_
            refine lv_topi (fun x_67 ex_67 => ?_)
            try have tx_67 : x_67.toInt = 6 * x.toInt := by rw [ex_67]; exact gz_mulI (x := 6) (y := x.toInt) (by decide) rfl (by omega) (by omega)
            refine lv_iload_n hx hb dX10_dawn_76 rfl (lv_at hl 1 rfl) ?_
            refine lv_iadd hx hb dX10_dawn_77 ?_
            refine lv_topi (fun x_68 ex_68 => ?_)
            try have tx_68 : x_68.toInt = x_67.toInt + y1_0.toInt := by rw [ex_68]; exact gz_addI (x := x_67.toInt) (y := y1_0.toInt) rfl rfl (by omega) (by omega)
            refine lv_iload hx hb dX10_dawn_78 (lv_at hl 0 rfl) ?_
            refine gs_iast hx hb hK hI hm hM hS 29 0 (by decide) (fun _ => rfl) (vp_in_iff.mpr ⟨by omega, by omega⟩) dX10_dawn_80 (fun st_69 H locs est_69 hM hS => ?_)
            have hB_st_69 : gBN bM kM [2900, 3500, 3600] st st_69 := by rw [est_69]; exact hB_sv1.up (show (2900 : Nat) ∈ _ from by decide) (gi_lo _) (gi_hi _)
            refine lv_aload_n hx hb dX10_dawn_81 rfl (lv_at hl 2 rfl) ?_
            refine gs_get (C := RX10) (T := TX10) (N := 59) hx hb hts inX10 hown hK hM 0 0 51 (by decide) rfl rfl (by decide) (hts _ gm_948) (fun _ h9 => h9) rfl dX10_dawn_82 ?_
            refine lv_bipush (v := 6) hx hb dX10_dawn_85 (by decide) ?_
            refine lv_iload_n hx hb dX10_dawn_87 rfl (lv_at hl 3 rfl) ?_
            refine lv_imul hx hb dX10_dawn_88 ?_
            refine lv_topi (fun x_70 ex_70 => ?_)
            try have tx_70 : x_70.toInt = 6 * x.toInt := by rw [ex_70]; exact gz_mulI (x := 6) (y := x.toInt) (by decide) rfl (by omega) (by omega)
            refine lv_iload_n hx hb dX10_dawn_89 rfl (lv_at hl 1 rfl) ?_
            refine lv_iadd hx hb dX10_dawn_90 ?_
            refine lv_topi (fun x_71 ex_71 => ?_)
            try have tx_71 : x_71.toInt = x_70.toInt + y1_0.toInt := by rw [ex_71]; exact gz_addI (x := x_70.toInt) (y := y1_0.toInt) rfl rfl (by omega) (by omega)
            refine lv_iload hx hb dX10_dawn_91 (lv_at hl 0 rfl) ?_
            refine gs_iast hx hb hK hI hm hM hS 35 0 (by decide) (fun _ => rfl) (vp_in_iff.mpr ⟨by omega, by omega⟩) dX10_dawn_93 (fun st_72 H locs est_72 hM hS => ?_)
            have hB_st_72 : gBN bM kM [2900, 3500, 3600] st st_72 := by rw [est_72]; exact hB_st_69.up (show (3500 : Nat) ∈ _ from by decide) (gi_lo _) (gi_hi _)
            refine lv_aload_n hx hb dX10_dawn_94 rfl (lv_at hl 2 rfl) ?_
            refine gs_get (C := RX10) (T := TX10) (N := 59) hx hb hts inX10 hown hK hM 0 0 1 (by decide) rfl rfl (by decide) (hts _ gm_898) (fun _ h9 => h9) rfl dX10_dawn_95 ?_
            refine lv_iload_n hx hb dX10_dawn_98 rfl (lv_at hl 1 rfl) ?_
            refine gs_zald hx hb hK hM 1 0 (by decide) rfl (vp_in_iff.mpr ⟨by omega, by omega⟩) dX10_dawn_99 ?_
            refine lv_topi (fun x_73 ex_73 => ?_)
            have qx_73 : x_73.toInt = (st_72 1 0 (y1_0.toNatClampNeg)).toInt := congrArg Int32.toInt ex_73
            have rx_73 : x_73.toInt = ((st 1 0 (y1_0.toNatClampNeg)) : Int32).toInt := by rw [ex_73]; exact congrArg Int32.toInt ((((congrFun (congrFun (congrFun est_72 1) 0) (y1_0.toNatClampNeg)).trans (congrFun (congrFun (gU_k (by decide)) 0) (y1_0.toNatClampNeg))).trans (((congrFun (congrFun (congrFun est_69 1) 0) (y1_0.toNatClampNeg)).trans (congrFun (congrFun (gU_k (by decide)) 0) (y1_0.toNatClampNeg))).trans (hB_sv1.2 1 0 (y1_0.toNatClampNeg) (show (100 : Nat) ∉ _ from by decide)))))
            refine lv_if_eq (tgt := 113) hx hb dX10_dawn_100 (by decide) (fun c_74 => ?_) (fun c_74 => ?_)
            · have ic_74 := gz_eq (rfl : x_73.toInt = x_73.toInt) (by decide : (0 : Int32).toInt = 0) c_74
              refine lv_iconst (v := (-1)) hx hb dX10_dawn_113 (by decide) ?_
              refine lv_istore (lv' := [(5, .int (-1)), (4, .int x_66), (3, .int y1_0), (0, .ref (ad 0 0)), (1, .int x), (2, .int y)]) hx hb dX10_dawn_114 hl (by decide) rfl (fun ls hl => ?_)
              refine lv_aload_n hx hb dX10_dawn_116 rfl (lv_at hl 3 rfl) ?_
              refine gs_get (C := RX10) (T := TX10) (N := 59) hx hb hts inX10 hown hK hM 0 0 52 (by decide) rfl rfl (by decide) (hts _ gm_949) (fun _ h9 => h9) rfl dX10_dawn_117 ?_
              refine lv_bipush (v := 6) hx hb dX10_dawn_120 (by decide) ?_
              refine lv_iload_n hx hb dX10_dawn_122 rfl (lv_at hl 4 rfl) ?_
              refine lv_imul hx hb dX10_dawn_123 ?_
              refine lv_topi (fun x_75 ex_75 => ?_)
              try have tx_75 : x_75.toInt = 6 * x.toInt := by rw [ex_75]; exact gz_mulI (x := 6) (y := x.toInt) (by decide) rfl (by omega) (by omega)
              refine lv_iload_n hx hb dX10_dawn_124 rfl (lv_at hl 2 rfl) ?_
              refine lv_iadd hx hb dX10_dawn_125 ?_
              refine lv_topi (fun x_76 ex_76 => ?_)
              try have tx_76 : x_76.toInt = x_75.toInt + y1_0.toInt := by rw [ex_76]; exact gz_addI (x := x_75.toInt) (y := y1_0.toInt) rfl rfl (by omega) (by omega)
              refine lv_iload hx hb dX10_dawn_126 (lv_at hl 0 rfl) ?_
              refine lv_if_lt (tgt := 136) hx hb dX10_dawn_128 (by decide) (fun _ => ?_) (fun h9 => absurd (by decide) h9)
              refine lv_aload_n hx hb dX10_dawn_136 rfl (lv_at hl 3 rfl) ?_
              refine gs_get (C := RX10) (T := TX10) (N := 59) hx hb hts inX10 hown hK hM 0 0 6 (by decide) rfl rfl (by decide) (hts _ gm_903) (fun _ h9 => h9) rfl dX10_dawn_137 ?_
              refine lv_sipush (v := 200) hx hb dX10_dawn_140 (by decide) ?_
              refine lv_iload_n hx hb dX10_dawn_143 rfl (lv_at hl 2 rfl) ?_
              refine lv_imul hx hb dX10_dawn_144 ?_
              refine lv_topi (fun x_77 ex_77 => ?_)
              try have tx_77 : x_77.toInt = 200 * y1_0.toInt := by rw [ex_77]; exact gz_mulI (x := 200) (y := y1_0.toInt) (by decide) rfl (by omega) (by omega)
              refine lv_iload_n hx hb dX10_dawn_145 rfl (lv_at hl 5 rfl) ?_
              refine lv_iadd hx hb dX10_dawn_146 ?_
              refine lv_topi (fun x_78 ex_78 => ?_)
              try have tx_78 : x_78.toInt = x_77.toInt + y.toInt := by rw [ex_78]; exact gz_addI (x := x_77.toInt) (y := y.toInt) rfl rfl (by omega) (by omega)
              refine gs_iald hx hb hK hM 6 0 (by decide) rfl (vp_in_iff.mpr ⟨by omega, by omega⟩) dX10_dawn_147 ?_
              refine lv_topi (fun x_79 ex_79 => ?_)
              have qx_79 : x_79.toInt = (st_72 6 0 (x_78.toNatClampNeg)).toInt := congrArg Int32.toInt ex_79
              have rx_79 : x_79.toInt = ((st 6 0 (x_78.toNatClampNeg)) : Int32).toInt := by rw [ex_79]; exact congrArg Int32.toInt ((((congrFun (congrFun (congrFun est_72 6) 0) (x_78.toNatClampNeg)).trans (congrFun (congrFun (gU_k (by decide)) 0) (x_78.toNatClampNeg))).trans (((congrFun (congrFun (congrFun est_69 6) 0) (x_78.toNatClampNeg)).trans (congrFun (congrFun (gU_k (by decide)) 0) (x_78.toNatClampNeg))).trans (hB_sv1.2 6 0 (x_78.toNatClampNeg) (show (600 : Nat) ∉ _ from by decide)))))
              refine gs_iast hx hb hK hI hm hM hS 36 0 (by decide) (fun _ => rfl) (vp_in_iff.mpr ⟨by omega, by omega⟩) dX10_dawn_148 (fun st_80 H locs est_80 hM hS => ?_)
              have hB_st_80 : gBN bM kM [2900, 3500, 3600] st st_80 := by rw [est_80]; exact hB_st_72.up (show (3600 : Nat) ∈ _ from by decide) (gi_lo _) (gi_hi _)
              obtain ⟨x_81, ex_81⟩ : ∃ y : Int32, y = y1_0 + 1 := ⟨_, rfl⟩
              try have tx_81 : x_81.toInt = y1_0.toInt + 1 := by rw [ex_81]; exact gz_addP (x := y1_0.toInt) (y := 1) rfl (by decide) (by omega) (by omega)
              refine lv_iinc (v := (x_81)) (lv' := [(3, .int x_81), (5, .int (-1)), (4, .int x_66), (0, .ref (ad 0 0)), (1, .int x), (2, .int y)]) hx hb dX10_dawn_149 hl (k := 2) rfl (by rw [ex_81]; rfl) (by decide) rfl (fun ls hl => ?_)
              refine lv_goto (tgt := 2) hx hb dX10_dawn_152 (by decide) ?_
              exact ih_1 st_80 (x_81 : Int32) H _ ls (by omega) hB_st_80 (by omega) (dwM.step (v := x_66) (c := x_79) (i := x_68) hv1_1 (by omega) (by omega) (by omega) (by have c_x_68 := gs_cl (x := x_68) (by omega); have c_x := gs_cl (x := x) (by omega); have c_y1_0 := gs_cl (x := y1_0) (by omega); omega) (by have c_x_68 := gs_cl (x := x_68) (by omega); have c_x := gs_cl (x := x) (by omega); have c_y1_0 := gs_cl (x := y1_0) (by omega); rw [show st_80 29 0 = (upd (sv1 29 0) (x_68.toNatClampNeg) (x_66 : Int32)) from ((congrFun (congrFun est_80 29) 0).trans ((congrFun (gU_k (by decide)) 0).trans ((congrFun (congrFun est_72 29) 0).trans ((congrFun (gU_k (by decide)) 0).trans ((congrFun (congrFun est_69 29) 0).trans ((gU_at _ _ _ _ _).trans (congrArg (fun f9 => upd f9 (x_68.toNatClampNeg) (x_66 : Int32)) rfl))))))), show x_68.toNatClampNeg = 6 * x.toNatClampNeg + y1_0.toNatClampNeg by omega]) (by have c_x_71 := gs_cl (x := x_71) (by omega); have c_x := gs_cl (x := x) (by omega); have c_y1_0 := gs_cl (x := y1_0) (by omega); rw [show st_80 35 0 = (upd (sv1 35 0) (x_71.toNatClampNeg) (x_66 : Int32)) from ((congrFun (congrFun est_80 35) 0).trans ((congrFun (gU_k (by decide)) 0).trans ((congrFun (congrFun est_72 35) 0).trans ((gU_at _ _ _ _ _).trans (congrArg (fun f9 => upd f9 (x_71.toNatClampNeg) (x_66 : Int32)) ((congrFun (congrFun est_69 35) 0).trans ((congrFun (gU_k (by decide)) 0).trans rfl))))))), show x_71.toNatClampNeg = 6 * x.toNatClampNeg + y1_0.toNatClampNeg by omega]) (by have c_x_76 := gs_cl (x := x_76) (by omega); have c_x := gs_cl (x := x) (by omega); have c_y1_0 := gs_cl (x := y1_0) (by omega); rw [show st_80 36 0 = (upd (sv1 36 0) (x_76.toNatClampNeg) (x_79 : Int32)) from ((congrFun (congrFun est_80 36) 0).trans ((gU_at _ _ _ _ _).trans (congrArg (fun f9 => upd f9 (x_76.toNatClampNeg) (x_79 : Int32)) ((congrFun (congrFun est_72 36) 0).trans ((congrFun (gU_k (by decide)) 0).trans ((congrFun (congrFun est_69 36) 0).trans ((congrFun (gU_k (by decide)) 0).trans rfl))))))), show x_76.toNatClampNeg = 6 * x.toNatClampNeg + y1_0.toNatClampNeg by omega]) (by unfold dwL; rw [if_neg (by omega)]; exact gw_hi (s := x_35) (by rw [ex_35, hl9, show x_34 = _ from (ex_34.trans (hB_sv1.2 3 0 (y1_0.toNatClampNeg) (show (300 : Nat) ∉ _ from by decide)))]) (by have h9 := congrArg Int32.toInt (ex_36.trans (hB_sv1.2 2 0 (y1_0.toNatClampNeg) (show (200 : Nat) ∉ _ from by decide))); omega) (ex_66.trans (hB_sv1.2 2 0 (y1_0.toNatClampNeg) (show (200 : Nat) ∉ _ from by decide)))) (by have hv9 : x_66 = dwL st x.toNatClampNeg y1_0.toNatClampNeg := (by unfold dwL; rw [if_neg (by omega)]; exact gw_hi (s := x_35) (by rw [ex_35, hl9, show x_34 = _ from (ex_34.trans (hB_sv1.2 3 0 (y1_0.toNatClampNeg) (show (300 : Nat) ∉ _ from by decide)))]) (by have h9 := congrArg Int32.toInt (ex_36.trans (hB_sv1.2 2 0 (y1_0.toNatClampNeg) (show (200 : Nat) ∉ _ from by decide))); omega) (ex_66.trans (hB_sv1.2 2 0 (y1_0.toNatClampNeg) (show (200 : Nat) ∉ _ from by decide)))); have c_z := gs_cl (x := y1_0) (by omega); rw [← hv9, c_z]; rw [if_neg (fun h7 => by exact h7.1 (by omega))]; exact (by have c_x_78 := gs_cl (x := x_78) (by omega); have c_y := gs_cl (x := y) (by omega); have c_y1_0 := gs_cl (x := y1_0) (by omega); have h9 := congrArg Int32.toInt (ex_79.trans (((congrFun (congrFun (congrFun est_72 6) 0) (x_78.toNatClampNeg)).trans (congrFun (congrFun (gU_k (by decide)) 0) (x_78.toNatClampNeg))).trans (((congrFun (congrFun (congrFun est_69 6) 0) (x_78.toNatClampNeg)).trans (congrFun (congrFun (gU_k (by decide)) 0) (x_78.toNatClampNeg))).trans (hB_sv1.2 6 0 (x_78.toNatClampNeg) (show (600 : Nat) ∉ _ from by decide))))); rw [show x_78.toNatClampNeg = 200 * y1_0.toNatClampNeg + y.toNatClampNeg by omega] at h9; exact h9))) (by omega) hM hS (lv_sub hl [0, 3, 4, 5] rfl)
            · have ic_74 := gz_ne (rfl : x_73.toInt = x_73.toInt) (by decide : (0 : Int32).toInt = 0) c_74
              refine lv_aload_n hx hb dX10_dawn_103 rfl (lv_at hl 2 rfl) ?_
              refine lv_iload_n hx hb dX10_dawn_104 rfl (lv_at hl 1 rfl) ?_
              refine lv_iload hx hb dX10_dawn_105 (lv_at hl 0 rfl) ?_
              refine gs_calli (va_runV (As := [.int y1_0, .int x_66]) (rest := []) ⟨hx, hb, hml, hown, hts⟩ (m_byDrought l G cy sK sV ad H.size st_72 hB_st_72.1 y1_0 x_66 y1_0.toInt x_66.toInt rfl rfl rs bk ((congrArg Int32.toInt ((((congrFun (congrFun (congrFun est_72 0) 0) 28).trans (congrFun (congrFun (gU_k (by decide)) 0) 28)).trans (((congrFun (congrFun (congrFun est_69 0) 0) 28).trans (congrFun (congrFun (gU_k (by decide)) 0) 28)).trans (hB_sv1.2 0 0 28 (show (28 : Nat) ∉ _ from by decide)))))).trans hbk) ((congrArg Int32.toInt ((((congrFun (congrFun (congrFun est_72 0) 0) 29).trans (congrFun (congrFun (gU_k (by decide)) 0) 29)).trans (((congrFun (congrFun (congrFun est_69 0) 0) 29).trans (congrFun (congrFun (gU_k (by decide)) 0) 29)).trans (hB_sv1.2 0 0 29 (show (29 : Nat) ∉ _ from by decide)))))).trans hru) (LM.all hLM (mA.trans (mA.trans (mA.trans mA.rf (mA.frame hB_sv1.2 (by decide))) (mA.upk est_69 (by decide))) (mA.upk est_72 (by decide))))) ⟨(gz_cb (n := 2) hts gm_1181 gm_12 gm_1184 ⟨by decide +kernel, by decide +kernel, by decide +kernel⟩ ⟨Nat.le_of_ble_eq_true rfl, Nat.le_of_ble_eq_true rfl⟩), hts _ gm_1183, hts _ gs_49⟩ (gs_preV hK hov hE hI hM hm hS hA 0 0 (by decide) rfl rfl) rfl rfl hl.1 rfl (lv_room (Nat.le_of_ble_eq_true rfl)) dX10_dawn_107 ⟨Nat.le_of_ble_eq_true rfl, Nat.le_of_ble_eq_true rfl⟩) hm hS hA (fun r_82 st_82 H locs hw_82 hM hS => ?_)
              obtain ⟨n_82, hw_82⟩ := hw_82
              have n_82 := gBN.nil n_82
              subst n_82
              have hw_82_0 := hw_82
              refine lv_goto (tgt := 114) hx hb dX10_dawn_110 (by decide) ?_
              refine lv_istore (lv' := [(5, .int r_82), (4, .int x_66), (3, .int y1_0), (0, .ref (ad 0 0)), (1, .int x), (2, .int y)]) hx hb dX10_dawn_114 hl (by decide) rfl (fun ls hl => ?_)
              refine lv_aload_n hx hb dX10_dawn_116 rfl (lv_at hl 3 rfl) ?_
              refine gs_get (C := RX10) (T := TX10) (N := 59) hx hb hts inX10 hown hK hM 0 0 52 (by decide) rfl rfl (by decide) (hts _ gm_949) (fun _ h9 => h9) rfl dX10_dawn_117 ?_
              refine lv_bipush (v := 6) hx hb dX10_dawn_120 (by decide) ?_
              refine lv_iload_n hx hb dX10_dawn_122 rfl (lv_at hl 4 rfl) ?_
              refine lv_imul hx hb dX10_dawn_123 ?_
              refine lv_topi (fun x_83 ex_83 => ?_)
              try have tx_83 : x_83.toInt = 6 * x.toInt := by rw [ex_83]; exact gz_mulI (x := 6) (y := x.toInt) (by decide) rfl (by omega) (by omega)
              refine lv_iload_n hx hb dX10_dawn_124 rfl (lv_at hl 2 rfl) ?_
              refine lv_iadd hx hb dX10_dawn_125 ?_
              refine lv_topi (fun x_84 ex_84 => ?_)
              try have tx_84 : x_84.toInt = x_83.toInt + y1_0.toInt := by rw [ex_84]; exact gz_addI (x := x_83.toInt) (y := y1_0.toInt) rfl rfl (by omega) (by omega)
              refine lv_iload hx hb dX10_dawn_126 (lv_at hl 0 rfl) ?_
              refine lv_if_lt (tgt := 136) hx hb dX10_dawn_128 (by decide) (fun c_85 => ?_) (fun c_85 => ?_)
              · have ic_85 := gz_lt (rfl : r_82.toInt = r_82.toInt) (by decide : (0 : Int32).toInt = 0) c_85
                refine lv_aload_n hx hb dX10_dawn_136 rfl (lv_at hl 3 rfl) ?_
                refine gs_get (C := RX10) (T := TX10) (N := 59) hx hb hts inX10 hown hK hM 0 0 6 (by decide) rfl rfl (by decide) (hts _ gm_903) (fun _ h9 => h9) rfl dX10_dawn_137 ?_
                refine lv_sipush (v := 200) hx hb dX10_dawn_140 (by decide) ?_
                refine lv_iload_n hx hb dX10_dawn_143 rfl (lv_at hl 2 rfl) ?_
                refine lv_imul hx hb dX10_dawn_144 ?_
                refine lv_topi (fun x_86 ex_86 => ?_)
                try have tx_86 : x_86.toInt = 200 * y1_0.toInt := by rw [ex_86]; exact gz_mulI (x := 200) (y := y1_0.toInt) (by decide) rfl (by omega) (by omega)
                refine lv_iload_n hx hb dX10_dawn_145 rfl (lv_at hl 5 rfl) ?_
                refine lv_iadd hx hb dX10_dawn_146 ?_
                refine lv_topi (fun x_87 ex_87 => ?_)
                try have tx_87 : x_87.toInt = x_86.toInt + y.toInt := by rw [ex_87]; exact gz_addI (x := x_86.toInt) (y := y.toInt) rfl rfl (by omega) (by omega)
                refine gs_iald hx hb hK hM 6 0 (by decide) rfl (vp_in_iff.mpr ⟨by omega, by omega⟩) dX10_dawn_147 ?_
                refine lv_topi (fun x_88 ex_88 => ?_)
                have qx_88 : x_88.toInt = (st_72 6 0 (x_87.toNatClampNeg)).toInt := congrArg Int32.toInt ex_88
                have rx_88 : x_88.toInt = ((st 6 0 (x_87.toNatClampNeg)) : Int32).toInt := by rw [ex_88]; exact congrArg Int32.toInt ((((congrFun (congrFun (congrFun est_72 6) 0) (x_87.toNatClampNeg)).trans (congrFun (congrFun (gU_k (by decide)) 0) (x_87.toNatClampNeg))).trans (((congrFun (congrFun (congrFun est_69 6) 0) (x_87.toNatClampNeg)).trans (congrFun (congrFun (gU_k (by decide)) 0) (x_87.toNatClampNeg))).trans (hB_sv1.2 6 0 (x_87.toNatClampNeg) (show (600 : Nat) ∉ _ from by decide)))))
                refine gs_iast hx hb hK hI hm hM hS 36 0 (by decide) (fun _ => rfl) (vp_in_iff.mpr ⟨by omega, by omega⟩) dX10_dawn_148 (fun st_89 H locs est_89 hM hS => ?_)
                have hB_st_89 : gBN bM kM [2900, 3500, 3600] st st_89 := by rw [est_89]; exact hB_st_72.up (show (3600 : Nat) ∈ _ from by decide) (gi_lo _) (gi_hi _)
                obtain ⟨x_90, ex_90⟩ : ∃ y : Int32, y = y1_0 + 1 := ⟨_, rfl⟩
                try have tx_90 : x_90.toInt = y1_0.toInt + 1 := by rw [ex_90]; exact gz_addP (x := y1_0.toInt) (y := 1) rfl (by decide) (by omega) (by omega)
                refine lv_iinc (v := (x_90)) (lv' := [(3, .int x_90), (5, .int r_82), (4, .int x_66), (0, .ref (ad 0 0)), (1, .int x), (2, .int y)]) hx hb dX10_dawn_149 hl (k := 2) rfl (by rw [ex_90]; rfl) (by decide) rfl (fun ls hl => ?_)
                refine lv_goto (tgt := 2) hx hb dX10_dawn_152 (by decide) ?_
                exact ih_1 st_89 (x_90 : Int32) H _ ls (by omega) hB_st_89 (by omega) (dwM.step (v := x_66) (c := x_88) (i := x_68) hv1_1 (by omega) (by omega) (by omega) (by have c_x_68 := gs_cl (x := x_68) (by omega); have c_x := gs_cl (x := x) (by omega); have c_y1_0 := gs_cl (x := y1_0) (by omega); omega) (by have c_x_68 := gs_cl (x := x_68) (by omega); have c_x := gs_cl (x := x) (by omega); have c_y1_0 := gs_cl (x := y1_0) (by omega); rw [show st_89 29 0 = (upd (sv1 29 0) (x_68.toNatClampNeg) (x_66 : Int32)) from ((congrFun (congrFun est_89 29) 0).trans ((congrFun (gU_k (by decide)) 0).trans ((congrFun (congrFun est_72 29) 0).trans ((congrFun (gU_k (by decide)) 0).trans ((congrFun (congrFun est_69 29) 0).trans ((gU_at _ _ _ _ _).trans (congrArg (fun f9 => upd f9 (x_68.toNatClampNeg) (x_66 : Int32)) rfl))))))), show x_68.toNatClampNeg = 6 * x.toNatClampNeg + y1_0.toNatClampNeg by omega]) (by have c_x_71 := gs_cl (x := x_71) (by omega); have c_x := gs_cl (x := x) (by omega); have c_y1_0 := gs_cl (x := y1_0) (by omega); rw [show st_89 35 0 = (upd (sv1 35 0) (x_71.toNatClampNeg) (x_66 : Int32)) from ((congrFun (congrFun est_89 35) 0).trans ((congrFun (gU_k (by decide)) 0).trans ((congrFun (congrFun est_72 35) 0).trans ((gU_at _ _ _ _ _).trans (congrArg (fun f9 => upd f9 (x_71.toNatClampNeg) (x_66 : Int32)) ((congrFun (congrFun est_69 35) 0).trans ((congrFun (gU_k (by decide)) 0).trans rfl))))))), show x_71.toNatClampNeg = 6 * x.toNatClampNeg + y1_0.toNatClampNeg by omega]) (by have c_x_84 := gs_cl (x := x_84) (by omega); have c_x := gs_cl (x := x) (by omega); have c_y1_0 := gs_cl (x := y1_0) (by omega); rw [show st_89 36 0 = (upd (sv1 36 0) (x_84.toNatClampNeg) (x_88 : Int32)) from ((congrFun (congrFun est_89 36) 0).trans ((gU_at _ _ _ _ _).trans (congrArg (fun f9 => upd f9 (x_84.toNatClampNeg) (x_88 : Int32)) ((congrFun (congrFun est_72 36) 0).trans ((congrFun (gU_k (by decide)) 0).trans ((congrFun (congrFun est_69 36) 0).trans ((congrFun (gU_k (by decide)) 0).trans rfl))))))), show x_84.toNatClampNeg = 6 * x.toNatClampNeg + y1_0.toNatClampNeg by omega]) (by unfold dwL; rw [if_neg (by omega)]; exact gw_hi (s := x_35) (by rw [ex_35, hl9, show x_34 = _ from (ex_34.trans (hB_sv1.2 3 0 (y1_0.toNatClampNeg) (show (300 : Nat) ∉ _ from by decide)))]) (by have h9 := congrArg Int32.toInt (ex_36.trans (hB_sv1.2 2 0 (y1_0.toNatClampNeg) (show (200 : Nat) ∉ _ from by decide))); omega) (ex_66.trans (hB_sv1.2 2 0 (y1_0.toNatClampNeg) (show (200 : Nat) ∉ _ from by decide)))) (by have hv9 : x_66 = dwL st x.toNatClampNeg y1_0.toNatClampNeg := (by unfold dwL; rw [if_neg (by omega)]; exact gw_hi (s := x_35) (by rw [ex_35, hl9, show x_34 = _ from (ex_34.trans (hB_sv1.2 3 0 (y1_0.toNatClampNeg) (show (300 : Nat) ∉ _ from by decide)))]) (by have h9 := congrArg Int32.toInt (ex_36.trans (hB_sv1.2 2 0 (y1_0.toNatClampNeg) (show (200 : Nat) ∉ _ from by decide))); omega) (ex_66.trans (hB_sv1.2 2 0 (y1_0.toNatClampNeg) (show (200 : Nat) ∉ _ from by decide)))); have c_z := gs_cl (x := y1_0) (by omega); rw [← hv9, c_z]; have h8 := hw_82_0; rw [if_neg (fun h7 => by have h6 := h7.2; omega)]; exact (by have c_x_87 := gs_cl (x := x_87) (by omega); have c_y := gs_cl (x := y) (by omega); have c_y1_0 := gs_cl (x := y1_0) (by omega); have h9 := congrArg Int32.toInt (ex_88.trans (((congrFun (congrFun (congrFun est_72 6) 0) (x_87.toNatClampNeg)).trans (congrFun (congrFun (gU_k (by decide)) 0) (x_87.toNatClampNeg))).trans (((congrFun (congrFun (congrFun est_69 6) 0) (x_87.toNatClampNeg)).trans (congrFun (congrFun (gU_k (by decide)) 0) (x_87.toNatClampNeg))).trans (hB_sv1.2 6 0 (x_87.toNatClampNeg) (show (600 : Nat) ∉ _ from by decide))))); rw [show x_87.toNatClampNeg = 200 * y1_0.toNatClampNeg + y.toNatClampNeg by omega] at h9; exact h9))) (by omega) hM hS (lv_sub hl [0, 3, 4, 5] rfl)
              · have ic_85 := gz_nlt (rfl : r_82.toInt = r_82.toInt) (by decide : (0 : Int32).toInt = 0) c_85
                refine lv_iload hx hb dX10_dawn_131 (lv_at hl 0 rfl) ?_
                refine lv_goto (tgt := 148) hx hb dX10_dawn_133 (by decide) ?_
                refine gs_iast hx hb hK hI hm hM hS 36 0 (by decide) (fun _ => rfl) (vp_in_iff.mpr ⟨by omega, by omega⟩) dX10_dawn_148 (fun st_91 H locs est_91 hM hS => ?_)
                have hB_st_91 : gBN bM kM [2900, 3500, 3600] st st_91 := by rw [est_91]; exact hB_st_72.up (show (3600 : Nat) ∈ _ from by decide) (gi_lo _) (gi_hi _)
                obtain ⟨x_92, ex_92⟩ : ∃ y : Int32, y = y1_0 + 1 := ⟨_, rfl⟩
                try have tx_92 : x_92.toInt = y1_0.toInt + 1 := by rw [ex_92]; exact gz_addP (x := y1_0.toInt) (y := 1) rfl (by decide) (by omega) (by omega)
                refine lv_iinc (v := (x_92)) (lv' := [(3, .int x_92), (5, .int r_82), (4, .int x_66), (0, .ref (ad 0 0)), (1, .int x), (2, .int y)]) hx hb dX10_dawn_149 hl (k := 2) rfl (by rw [ex_92]; rfl) (by decide) rfl (fun ls hl => ?_)
                refine lv_goto (tgt := 2) hx hb dX10_dawn_152 (by decide) ?_
                exact ih_1 st_91 (x_92 : Int32) H _ ls (by omega) hB_st_91 (by omega) (dwM.step (v := x_66) (c := r_82) (i := x_68) hv1_1 (by omega) (by omega) (by omega) (by have c_x_68 := gs_cl (x := x_68) (by omega); have c_x := gs_cl (x := x) (by omega); have c_y1_0 := gs_cl (x := y1_0) (by omega); omega) (by have c_x_68 := gs_cl (x := x_68) (by omega); have c_x := gs_cl (x := x) (by omega); have c_y1_0 := gs_cl (x := y1_0) (by omega); rw [show st_91 29 0 = (upd (sv1 29 0) (x_68.toNatClampNeg) (x_66 : Int32)) from ((congrFun (congrFun est_91 29) 0).trans ((congrFun (gU_k (by decide)) 0).trans ((congrFun (congrFun est_72 29) 0).trans ((congrFun (gU_k (by decide)) 0).trans ((congrFun (congrFun est_69 29) 0).trans ((gU_at _ _ _ _ _).trans (congrArg (fun f9 => upd f9 (x_68.toNatClampNeg) (x_66 : Int32)) rfl))))))), show x_68.toNatClampNeg = 6 * x.toNatClampNeg + y1_0.toNatClampNeg by omega]) (by have c_x_71 := gs_cl (x := x_71) (by omega); have c_x := gs_cl (x := x) (by omega); have c_y1_0 := gs_cl (x := y1_0) (by omega); rw [show st_91 35 0 = (upd (sv1 35 0) (x_71.toNatClampNeg) (x_66 : Int32)) from ((congrFun (congrFun est_91 35) 0).trans ((congrFun (gU_k (by decide)) 0).trans ((congrFun (congrFun est_72 35) 0).trans ((gU_at _ _ _ _ _).trans (congrArg (fun f9 => upd f9 (x_71.toNatClampNeg) (x_66 : Int32)) ((congrFun (congrFun est_69 35) 0).trans ((congrFun (gU_k (by decide)) 0).trans rfl))))))), show x_71.toNatClampNeg = 6 * x.toNatClampNeg + y1_0.toNatClampNeg by omega]) (by have c_x_84 := gs_cl (x := x_84) (by omega); have c_x := gs_cl (x := x) (by omega); have c_y1_0 := gs_cl (x := y1_0) (by omega); rw [show st_91 36 0 = (upd (sv1 36 0) (x_84.toNatClampNeg) (r_82 : Int32)) from ((congrFun (congrFun est_91 36) 0).trans ((gU_at _ _ _ _ _).trans (congrArg (fun f9 => upd f9 (x_84.toNatClampNeg) (r_82 : Int32)) ((congrFun (congrFun est_72 36) 0).trans ((congrFun (gU_k (by decide)) 0).trans ((congrFun (congrFun est_69 36) 0).trans ((congrFun (gU_k (by decide)) 0).trans rfl))))))), show x_84.toNatClampNeg = 6 * x.toNatClampNeg + y1_0.toNatClampNeg by omega]) (by unfold dwL; rw [if_neg (by omega)]; exact gw_hi (s := x_35) (by rw [ex_35, hl9, show x_34 = _ from (ex_34.trans (hB_sv1.2 3 0 (y1_0.toNatClampNeg) (show (300 : Nat) ∉ _ from by decide)))]) (by have h9 := congrArg Int32.toInt (ex_36.trans (hB_sv1.2 2 0 (y1_0.toNatClampNeg) (show (200 : Nat) ∉ _ from by decide))); omega) (ex_66.trans (hB_sv1.2 2 0 (y1_0.toNatClampNeg) (show (200 : Nat) ∉ _ from by decide)))) (by have hv9 : x_66 = dwL st x.toNatClampNeg y1_0.toNatClampNeg := (by unfold dwL; rw [if_neg (by omega)]; exact gw_hi (s := x_35) (by rw [ex_35, hl9, show x_34 = _ from (ex_34.trans (hB_sv1.2 3 0 (y1_0.toNatClampNeg) (show (300 : Nat) ∉ _ from by decide)))]) (by have h9 := congrArg Int32.toInt (ex_36.trans (hB_sv1.2 2 0 (y1_0.toNatClampNeg) (show (200 : Nat) ∉ _ from by decide))); omega) (ex_66.trans (hB_sv1.2 2 0 (y1_0.toNatClampNeg) (show (200 : Nat) ∉ _ from by decide)))); have c_z := gs_cl (x := y1_0) (by omega); rw [← hv9, c_z]; have h8 := hw_82_0; rw [if_pos ⟨by omega, by omega⟩]; exact h8)) (by omega) hM hS (lv_sub hl [0, 3, 4, 5] rfl)
  exact lp1 ((6 - ((0 : Int32) : Int32).toInt).toNat + 1) st ((0 : Int32) : Int32) H _ ls (Nat.lt_succ_self _) hB_st (by have hl0 : (0 : Int32).toInt = 0 := (by decide); omega) (dwM.nil (by decide)) (by have hl0 : (0 : Int32).toInt = 0 := (by decide); omega) hM hS (lv_sub hl [0, 1, 2, 3] rfl)
