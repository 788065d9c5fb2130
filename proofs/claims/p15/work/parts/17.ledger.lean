theorem gm_8 : (Jvm.Cond.initialized "WellCourt$Ledger") ∈ gz_T := gz_at 8 (by decide +kernel) rfl
theorem gm_141 : (Jvm.Cond.fieldLink "WellCourt$Ledger" (11 : Nat) "WellCourt$Ledger" "facts" "[[I") ∈ gz_T := gz_at 141 (by decide +kernel) rfl
theorem gm_160 : (Jvm.Cond.fieldLink "WellCourt$Flock" (15 : Nat) "WellCourt$Flock" "need" "[I") ∈ gz_T := gz_at 160 (by decide +kernel) rfl
theorem gm_162 : (Jvm.Cond.fieldLink "WellCourt$Flock" (18 : Nat) "WellCourt$Flock" "lasts" "[I") ∈ gz_T := gz_at 162 (by decide +kernel) rfl
theorem gm_647 : (Jvm.Cond.methodLink "WellCourt$Ledger" (20 : Nat) ({ cls := "WellCourt$Ledger", name := "isOf", desc := "(IIZ)Z" } : Jvm.MethodName)) ∈ gz_T := gz_at 647 (by decide +kernel) rfl
theorem gm_649 : (Jvm.Cond.instanceMethod ({ cls := "WellCourt$Ledger", name := "isOf", desc := "(IIZ)Z" } : Jvm.MethodName)) ∈ gz_T := gz_at 649 (by decide +kernel) rfl
theorem gm_650 : (Jvm.Cond.code ({ cls := "WellCourt$Ledger", name := "isOf", desc := "(IIZ)Z" } : Jvm.MethodName) prog_7_method_8_code (4 : Nat) (Option.some Jvm.ClassFile.FieldType.boolean)) ∈ gz_T := gz_at 650 (by decide +kernel) rfl
theorem gm_680 : (Jvm.Cond.methodLink "WellCourt$Ledger" (28 : Nat) ({ cls := "WellCourt$Ledger", name := "isKnown", desc := "(II)Z" } : Jvm.MethodName)) ∈ gz_T := gz_at 680 (by decide +kernel) rfl
theorem gm_682 : (Jvm.Cond.instanceMethod ({ cls := "WellCourt$Ledger", name := "isKnown", desc := "(II)Z" } : Jvm.MethodName)) ∈ gz_T := gz_at 682 (by decide +kernel) rfl
theorem gm_683 : (Jvm.Cond.code ({ cls := "WellCourt$Ledger", name := "isKnown", desc := "(II)Z" } : Jvm.MethodName) prog_7_method_7_code (4 : Nat) (Option.some Jvm.ClassFile.FieldType.boolean)) ∈ gz_T := gz_at 683 (by decide +kernel) rfl
theorem gn_675 : (Jvm.Cond.methodLinkNest "WellCourt$Ledger" (24 : Nat) ({ cls := "WellCourt", name := "isWithin", desc := "(III)Z" } : Jvm.MethodName) "WellCourt") ∈ gzN := gz_nest 675 (by decide +kernel) rfl
theorem gs_20 : (Jvm.Cond.selects "WellCourt$Ledger" ({ cls := "WellCourt$Ledger", name := "isOf", desc := "(IIZ)Z" } : Jvm.MethodName) ({ cls := "WellCourt$Ledger", name := "isOf", desc := "(IIZ)Z" } : Jvm.MethodName)) ∈ gz_T := gz_sel 20 (by decide +kernel) rfl
theorem gs_21 : (Jvm.Cond.selects "WellCourt$Ledger" ({ cls := "WellCourt$Ledger", name := "isKnown", desc := "(II)Z" } : Jvm.MethodName) ({ cls := "WellCourt$Ledger", name := "isKnown", desc := "(II)Z" } : Jvm.MethodName)) ∈ gz_T := gz_sel 21 (by decide +kernel) rfl
theorem dX2_put_0 : decode cX2_put 0 = .ok (.aload_n 0, 1) := by decide +kernel
theorem dX2_put_1 : decode cX2_put 1 = .ok (.getfield 9, 3) := by decide +kernel
theorem dX2_put_4 : decode cX2_put 4 = .ok (.iload_n 1, 1) := by decide +kernel
theorem dX2_put_5 : decode cX2_put 5 = .ok (.iload_n 2, 1) := by decide +kernel
theorem dX2_put_6 : decode cX2_put 6 = .ok (.iastore, 1) := by decide +kernel
theorem dX2_put_7 : decode cX2_put 7 = .ok (.aload_n 0, 1) := by decide +kernel
theorem dX2_put_8 : decode cX2_put 8 = .ok (.getfield 15, 3) := by decide +kernel
theorem dX2_put_11 : decode cX2_put 11 = .ok (.iload_n 1, 1) := by decide +kernel
theorem dX2_put_12 : decode cX2_put 12 = .ok (.iload_n 3, 1) := by decide +kernel
theorem dX2_put_13 : decode cX2_put 13 = .ok (.iastore, 1) := by decide +kernel
theorem dX2_put_14 : decode cX2_put 14 = .ok (.aload_n 0, 1) := by decide +kernel
theorem dX2_put_15 : decode cX2_put 15 = .ok (.getfield 18, 3) := by decide +kernel
theorem dX2_put_18 : decode cX2_put 18 = .ok (.iload_n 1, 1) := by decide +kernel
theorem dX2_put_19 : decode cX2_put 19 = .ok (.iload 4, 2) := by decide +kernel
theorem dX2_put_21 : decode cX2_put 21 = .ok (.iastore, 1) := by decide +kernel
theorem dX2_put_22 : decode cX2_put 22 = .ok (.return_, 1) := by decide +kernel
theorem dX5_enter_0 : decode cX5_enter 0 = .ok (.aload_n 0, 1) := by decide +kernel
theorem dX5_enter_1 : decode cX5_enter 1 = .ok (.getfield 16, 3) := by decide +kernel
theorem dX5_enter_4 : decode cX5_enter 4 = .ok (.sipush 300, 3) := by decide +kernel
theorem dX5_enter_7 : decode cX5_enter 7 = .ok (.if_icmp .lt 4, 3) := by decide +kernel
theorem dX5_enter_10 : decode cX5_enter 10 = .ok (.return_, 1) := by decide +kernel
theorem dX5_enter_11 : decode cX5_enter 11 = .ok (.aload_n 0, 1) := by decide +kernel
theorem dX5_enter_12 : decode cX5_enter 12 = .ok (.getfield 11, 3) := by decide +kernel
theorem dX5_enter_15 : decode cX5_enter 15 = .ok (.iconst 0, 1) := by decide +kernel
theorem dX5_enter_16 : decode cX5_enter 16 = .ok (.aaload, 1) := by decide +kernel
theorem dX5_enter_17 : decode cX5_enter 17 = .ok (.aload_n 0, 1) := by decide +kernel
theorem dX5_enter_18 : decode cX5_enter 18 = .ok (.getfield 16, 3) := by decide +kernel
theorem dX5_enter_21 : decode cX5_enter 21 = .ok (.iload_n 1, 1) := by decide +kernel
theorem dX5_enter_22 : decode cX5_enter 22 = .ok (.iastore, 1) := by decide +kernel
theorem dX5_enter_23 : decode cX5_enter 23 = .ok (.aload_n 0, 1) := by decide +kernel
theorem dX5_enter_24 : decode cX5_enter 24 = .ok (.getfield 11, 3) := by decide +kernel
theorem dX5_enter_27 : decode cX5_enter 27 = .ok (.iconst 1, 1) := by decide +kernel
theorem dX5_enter_28 : decode cX5_enter 28 = .ok (.aaload, 1) := by decide +kernel
theorem dX5_enter_29 : decode cX5_enter 29 = .ok (.aload_n 0, 1) := by decide +kernel
theorem dX5_enter_30 : decode cX5_enter 30 = .ok (.getfield 16, 3) := by decide +kernel
theorem dX5_enter_33 : decode cX5_enter 33 = .ok (.iload_n 2, 1) := by decide +kernel
theorem dX5_enter_34 : decode cX5_enter 34 = .ok (.iastore, 1) := by decide +kernel
theorem dX5_enter_35 : decode cX5_enter 35 = .ok (.aload_n 0, 1) := by decide +kernel
theorem dX5_enter_36 : decode cX5_enter 36 = .ok (.getfield 11, 3) := by decide +kernel
theorem dX5_enter_39 : decode cX5_enter 39 = .ok (.iconst 2, 1) := by decide +kernel
theorem dX5_enter_40 : decode cX5_enter 40 = .ok (.aaload, 1) := by decide +kernel
theorem dX5_enter_41 : decode cX5_enter 41 = .ok (.aload_n 0, 1) := by decide +kernel
theorem dX5_enter_42 : decode cX5_enter 42 = .ok (.getfield 16, 3) := by decide +kernel
theorem dX5_enter_45 : decode cX5_enter 45 = .ok (.iload_n 3, 1) := by decide +kernel
theorem dX5_enter_46 : decode cX5_enter 46 = .ok (.iastore, 1) := by decide +kernel
theorem dX5_enter_47 : decode cX5_enter 47 = .ok (.aload_n 0, 1) := by decide +kernel
theorem dX5_enter_48 : decode cX5_enter 48 = .ok (.getfield 11, 3) := by decide +kernel
theorem dX5_enter_51 : decode cX5_enter 51 = .ok (.iconst 3, 1) := by decide +kernel
theorem dX5_enter_52 : decode cX5_enter 52 = .ok (.aaload, 1) := by decide +kernel
theorem dX5_enter_53 : decode cX5_enter 53 = .ok (.aload_n 0, 1) := by decide +kernel
theorem dX5_enter_54 : decode cX5_enter 54 = .ok (.getfield 16, 3) := by decide +kernel
theorem dX5_enter_57 : decode cX5_enter 57 = .ok (.iload 4, 2) := by decide +kernel
theorem dX5_enter_59 : decode cX5_enter 59 = .ok (.iastore, 1) := by decide +kernel
theorem dX5_enter_60 : decode cX5_enter 60 = .ok (.aload_n 0, 1) := by decide +kernel
theorem dX5_enter_61 : decode cX5_enter 61 = .ok (.getfield 11, 3) := by decide +kernel
theorem dX5_enter_64 : decode cX5_enter 64 = .ok (.iconst 4, 1) := by decide +kernel
theorem dX5_enter_65 : decode cX5_enter 65 = .ok (.aaload, 1) := by decide +kernel
theorem dX5_enter_66 : decode cX5_enter 66 = .ok (.aload_n 0, 1) := by decide +kernel
theorem dX5_enter_67 : decode cX5_enter 67 = .ok (.getfield 16, 3) := by decide +kernel
theorem dX5_enter_70 : decode cX5_enter 70 = .ok (.iload 5, 2) := by decide +kernel
theorem dX5_enter_72 : decode cX5_enter 72 = .ok (.ifCond .eq 7, 3) := by decide +kernel
theorem dX5_enter_75 : decode cX5_enter 75 = .ok (.iconst 1, 1) := by decide +kernel
theorem dX5_enter_76 : decode cX5_enter 76 = .ok (.goto 4, 3) := by decide +kernel
theorem dX5_enter_79 : decode cX5_enter 79 = .ok (.iconst 0, 1) := by decide +kernel
theorem dX5_enter_80 : decode cX5_enter 80 = .ok (.iastore, 1) := by decide +kernel
theorem dX5_enter_81 : decode cX5_enter 81 = .ok (.aload_n 0, 1) := by decide +kernel
theorem dX5_enter_82 : decode cX5_enter 82 = .ok (.getfield 11, 3) := by decide +kernel
theorem dX5_enter_85 : decode cX5_enter 85 = .ok (.iconst 5, 1) := by decide +kernel
theorem dX5_enter_86 : decode cX5_enter 86 = .ok (.aaload, 1) := by decide +kernel
theorem dX5_enter_87 : decode cX5_enter 87 = .ok (.aload_n 0, 1) := by decide +kernel
theorem dX5_enter_88 : decode cX5_enter 88 = .ok (.getfield 16, 3) := by decide +kernel
theorem dX5_enter_91 : decode cX5_enter 91 = .ok (.iload 5, 2) := by decide +kernel
theorem dX5_enter_93 : decode cX5_enter 93 = .ok (.ifCond .eq 7, 3) := by decide +kernel
theorem dX5_enter_96 : decode cX5_enter 96 = .ok (.iload_n 1, 1) := by decide +kernel
theorem dX5_enter_97 : decode cX5_enter 97 = .ok (.goto 4, 3) := by decide +kernel
theorem dX5_enter_100 : decode cX5_enter 100 = .ok (.iconst (-1), 1) := by decide +kernel
theorem dX5_enter_101 : decode cX5_enter 101 = .ok (.iastore, 1) := by decide +kernel
theorem dX5_enter_102 : decode cX5_enter 102 = .ok (.aload_n 0, 1) := by decide +kernel
theorem dX5_enter_103 : decode cX5_enter 103 = .ok (.dup, 1) := by decide +kernel
theorem dX5_enter_104 : decode cX5_enter 104 = .ok (.getfield 16, 3) := by decide +kernel
theorem dX5_enter_107 : decode cX5_enter 107 = .ok (.iconst 1, 1) := by decide +kernel
theorem dX5_enter_108 : decode cX5_enter 108 = .ok (.iadd, 1) := by decide +kernel
theorem dX5_enter_109 : decode cX5_enter 109 = .ok (.putfield 16, 3) := by decide +kernel
theorem dX5_enter_112 : decode cX5_enter 112 = .ok (.return_, 1) := by decide +kernel
theorem dX5_isKnown_0 : decode cX5_isKnown 0 = .ok (.aload_n 0, 1) := by decide +kernel
theorem dX5_isKnown_1 : decode cX5_isKnown 1 = .ok (.getfield 11, 3) := by decide +kernel
theorem dX5_isKnown_4 : decode cX5_isKnown 4 = .ok (.iconst 5, 1) := by decide +kernel
theorem dX5_isKnown_5 : decode cX5_isKnown 5 = .ok (.aaload, 1) := by decide +kernel
theorem dX5_isKnown_6 : decode cX5_isKnown 6 = .ok (.iload_n 1, 1) := by decide +kernel
theorem dX5_isKnown_7 : decode cX5_isKnown 7 = .ok (.iaload, 1) := by decide +kernel
theorem dX5_isKnown_8 : decode cX5_isKnown 8 = .ok (.istore_n 3, 1) := by decide +kernel
theorem dX5_isKnown_9 : decode cX5_isKnown 9 = .ok (.iload_n 3, 1) := by decide +kernel
theorem dX5_isKnown_10 : decode cX5_isKnown 10 = .ok (.iconst (-1), 1) := by decide +kernel
theorem dX5_isKnown_11 : decode cX5_isKnown 11 = .ok (.if_icmp .eq 12, 3) := by decide +kernel
theorem dX5_isKnown_14 : decode cX5_isKnown 14 = .ok (.iload_n 3, 1) := by decide +kernel
theorem dX5_isKnown_15 : decode cX5_isKnown 15 = .ok (.iload_n 2, 1) := by decide +kernel
theorem dX5_isKnown_16 : decode cX5_isKnown 16 = .ok (.if_icmp .gt 7, 3) := by decide +kernel
theorem dX5_isKnown_19 : decode cX5_isKnown 19 = .ok (.iconst 1, 1) := by decide +kernel
theorem dX5_isKnown_20 : decode cX5_isKnown 20 = .ok (.goto 4, 3) := by decide +kernel
theorem dX5_isKnown_23 : decode cX5_isKnown 23 = .ok (.iconst 0, 1) := by decide +kernel
theorem dX5_isKnown_24 : decode cX5_isKnown 24 = .ok (.ireturn, 1) := by decide +kernel
theorem dX5_isOf_0 : decode cX5_isOf 0 = .ok (.aload_n 0, 1) := by decide +kernel
theorem dX5_isOf_1 : decode cX5_isOf 1 = .ok (.getfield 11, 3) := by decide +kernel
theorem dX5_isOf_4 : decode cX5_isOf 4 = .ok (.iconst 2, 1) := by decide +kernel
theorem dX5_isOf_5 : decode cX5_isOf 5 = .ok (.aaload, 1) := by decide +kernel
theorem dX5_isOf_6 : decode cX5_isOf 6 = .ok (.iload_n 1, 1) := by decide +kernel
theorem dX5_isOf_7 : decode cX5_isOf 7 = .ok (.iaload, 1) := by decide +kernel
theorem dX5_isOf_8 : decode cX5_isOf 8 = .ok (.iload_n 2, 1) := by decide +kernel
theorem dX5_isOf_9 : decode cX5_isOf 9 = .ok (.if_icmp .ne 27, 3) := by decide +kernel
theorem dX5_isOf_12 : decode cX5_isOf 12 = .ok (.aload_n 0, 1) := by decide +kernel
theorem dX5_isOf_13 : decode cX5_isOf 13 = .ok (.getfield 11, 3) := by decide +kernel
theorem dX5_isOf_16 : decode cX5_isOf 16 = .ok (.iconst 4, 1) := by decide +kernel
theorem dX5_isOf_17 : decode cX5_isOf 17 = .ok (.aaload, 1) := by decide +kernel
theorem dX5_isOf_18 : decode cX5_isOf 18 = .ok (.iload_n 1, 1) := by decide +kernel
theorem dX5_isOf_19 : decode cX5_isOf 19 = .ok (.iaload, 1) := by decide +kernel
theorem dX5_isOf_20 : decode cX5_isOf 20 = .ok (.iload_n 3, 1) := by decide +kernel
theorem dX5_isOf_21 : decode cX5_isOf 21 = .ok (.ifCond .eq 7, 3) := by decide +kernel
theorem dX5_isOf_24 : decode cX5_isOf 24 = .ok (.iconst 1, 1) := by decide +kernel
theorem dX5_isOf_25 : decode cX5_isOf 25 = .ok (.goto 4, 3) := by decide +kernel
theorem dX5_isOf_28 : decode cX5_isOf 28 = .ok (.iconst 0, 1) := by decide +kernel
theorem dX5_isOf_29 : decode cX5_isOf 29 = .ok (.if_icmp .ne 7, 3) := by decide +kernel
theorem dX5_isOf_32 : decode cX5_isOf 32 = .ok (.iconst 1, 1) := by decide +kernel
theorem dX5_isOf_33 : decode cX5_isOf 33 = .ok (.goto 4, 3) := by decide +kernel
theorem dX5_isOf_36 : decode cX5_isOf 36 = .ok (.iconst 0, 1) := by decide +kernel
theorem dX5_isOf_37 : decode cX5_isOf 37 = .ok (.ireturn, 1) := by decide +kernel
theorem dX5_rightfulOn_0 : decode cX5_rightfulOn 0 = .ok (.iconst 0, 1) := by decide +kernel
theorem dX5_rightfulOn_1 : decode cX5_rightfulOn 1 = .ok (.istore 4, 2) := by decide +kernel
theorem dX5_rightfulOn_3 : decode cX5_rightfulOn 3 = .ok (.iconst 0, 1) := by decide +kernel
theorem dX5_rightfulOn_4 : decode cX5_rightfulOn 4 = .ok (.istore 5, 2) := by decide +kernel
theorem dX5_rightfulOn_6 : decode cX5_rightfulOn 6 = .ok (.iload 5, 2) := by decide +kernel
theorem dX5_rightfulOn_8 : decode cX5_rightfulOn 8 = .ok (.aload_n 0, 1) := by decide +kernel
theorem dX5_rightfulOn_9 : decode cX5_rightfulOn 9 = .ok (.getfield 16, 3) := by decide +kernel
theorem dX5_rightfulOn_12 : decode cX5_rightfulOn 12 = .ok (.if_icmp .ge 60, 3) := by decide +kernel
theorem dX5_rightfulOn_15 : decode cX5_rightfulOn 15 = .ok (.aload_n 0, 1) := by decide +kernel
theorem dX5_rightfulOn_16 : decode cX5_rightfulOn 16 = .ok (.getfield 11, 3) := by decide +kernel
theorem dX5_rightfulOn_19 : decode cX5_rightfulOn 19 = .ok (.iconst 0, 1) := by decide +kernel
theorem dX5_rightfulOn_20 : decode cX5_rightfulOn 20 = .ok (.aaload, 1) := by decide +kernel
theorem dX5_rightfulOn_21 : decode cX5_rightfulOn 21 = .ok (.iload 5, 2) := by decide +kernel
theorem dX5_rightfulOn_23 : decode cX5_rightfulOn 23 = .ok (.iaload, 1) := by decide +kernel
theorem dX5_rightfulOn_24 : decode cX5_rightfulOn 24 = .ok (.iload_n 1, 1) := by decide +kernel
theorem dX5_rightfulOn_25 : decode cX5_rightfulOn 25 = .ok (.if_icmp .ne 41, 3) := by decide +kernel
theorem dX5_rightfulOn_28 : decode cX5_rightfulOn 28 = .ok (.aload_n 0, 1) := by decide +kernel
theorem dX5_rightfulOn_29 : decode cX5_rightfulOn 29 = .ok (.getfield 11, 3) := by decide +kernel
theorem dX5_rightfulOn_32 : decode cX5_rightfulOn 32 = .ok (.iconst 1, 1) := by decide +kernel
theorem dX5_rightfulOn_33 : decode cX5_rightfulOn 33 = .ok (.aaload, 1) := by decide +kernel
theorem dX5_rightfulOn_34 : decode cX5_rightfulOn 34 = .ok (.iload 5, 2) := by decide +kernel
theorem dX5_rightfulOn_36 : decode cX5_rightfulOn 36 = .ok (.iaload, 1) := by decide +kernel
theorem dX5_rightfulOn_37 : decode cX5_rightfulOn 37 = .ok (.iload_n 2, 1) := by decide +kernel
theorem dX5_rightfulOn_38 : decode cX5_rightfulOn 38 = .ok (.if_icmp .ne 28, 3) := by decide +kernel
theorem dX5_rightfulOn_41 : decode cX5_rightfulOn 41 = .ok (.aload_n 0, 1) := by decide +kernel
theorem dX5_rightfulOn_42 : decode cX5_rightfulOn 42 = .ok (.iload 5, 2) := by decide +kernel
theorem dX5_rightfulOn_44 : decode cX5_rightfulOn 44 = .ok (.iload_n 3, 1) := by decide +kernel
theorem dX5_rightfulOn_45 : decode cX5_rightfulOn 45 = .ok (.iconst 1, 1) := by decide +kernel
theorem dX5_rightfulOn_46 : decode cX5_rightfulOn 46 = .ok (.invokevirtual 20, 3) := by decide +kernel
theorem dX5_rightfulOn_49 : decode cX5_rightfulOn 49 = .ok (.ifCond .eq 17, 3) := by decide +kernel
theorem dX5_rightfulOn_52 : decode cX5_rightfulOn 52 = .ok (.iload 4, 2) := by decide +kernel
theorem dX5_rightfulOn_54 : decode cX5_rightfulOn 54 = .ok (.aload_n 0, 1) := by decide +kernel
theorem dX5_rightfulOn_55 : decode cX5_rightfulOn 55 = .ok (.getfield 11, 3) := by decide +kernel
theorem dX5_rightfulOn_58 : decode cX5_rightfulOn 58 = .ok (.iconst 3, 1) := by decide +kernel
theorem dX5_rightfulOn_59 : decode cX5_rightfulOn 59 = .ok (.aaload, 1) := by decide +kernel
theorem dX5_rightfulOn_60 : decode cX5_rightfulOn 60 = .ok (.iload 5, 2) := by decide +kernel
theorem dX5_rightfulOn_62 : decode cX5_rightfulOn 62 = .ok (.iaload, 1) := by decide +kernel
theorem dX5_rightfulOn_63 : decode cX5_rightfulOn 63 = .ok (.iadd, 1) := by decide +kernel
theorem dX5_rightfulOn_64 : decode cX5_rightfulOn 64 = .ok (.istore 4, 2) := by decide +kernel
theorem dX5_rightfulOn_66 : decode cX5_rightfulOn 66 = .ok (.iinc 5 1, 3) := by decide +kernel
theorem dX5_rightfulOn_69 : decode cX5_rightfulOn 69 = .ok (.goto (-63), 3) := by decide +kernel
theorem dX5_rightfulOn_72 : decode cX5_rightfulOn 72 = .ok (.iload 4, 2) := by decide +kernel
theorem dX5_rightfulOn_74 : decode cX5_rightfulOn 74 = .ok (.ireturn, 1) := by decide +kernel
theorem dX5_sum_0 : decode cX5_sum 0 = .ok (.iconst 0, 1) := by decide +kernel
theorem dX5_sum_1 : decode cX5_sum 1 = .ok (.istore 5, 2) := by decide +kernel
theorem dX5_sum_3 : decode cX5_sum 3 = .ok (.iconst 0, 1) := by decide +kernel
theorem dX5_sum_4 : decode cX5_sum 4 = .ok (.istore 6, 2) := by decide +kernel
theorem dX5_sum_6 : decode cX5_sum 6 = .ok (.iload 6, 2) := by decide +kernel
theorem dX5_sum_8 : decode cX5_sum 8 = .ok (.aload_n 0, 1) := by decide +kernel
theorem dX5_sum_9 : decode cX5_sum 9 = .ok (.getfield 16, 3) := by decide +kernel
theorem dX5_sum_12 : decode cX5_sum 12 = .ok (.if_icmp .ge 52, 3) := by decide +kernel
theorem dX5_sum_15 : decode cX5_sum 15 = .ok (.aload_n 0, 1) := by decide +kernel
theorem dX5_sum_16 : decode cX5_sum 16 = .ok (.iload 6, 2) := by decide +kernel
theorem dX5_sum_18 : decode cX5_sum 18 = .ok (.iload_n 1, 1) := by decide +kernel
theorem dX5_sum_19 : decode cX5_sum 19 = .ok (.iload 4, 2) := by decide +kernel
theorem dX5_sum_21 : decode cX5_sum 21 = .ok (.invokevirtual 20, 3) := by decide +kernel
theorem dX5_sum_24 : decode cX5_sum 24 = .ok (.ifCond .eq 34, 3) := by decide +kernel
theorem dX5_sum_27 : decode cX5_sum 27 = .ok (.aload_n 0, 1) := by decide +kernel
theorem dX5_sum_28 : decode cX5_sum 28 = .ok (.getfield 11, 3) := by decide +kernel
theorem dX5_sum_31 : decode cX5_sum 31 = .ok (.iconst 0, 1) := by decide +kernel
theorem dX5_sum_32 : decode cX5_sum 32 = .ok (.aaload, 1) := by decide +kernel
theorem dX5_sum_33 : decode cX5_sum 33 = .ok (.iload 6, 2) := by decide +kernel
theorem dX5_sum_35 : decode cX5_sum 35 = .ok (.iaload, 1) := by decide +kernel
theorem dX5_sum_36 : decode cX5_sum 36 = .ok (.iload_n 2, 1) := by decide +kernel
theorem dX5_sum_37 : decode cX5_sum 37 = .ok (.iload_n 3, 1) := by decide +kernel
theorem dX5_sum_38 : decode cX5_sum 38 = .ok (.invokestatic 24, 3) := by decide +kernel
theorem dX5_sum_41 : decode cX5_sum 41 = .ok (.ifCond .eq 17, 3) := by decide +kernel
theorem dX5_sum_44 : decode cX5_sum 44 = .ok (.iload 5, 2) := by decide +kernel
theorem dX5_sum_46 : decode cX5_sum 46 = .ok (.aload_n 0, 1) := by decide +kernel
theorem dX5_sum_47 : decode cX5_sum 47 = .ok (.getfield 11, 3) := by decide +kernel
theorem dX5_sum_50 : decode cX5_sum 50 = .ok (.iconst 3, 1) := by decide +kernel
theorem dX5_sum_51 : decode cX5_sum 51 = .ok (.aaload, 1) := by decide +kernel
theorem dX5_sum_52 : decode cX5_sum 52 = .ok (.iload 6, 2) := by decide +kernel
theorem dX5_sum_54 : decode cX5_sum 54 = .ok (.iaload, 1) := by decide +kernel
theorem dX5_sum_55 : decode cX5_sum 55 = .ok (.iadd, 1) := by decide +kernel
theorem dX5_sum_56 : decode cX5_sum 56 = .ok (.istore 5, 2) := by decide +kernel
theorem dX5_sum_58 : decode cX5_sum 58 = .ok (.iinc 6 1, 3) := by decide +kernel
theorem dX5_sum_61 : decode cX5_sum 61 = .ok (.goto (-55), 3) := by decide +kernel
theorem dX5_sum_64 : decode cX5_sum 64 = .ok (.iload 5, 2) := by decide +kernel
theorem dX5_sum_66 : decode cX5_sum 66 = .ok (.ireturn, 1) := by decide +kernel
theorem dX5_sumKnown_0 : decode cX5_sumKnown 0 = .ok (.iconst 0, 1) := by decide +kernel
theorem dX5_sumKnown_1 : decode cX5_sumKnown 1 = .ok (.istore 6, 2) := by decide +kernel
theorem dX5_sumKnown_3 : decode cX5_sumKnown 3 = .ok (.iconst 0, 1) := by decide +kernel
theorem dX5_sumKnown_4 : decode cX5_sumKnown 4 = .ok (.istore 7, 2) := by decide +kernel
theorem dX5_sumKnown_6 : decode cX5_sumKnown 6 = .ok (.iload 7, 2) := by decide +kernel
theorem dX5_sumKnown_8 : decode cX5_sumKnown 8 = .ok (.aload_n 0, 1) := by decide +kernel
theorem dX5_sumKnown_9 : decode cX5_sumKnown 9 = .ok (.getfield 16, 3) := by decide +kernel
theorem dX5_sumKnown_12 : decode cX5_sumKnown 12 = .ok (.if_icmp .ge 63, 3) := by decide +kernel
theorem dX5_sumKnown_15 : decode cX5_sumKnown 15 = .ok (.aload_n 0, 1) := by decide +kernel
theorem dX5_sumKnown_16 : decode cX5_sumKnown 16 = .ok (.iload 7, 2) := by decide +kernel
theorem dX5_sumKnown_18 : decode cX5_sumKnown 18 = .ok (.iload_n 1, 1) := by decide +kernel
theorem dX5_sumKnown_19 : decode cX5_sumKnown 19 = .ok (.iload 4, 2) := by decide +kernel
theorem dX5_sumKnown_21 : decode cX5_sumKnown 21 = .ok (.invokevirtual 20, 3) := by decide +kernel
theorem dX5_sumKnown_24 : decode cX5_sumKnown 24 = .ok (.ifCond .eq 45, 3) := by decide +kernel
theorem dX5_sumKnown_27 : decode cX5_sumKnown 27 = .ok (.aload_n 0, 1) := by decide +kernel
theorem dX5_sumKnown_28 : decode cX5_sumKnown 28 = .ok (.getfield 11, 3) := by decide +kernel
theorem dX5_sumKnown_31 : decode cX5_sumKnown 31 = .ok (.iconst 0, 1) := by decide +kernel
theorem dX5_sumKnown_32 : decode cX5_sumKnown 32 = .ok (.aaload, 1) := by decide +kernel
theorem dX5_sumKnown_33 : decode cX5_sumKnown 33 = .ok (.iload 7, 2) := by decide +kernel
theorem dX5_sumKnown_35 : decode cX5_sumKnown 35 = .ok (.iaload, 1) := by decide +kernel
theorem dX5_sumKnown_36 : decode cX5_sumKnown 36 = .ok (.iload_n 2, 1) := by decide +kernel
theorem dX5_sumKnown_37 : decode cX5_sumKnown 37 = .ok (.iload_n 3, 1) := by decide +kernel
theorem dX5_sumKnown_38 : decode cX5_sumKnown 38 = .ok (.invokestatic 24, 3) := by decide +kernel
theorem dX5_sumKnown_41 : decode cX5_sumKnown 41 = .ok (.ifCond .eq 28, 3) := by decide +kernel
theorem dX5_sumKnown_44 : decode cX5_sumKnown 44 = .ok (.aload_n 0, 1) := by decide +kernel
theorem dX5_sumKnown_45 : decode cX5_sumKnown 45 = .ok (.iload 7, 2) := by decide +kernel
theorem dX5_sumKnown_47 : decode cX5_sumKnown 47 = .ok (.iload 5, 2) := by decide +kernel
theorem dX5_sumKnown_49 : decode cX5_sumKnown 49 = .ok (.invokevirtual 28, 3) := by decide +kernel
theorem dX5_sumKnown_52 : decode cX5_sumKnown 52 = .ok (.ifCond .eq 17, 3) := by decide +kernel
theorem dX5_sumKnown_55 : decode cX5_sumKnown 55 = .ok (.iload 6, 2) := by decide +kernel
theorem dX5_sumKnown_57 : decode cX5_sumKnown 57 = .ok (.aload_n 0, 1) := by decide +kernel
theorem dX5_sumKnown_58 : decode cX5_sumKnown 58 = .ok (.getfield 11, 3) := by decide +kernel
theorem dX5_sumKnown_61 : decode cX5_sumKnown 61 = .ok (.iconst 3, 1) := by decide +kernel
theorem dX5_sumKnown_62 : decode cX5_sumKnown 62 = .ok (.aaload, 1) := by decide +kernel
theorem dX5_sumKnown_63 : decode cX5_sumKnown 63 = .ok (.iload 7, 2) := by decide +kernel
theorem dX5_sumKnown_65 : decode cX5_sumKnown 65 = .ok (.iaload, 1) := by decide +kernel
theorem dX5_sumKnown_66 : decode cX5_sumKnown 66 = .ok (.iadd, 1) := by decide +kernel
theorem dX5_sumKnown_67 : decode cX5_sumKnown 67 = .ok (.istore 6, 2) := by decide +kernel
theorem dX5_sumKnown_69 : decode cX5_sumKnown 69 = .ok (.iinc 7 1, 3) := by decide +kernel
theorem dX5_sumKnown_72 : decode cX5_sumKnown 72 = .ok (.goto (-66), 3) := by decide +kernel
theorem dX5_sumKnown_75 : decode cX5_sumKnown 75 = .ok (.iload 6, 2) := by decide +kernel
theorem dX5_sumKnown_77 : decode cX5_sumKnown 77 = .ok (.ireturn, 1) := by decide +kernel
set_option maxHeartbeats 4000000 in
set_option maxRecDepth 100000 in
/-- WellCourt$Ledger.enter -/
theorem s_X5_enter1 (l : Launch) (G : va_G) (cy : Nat → ClassId) (sK sV : Nat → Nat) (ad : Nat → Nat → Nat) (sz : Nat) (st : gS) (hB : gBd bX st) (x : Int32) (y : Int32) (w : Int32) (v : Int32) (hsz : (st 16 0 1).toInt < 300) : gsMv l yX5_enter cX5_enter 6 ({ frames := 0, cells := 0, slots := 0, locals := 0 } : Room) G cy sK sV (shX cy ad) cnX ad sz [.ref (ad 16 0), .int x, .int y, .int w, .int v, .int 1] st (fun (u : gS) => gBN bX kX [1601, 1800] st u ∧ ((u 18 0 = upd (st 18 0) (st 16 0 1).toNatClampNeg x) ∧ (u 18 1 = upd (st 18 1) (st 16 0 1).toNatClampNeg y) ∧ (u 18 2 = upd (st 18 2) (st 16 0 1).toNatClampNeg w) ∧ (u 18 3 = upd (st 18 3) (st 16 0 1).toNatClampNeg v) ∧ (u 18 4 = upd (st 18 4) (st 16 0 1).toNatClampNeg 1) ∧ (u 18 5 = upd (st 18 5) (st 16 0 1).toNatClampNeg x) ∧ ((u 16 0 1).toInt = (st 16 0 1).toInt + 1))) := by
  refine gs_start (fun A => gsQv G (shX cy ad) cnX ad _ A) (by decide) (Nat.le_of_ble_eq_true rfl) ?_
  intro p e s m below meth c A ls H hx hb hr hml hlocks hown hts hK hov hE hI hM hm hS hA hl
  have hl : lv_has ls 6 [(0, .ref (ad 16 0)), (1, .int x), (2, .int y), (3, .int w), (4, .int v), (5, .int 1)] := hl
  have hB_st : gBN bX kX [1601, 1800] st st := gBN.rf hB
  refine lv_aload_n hx hb dX5_enter_0 rfl (lv_at hl 0 rfl) ?_
  refine gs_get (C := RX5) (T := TX5) (N := 2) hx hb hts inX5 hown hK hM 16 0 1 (by decide) rfl rfl (by decide) (hts _ gm_143) (fun _ h9 => h9) rfl dX5_enter_1 ?_
  have bf_1 : (0 : Int) ≤ (st 16 0 1).toInt ∧ (st 16 0 1).toInt ≤ (300 : Int) := hB_st.1 16 0 1
  refine lv_sipush (v := 300) hx hb dX5_enter_4 (by decide) ?_
  refine lv_icmp_lt (tgt := 11) hx hb dX5_enter_7 (by decide) (fun c_2 => ?_) (fun c_2 => ?_)
  · have ic_2 := gz_lt (rfl : (st 16 0 1).toInt = (st 16 0 1).toInt) (by decide : (300 : Int32).toInt = 300) c_2
    refine lv_aload_n hx hb dX5_enter_11 rfl (lv_at hl 0 rfl) ?_
    refine gs_get (C := RX5) (T := TX5) (N := 2) hx hb hts inX5 hown hK hM 16 0 0 (by decide) rfl rfl (by decide) (hts _ gm_141) (fun _ h9 => h9) rfl dX5_enter_12 ?_
    refine lv_iconst (v := 0) hx hb dX5_enter_15 (by decide) ?_
    refine gs_alda hx hb hK hM 17 0 (by decide) rfl (vp_in_iff.mpr (by decide)) (a := ad 18 0) rfl dX5_enter_16 ?_
    refine lv_aload_n hx hb dX5_enter_17 rfl (lv_at hl 0 rfl) ?_
    refine gs_get (C := RX5) (T := TX5) (N := 2) hx hb hts inX5 hown hK hM 16 0 1 (by decide) rfl rfl (by decide) (hts _ gm_143) (fun _ h9 => h9) rfl dX5_enter_18 ?_
    have bf_3 : (0 : Int) ≤ (st 16 0 1).toInt ∧ (st 16 0 1).toInt ≤ (300 : Int) := hB_st.1 16 0 1
    refine lv_iload_n hx hb dX5_enter_21 rfl (lv_at hl 1 rfl) ?_
    refine gs_iast hx hb hK hI hm hM hS 18 0 (by decide) (fun _ => rfl) (vp_in_iff.mpr ⟨by omega, by omega⟩) dX5_enter_22 (fun st_4 H locs est_4 hM hS => ?_)
    have hB_st_4 : gBN bX kX [1601, 1800] st st_4 := by rw [est_4]; exact hB_st.up (show (1800 : Nat) ∈ _ from by decide) (gi_lo _) (gi_hi _)
    refine lv_aload_n hx hb dX5_enter_23 rfl (lv_at hl 0 rfl) ?_
    refine gs_get (C := RX5) (T := TX5) (N := 2) hx hb hts inX5 hown hK hM 16 0 0 (by decide) rfl rfl (by decide) (hts _ gm_141) (fun _ h9 => h9) rfl dX5_enter_24 ?_
    refine lv_iconst (v := 1) hx hb dX5_enter_27 (by decide) ?_
    refine gs_alda hx hb hK hM 17 0 (by decide) rfl (vp_in_iff.mpr (by decide)) (a := ad 18 1) rfl dX5_enter_28 ?_
    refine lv_aload_n hx hb dX5_enter_29 rfl (lv_at hl 0 rfl) ?_
    refine gs_get (C := RX5) (T := TX5) (N := 2) hx hb hts inX5 hown hK hM 16 0 1 (by decide) rfl rfl (by decide) (hts _ gm_143) (fun _ h9 => h9) rfl dX5_enter_30 ?_
    refine lv_topi (fun x_5 ex_5 => ?_)
    have ex_5 : (st 16 0 1) = x_5 := Eq.symm (ex_5.trans ((congrFun (congrFun (congrFun est_4 16) 0) 1).trans (congrFun (congrFun (gU_k (by decide)) 0) 1)))
    subst ex_5
    have bf_6 : (0 : Int) ≤ (st 16 0 1).toInt ∧ (st 16 0 1).toInt ≤ (300 : Int) := hB_st.1 16 0 1
    refine lv_iload_n hx hb dX5_enter_33 rfl (lv_at hl 2 rfl) ?_
    refine gs_iast hx hb hK hI hm hM hS 18 1 (by decide) (fun _ => rfl) (vp_in_iff.mpr ⟨by omega, by omega⟩) dX5_enter_34 (fun st_7 H locs est_7 hM hS => ?_)
    have hB_st_7 : gBN bX kX [1601, 1800] st st_7 := by rw [est_7]; exact hB_st_4.up (show (1800 : Nat) ∈ _ from by decide) (gi_lo _) (gi_hi _)
    refine lv_aload_n hx hb dX5_enter_35 rfl (lv_at hl 0 rfl) ?_
    refine gs_get (C := RX5) (T := TX5) (N := 2) hx hb hts inX5 hown hK hM 16 0 0 (by decide) rfl rfl (by decide) (hts _ gm_141) (fun _ h9 => h9) rfl dX5_enter_36 ?_
    refine lv_iconst (v := 2) hx hb dX5_enter_39 (by decide) ?_
    refine gs_alda hx hb hK hM 17 0 (by decide) rfl (vp_in_iff.mpr (by decide)) (a := ad 18 2) rfl dX5_enter_40 ?_
    refine lv_aload_n hx hb dX5_enter_41 rfl (lv_at hl 0 rfl) ?_
    refine gs_get (C := RX5) (T := TX5) (N := 2) hx hb hts inX5 hown hK hM 16 0 1 (by decide) rfl rfl (by decide) (hts _ gm_143) (fun _ h9 => h9) rfl dX5_enter_42 ?_
    refine lv_topi (fun x_8 ex_8 => ?_)
    have ex_8 : (st 16 0 1) = x_8 := Eq.symm (ex_8.trans (((congrFun (congrFun (congrFun est_7 16) 0) 1).trans (congrFun (congrFun (gU_k (by decide)) 0) 1)).trans ((congrFun (congrFun (congrFun est_4 16) 0) 1).trans (congrFun (congrFun (gU_k (by decide)) 0) 1))))
    subst ex_8
    have bf_9 : (0 : Int) ≤ (st 16 0 1).toInt ∧ (st 16 0 1).toInt ≤ (300 : Int) := hB_st.1 16 0 1
    refine lv_iload_n hx hb dX5_enter_45 rfl (lv_at hl 3 rfl) ?_
    refine gs_iast hx hb hK hI hm hM hS 18 2 (by decide) (fun _ => rfl) (vp_in_iff.mpr ⟨by omega, by omega⟩) dX5_enter_46 (fun st_10 H locs est_10 hM hS => ?_)
    have hB_st_10 : gBN bX kX [1601, 1800] st st_10 := by rw [est_10]; exact hB_st_7.up (show (1800 : Nat) ∈ _ from by decide) (gi_lo _) (gi_hi _)
    refine lv_aload_n hx hb dX5_enter_47 rfl (lv_at hl 0 rfl) ?_
    refine gs_get (C := RX5) (T := TX5) (N := 2) hx hb hts inX5 hown hK hM 16 0 0 (by decide) rfl rfl (by decide) (hts _ gm_141) (fun _ h9 => h9) rfl dX5_enter_48 ?_
    refine lv_iconst (v := 3) hx hb dX5_enter_51 (by decide) ?_
    refine gs_alda hx hb hK hM 17 0 (by decide) rfl (vp_in_iff.mpr (by decide)) (a := ad 18 3) rfl dX5_enter_52 ?_
    refine lv_aload_n hx hb dX5_enter_53 rfl (lv_at hl 0 rfl) ?_
    refine gs_get (C := RX5) (T := TX5) (N := 2) hx hb hts inX5 hown hK hM 16 0 1 (by decide) rfl rfl (by decide) (hts _ gm_143) (fun _ h9 => h9) rfl dX5_enter_54 ?_
    refine lv_topi (fun x_11 ex_11 => ?_)
    have ex_11 : (st 16 0 1) = x_11 := Eq.symm (ex_11.trans (((congrFun (congrFun (congrFun est_10 16) 0) 1).trans (congrFun (congrFun (gU_k (by decide)) 0) 1)).trans (((congrFun (congrFun (congrFun est_7 16) 0) 1).trans (congrFun (congrFun (gU_k (by decide)) 0) 1)).trans ((congrFun (congrFun (congrFun est_4 16) 0) 1).trans (congrFun (congrFun (gU_k (by decide)) 0) 1)))))
    subst ex_11
    have bf_12 : (0 : Int) ≤ (st 16 0 1).toInt ∧ (st 16 0 1).toInt ≤ (300 : Int) := hB_st.1 16 0 1
    refine lv_iload hx hb dX5_enter_57 (lv_at hl 4 rfl) ?_
    refine gs_iast hx hb hK hI hm hM hS 18 3 (by decide) (fun _ => rfl) (vp_in_iff.mpr ⟨by omega, by omega⟩) dX5_enter_59 (fun st_13 H locs est_13 hM hS => ?_)
    have hB_st_13 : gBN bX kX [1601, 1800] st st_13 := by rw [est_13]; exact hB_st_10.up (show (1800 : Nat) ∈ _ from by decide) (gi_lo _) (gi_hi _)
    refine lv_aload_n hx hb dX5_enter_60 rfl (lv_at hl 0 rfl) ?_
    refine gs_get (C := RX5) (T := TX5) (N := 2) hx hb hts inX5 hown hK hM 16 0 0 (by decide) rfl rfl (by decide) (hts _ gm_141) (fun _ h9 => h9) rfl dX5_enter_61 ?_
    refine lv_iconst (v := 4) hx hb dX5_enter_64 (by decide) ?_
    refine gs_alda hx hb hK hM 17 0 (by decide) rfl (vp_in_iff.mpr (by decide)) (a := ad 18 4) rfl dX5_enter_65 ?_
    refine lv_aload_n hx hb dX5_enter_66 rfl (lv_at hl 0 rfl) ?_
    refine gs_get (C := RX5) (T := TX5) (N := 2) hx hb hts inX5 hown hK hM 16 0 1 (by decide) rfl rfl (by decide) (hts _ gm_143) (fun _ h9 => h9) rfl dX5_enter_67 ?_
    refine lv_topi (fun x_14 ex_14 => ?_)
    have ex_14 : (st 16 0 1) = x_14 := Eq.symm (ex_14.trans (((congrFun (congrFun (congrFun est_13 16) 0) 1).trans (congrFun (congrFun (gU_k (by decide)) 0) 1)).trans (((congrFun (congrFun (congrFun est_10 16) 0) 1).trans (congrFun (congrFun (gU_k (by decide)) 0) 1)).trans (((congrFun (congrFun (congrFun est_7 16) 0) 1).trans (congrFun (congrFun (gU_k (by decide)) 0) 1)).trans ((congrFun (congrFun (congrFun est_4 16) 0) 1).trans (congrFun (congrFun (gU_k (by decide)) 0) 1))))))
    subst ex_14
    have bf_15 : (0 : Int) ≤ (st 16 0 1).toInt ∧ (st 16 0 1).toInt ≤ (300 : Int) := hB_st.1 16 0 1
    refine lv_iload hx hb dX5_enter_70 (lv_at hl 5 rfl) ?_
    refine lv_if_eq (tgt := 79) hx hb dX5_enter_72 (by decide) (fun h9 => absurd h9 (by decide)) (fun _ => ?_)
    refine lv_iconst (v := 1) hx hb dX5_enter_75 (by decide) ?_
    refine lv_goto (tgt := 80) hx hb dX5_enter_76 (by decide) ?_
    refine gs_iast hx hb hK hI hm hM hS 18 4 (by decide) (fun _ => rfl) (vp_in_iff.mpr ⟨by omega, by omega⟩) dX5_enter_80 (fun st_16 H locs est_16 hM hS => ?_)
    have hB_st_16 : gBN bX kX [1601, 1800] st st_16 := by rw [est_16]; exact hB_st_13.up (show (1800 : Nat) ∈ _ from by decide) (gi_lo _) (gi_hi _)
    refine lv_aload_n hx hb dX5_enter_81 rfl (lv_at hl 0 rfl) ?_
    refine gs_get (C := RX5) (T := TX5) (N := 2) hx hb hts inX5 hown hK hM 16 0 0 (by decide) rfl rfl (by decide) (hts _ gm_141) (fun _ h9 => h9) rfl dX5_enter_82 ?_
    refine lv_iconst (v := 5) hx hb dX5_enter_85 (by decide) ?_
    refine gs_alda hx hb hK hM 17 0 (by decide) rfl (vp_in_iff.mpr (by decide)) (a := ad 18 5) rfl dX5_enter_86 ?_
    refine lv_aload_n hx hb dX5_enter_87 rfl (lv_at hl 0 rfl) ?_
    refine gs_get (C := RX5) (T := TX5) (N := 2) hx hb hts inX5 hown hK hM 16 0 1 (by decide) rfl rfl (by decide) (hts _ gm_143) (fun _ h9 => h9) rfl dX5_enter_88 ?_
    refine lv_topi (fun x_17 ex_17 => ?_)
    have ex_17 : (st 16 0 1) = x_17 := Eq.symm (ex_17.trans (((congrFun (congrFun (congrFun est_16 16) 0) 1).trans (congrFun (congrFun (gU_k (by decide)) 0) 1)).trans (((congrFun (congrFun (congrFun est_13 16) 0) 1).trans (congrFun (congrFun (gU_k (by decide)) 0) 1)).trans (((congrFun (congrFun (congrFun est_10 16) 0) 1).trans (congrFun (congrFun (gU_k (by decide)) 0) 1)).trans (((congrFun (congrFun (congrFun est_7 16) 0) 1).trans (congrFun (congrFun (gU_k (by decide)) 0) 1)).trans ((congrFun (congrFun (congrFun est_4 16) 0) 1).trans (congrFun (congrFun (gU_k (by decide)) 0) 1)))))))
    subst ex_17
    have bf_18 : (0 : Int) ≤ (st 16 0 1).toInt ∧ (st 16 0 1).toInt ≤ (300 : Int) := hB_st.1 16 0 1
    refine lv_iload hx hb dX5_enter_91 (lv_at hl 5 rfl) ?_
    refine lv_if_eq (tgt := 100) hx hb dX5_enter_93 (by decide) (fun h9 => absurd h9 (by decide)) (fun _ => ?_)
    refine lv_iload_n hx hb dX5_enter_96 rfl (lv_at hl 1 rfl) ?_
    refine lv_goto (tgt := 101) hx hb dX5_enter_97 (by decide) ?_
    refine gs_iast hx hb hK hI hm hM hS 18 5 (by decide) (fun _ => rfl) (vp_in_iff.mpr ⟨by omega, by omega⟩) dX5_enter_101 (fun st_19 H locs est_19 hM hS => ?_)
    have hB_st_19 : gBN bX kX [1601, 1800] st st_19 := by rw [est_19]; exact hB_st_16.up (show (1800 : Nat) ∈ _ from by decide) (gi_lo _) (gi_hi _)
    refine lv_aload_n hx hb dX5_enter_102 rfl (lv_at hl 0 rfl) ?_
    refine lv_dup hx hb dX5_enter_103 rfl ?_
    refine gs_get (C := RX5) (T := TX5) (N := 2) hx hb hts inX5 hown hK hM 16 0 1 (by decide) rfl rfl (by decide) (hts _ gm_143) (fun _ h9 => h9) rfl dX5_enter_104 ?_
    refine lv_topi (fun x_20 ex_20 => ?_)
    have ex_20 : (st 16 0 1) = x_20 := Eq.symm (ex_20.trans (((congrFun (congrFun (congrFun est_19 16) 0) 1).trans (congrFun (congrFun (gU_k (by decide)) 0) 1)).trans (((congrFun (congrFun (congrFun est_16 16) 0) 1).trans (congrFun (congrFun (gU_k (by decide)) 0) 1)).trans (((congrFun (congrFun (congrFun est_13 16) 0) 1).trans (congrFun (congrFun (gU_k (by decide)) 0) 1)).trans (((congrFun (congrFun (congrFun est_10 16) 0) 1).trans (congrFun (congrFun (gU_k (by decide)) 0) 1)).trans (((congrFun (congrFun (congrFun est_7 16) 0) 1).trans (congrFun (congrFun (gU_k (by decide)) 0) 1)).trans ((congrFun (congrFun (congrFun est_4 16) 0) 1).trans (congrFun (congrFun (gU_k (by decide)) 0) 1))))))))
    subst ex_20
    have bf_21 : (0 : Int) ≤ (st 16 0 1).toInt ∧ (st 16 0 1).toInt ≤ (300 : Int) := hB_st.1 16 0 1
    refine lv_iconst (v := 1) hx hb dX5_enter_107 (by decide) ?_
    refine lv_iadd hx hb dX5_enter_108 ?_
    refine lv_topi (fun x_22 ex_22 => ?_)
    try have tx_22 : x_22.toInt = (st 16 0 1).toInt + 1 := by rw [ex_22]; exact gz_addP (x := (st 16 0 1).toInt) (y := 1) rfl (by decide) (by omega) (by omega)
    refine gs_put (C := RX5) (T := TX5) (N := 2) (ty := .int) (val := .int x_22) hx hb hts inX5 tyX5 tyX5_ok nmX5 hown hK hI hm hM hS 16 0 1 (by decide) rfl rfl (by decide) (hts _ gm_143) (fun _ h9 => h9) rfl (x_22 : Int32) rfl (by decide +kernel) rfl rfl (Nat.le_of_ble_eq_true rfl) dX5_enter_109 (fun st_23 H locs est_23 hM hS => ?_)
    have hB_st_23 : gBN bX kX [1601, 1800] st st_23 := by rw [est_23]; exact hB_st_19.up (show (1601 : Nat) ∈ _ from by decide) (show (0 : Int) ≤ x_22.toInt from by omega) (show x_22.toInt ≤ (300 : Int) from by omega)
    exact gs_vret hx hb hr hlocks hM hS ⟨hB_st_23, ((congrFun (congrFun est_23 18) 0).trans ((congrFun (gU_k (by decide)) 0).trans ((congrFun (congrFun est_19 18) 0).trans ((gU_ne (by decide)).trans ((congrFun (congrFun est_16 18) 0).trans ((gU_ne (by decide)).trans ((congrFun (congrFun est_13 18) 0).trans ((gU_ne (by decide)).trans ((congrFun (congrFun est_10 18) 0).trans ((gU_ne (by decide)).trans ((congrFun (congrFun est_7 18) 0).trans ((gU_ne (by decide)).trans ((congrFun (congrFun est_4 18) 0).trans ((gU_at _ _ _ _ _).trans (congrArg (fun f9 => upd f9 ((st 16 0 1).toNatClampNeg) (x : Int32)) rfl))))))))))))))), ((congrFun (congrFun est_23 18) 1).trans ((congrFun (gU_k (by decide)) 1).trans ((congrFun (congrFun est_19 18) 1).trans ((gU_ne (by decide)).trans ((congrFun (congrFun est_16 18) 1).trans ((gU_ne (by decide)).trans ((congrFun (congrFun est_13 18) 1).trans ((gU_ne (by decide)).trans ((congrFun (congrFun est_10 18) 1).trans ((gU_ne (by decide)).trans ((congrFun (congrFun est_7 18) 1).trans ((gU_at _ _ _ _ _).trans (congrArg (fun f9 => upd f9 ((st 16 0 1).toNatClampNeg) (y : Int32)) ((congrFun (congrFun est_4 18) 1).trans ((gU_ne (by decide)).trans rfl))))))))))))))), ((congrFun (congrFun est_23 18) 2).trans ((congrFun (gU_k (by decide)) 2).trans ((congrFun (congrFun est_19 18) 2).trans ((gU_ne (by decide)).trans ((congrFun (congrFun est_16 18) 2).trans ((gU_ne (by decide)).trans ((congrFun (congrFun est_13 18) 2).trans ((gU_ne (by decide)).trans ((congrFun (congrFun est_10 18) 2).trans ((gU_at _ _ _ _ _).trans (congrArg (fun f9 => upd f9 ((st 16 0 1).toNatClampNeg) (w : Int32)) ((congrFun (congrFun est_7 18) 2).trans ((gU_ne (by decide)).trans ((congrFun (congrFun est_4 18) 2).trans ((gU_ne (by decide)).trans rfl))))))))))))))), ((congrFun (congrFun est_23 18) 3).trans ((congrFun (gU_k (by decide)) 3).trans ((congrFun (congrFun est_19 18) 3).trans ((gU_ne (by decide)).trans ((congrFun (congrFun est_16 18) 3).trans ((gU_ne (by decide)).trans ((congrFun (congrFun est_13 18) 3).trans ((gU_at _ _ _ _ _).trans (congrArg (fun f9 => upd f9 ((st 16 0 1).toNatClampNeg) (v : Int32)) ((congrFun (congrFun est_10 18) 3).trans ((gU_ne (by decide)).trans ((congrFun (congrFun est_7 18) 3).trans ((gU_ne (by decide)).trans ((congrFun (congrFun est_4 18) 3).trans ((gU_ne (by decide)).trans rfl))))))))))))))), ((congrFun (congrFun est_23 18) 4).trans ((congrFun (gU_k (by decide)) 4).trans ((congrFun (congrFun est_19 18) 4).trans ((gU_ne (by decide)).trans ((congrFun (congrFun est_16 18) 4).trans ((gU_at _ _ _ _ _).trans (congrArg (fun f9 => upd f9 ((st 16 0 1).toNatClampNeg) (1 : Int32)) ((congrFun (congrFun est_13 18) 4).trans ((gU_ne (by decide)).trans ((congrFun (congrFun est_10 18) 4).trans ((gU_ne (by decide)).trans ((congrFun (congrFun est_7 18) 4).trans ((gU_ne (by decide)).trans ((congrFun (congrFun est_4 18) 4).trans ((gU_ne (by decide)).trans rfl))))))))))))))), ((congrFun (congrFun est_23 18) 5).trans ((congrFun (gU_k (by decide)) 5).trans ((congrFun (congrFun est_19 18) 5).trans ((gU_at _ _ _ _ _).trans (congrArg (fun f9 => upd f9 ((st 16 0 1).toNatClampNeg) (x : Int32)) ((congrFun (congrFun est_16 18) 5).trans ((gU_ne (by decide)).trans ((congrFun (congrFun est_13 18) 5).trans ((gU_ne (by decide)).trans ((congrFun (congrFun est_10 18) 5).trans ((gU_ne (by decide)).trans ((congrFun (congrFun est_7 18) 5).trans ((gU_ne (by decide)).trans ((congrFun (congrFun est_4 18) 5).trans ((gU_ne (by decide)).trans rfl))))))))))))))), (by have hq0 : (st_23 16 0 1).toInt = (x_22 : Int32).toInt := congrArg Int32.toInt (((congrFun (congrFun (congrFun est_23 16) 0) 1).trans (gU_same _ _ _ _ _))); have hb1 : (0 : Int) ≤ (st_23 16 0 1).toInt ∧ (st_23 16 0 1).toInt ≤ (300 : Int) := hB_st_23.1 16 0 1; have hb2 : (0 : Int) ≤ (st 16 0 1).toInt ∧ (st 16 0 1).toInt ≤ (300 : Int) := hB_st.1 16 0 1; omega)⟩ (by exact Nat.le_refl _) (by exact Nat.le_refl _) dX5_enter_112
  · have ic_2 := gz_nlt (rfl : (st 16 0 1).toInt = (st 16 0 1).toInt) (by decide : (300 : Int32).toInt = 300) c_2
    exact gs_vret hx hb hr hlocks hM hS ⟨hB_st, (by exfalso; omega), (by exfalso; omega), (by exfalso; omega), (by exfalso; omega), (by exfalso; omega), (by exfalso; omega), (by exfalso; omega)⟩ (by exact Nat.le_refl _) (by exact Nat.le_refl _) dX5_enter_10

set_option maxHeartbeats 4000000 in
set_option maxRecDepth 100000 in
/-- WellCourt$Ledger.enter -/
theorem s_X5_enter0 (l : Launch) (G : va_G) (cy : Nat → ClassId) (sK sV : Nat → Nat) (ad : Nat → Nat → Nat) (sz : Nat) (st : gS) (hB : gBd bX st) (x : Int32) (y : Int32) (w : Int32) (v : Int32) (hsz : (st 16 0 1).toInt < 300) : gsMv l yX5_enter cX5_enter 6 ({ frames := 0, cells := 0, slots := 0, locals := 0 } : Room) G cy sK sV (shX cy ad) cnX ad sz [.ref (ad 16 0), .int x, .int y, .int w, .int v, .int 0] st (fun (u : gS) => gBN bX kX [1601, 1800] st u ∧ ((u 18 0 = upd (st 18 0) (st 16 0 1).toNatClampNeg x) ∧ (u 18 1 = upd (st 18 1) (st 16 0 1).toNatClampNeg y) ∧ (u 18 2 = upd (st 18 2) (st 16 0 1).toNatClampNeg w) ∧ (u 18 3 = upd (st 18 3) (st 16 0 1).toNatClampNeg v) ∧ (u 18 4 = upd (st 18 4) (st 16 0 1).toNatClampNeg 0) ∧ (u 18 5 = upd (st 18 5) (st 16 0 1).toNatClampNeg (-1)) ∧ ((u 16 0 1).toInt = (st 16 0 1).toInt + 1))) := by
  refine gs_start (fun A => gsQv G (shX cy ad) cnX ad _ A) (by decide) (Nat.le_of_ble_eq_true rfl) ?_
  intro p e s m below meth c A ls H hx hb hr hml hlocks hown hts hK hov hE hI hM hm hS hA hl
  have hl : lv_has ls 6 [(0, .ref (ad 16 0)), (1, .int x), (2, .int y), (3, .int w), (4, .int v), (5, .int 0)] := hl
  have hB_st : gBN bX kX [1601, 1800] st st := gBN.rf hB
  refine lv_aload_n hx hb dX5_enter_0 rfl (lv_at hl 0 rfl) ?_
  refine gs_get (C := RX5) (T := TX5) (N := 2) hx hb hts inX5 hown hK hM 16 0 1 (by decide) rfl rfl (by decide) (hts _ gm_143) (fun _ h9 => h9) rfl dX5_enter_1 ?_
  have bf_1 : (0 : Int) ≤ (st 16 0 1).toInt ∧ (st 16 0 1).toInt ≤ (300 : Int) := hB_st.1 16 0 1
  refine lv_sipush (v := 300) hx hb dX5_enter_4 (by decide) ?_
  refine lv_icmp_lt (tgt := 11) hx hb dX5_enter_7 (by decide) (fun c_2 => ?_) (fun c_2 => ?_)
  · have ic_2 := gz_lt (rfl : (st 16 0 1).toInt = (st 16 0 1).toInt) (by decide : (300 : Int32).toInt = 300) c_2
    refine lv_aload_n hx hb dX5_enter_11 rfl (lv_at hl 0 rfl) ?_
    refine gs_get (C := RX5) (T := TX5) (N := 2) hx hb hts inX5 hown hK hM 16 0 0 (by decide) rfl rfl (by decide) (hts _ gm_141) (fun _ h9 => h9) rfl dX5_enter_12 ?_
    refine lv_iconst (v := 0) hx hb dX5_enter_15 (by decide) ?_
    refine gs_alda hx hb hK hM 17 0 (by decide) rfl (vp_in_iff.mpr (by decide)) (a := ad 18 0) rfl dX5_enter_16 ?_
    refine lv_aload_n hx hb dX5_enter_17 rfl (lv_at hl 0 rfl) ?_
    refine gs_get (C := RX5) (T := TX5) (N := 2) hx hb hts inX5 hown hK hM 16 0 1 (by decide) rfl rfl (by decide) (hts _ gm_143) (fun _ h9 => h9) rfl dX5_enter_18 ?_
    have bf_3 : (0 : Int) ≤ (st 16 0 1).toInt ∧ (st 16 0 1).toInt ≤ (300 : Int) := hB_st.1 16 0 1
    refine lv_iload_n hx hb dX5_enter_21 rfl (lv_at hl 1 rfl) ?_
    refine gs_iast hx hb hK hI hm hM hS 18 0 (by decide) (fun _ => rfl) (vp_in_iff.mpr ⟨by omega, by omega⟩) dX5_enter_22 (fun st_4 H locs est_4 hM hS => ?_)
    have hB_st_4 : gBN bX kX [1601, 1800] st st_4 := by rw [est_4]; exact hB_st.up (show (1800 : Nat) ∈ _ from by decide) (gi_lo _) (gi_hi _)
    refine lv_aload_n hx hb dX5_enter_23 rfl (lv_at hl 0 rfl) ?_
    refine gs_get (C := RX5) (T := TX5) (N := 2) hx hb hts inX5 hown hK hM 16 0 0 (by decide) rfl rfl (by decide) (hts _ gm_141) (fun _ h9 => h9) rfl dX5_enter_24 ?_
    refine lv_iconst (v := 1) hx hb dX5_enter_27 (by decide) ?_
    refine gs_alda hx hb hK hM 17 0 (by decide) rfl (vp_in_iff.mpr (by decide)) (a := ad 18 1) rfl dX5_enter_28 ?_
    refine lv_aload_n hx hb dX5_enter_29 rfl (lv_at hl 0 rfl) ?_
    refine gs_get (C := RX5) (T := TX5) (N := 2) hx hb hts inX5 hown hK hM 16 0 1 (by decide) rfl rfl (by decide) (hts _ gm_143) (fun _ h9 => h9) rfl dX5_enter_30 ?_
    refine lv_topi (fun x_5 ex_5 => ?_)
    have ex_5 : (st 16 0 1) = x_5 := Eq.symm (ex_5.trans ((congrFun (congrFun (congrFun est_4 16) 0) 1).trans (congrFun (congrFun (gU_k (by decide)) 0) 1)))
    subst ex_5
    have bf_6 : (0 : Int) ≤ (st 16 0 1).toInt ∧ (st 16 0 1).toInt ≤ (300 : Int) := hB_st.1 16 0 1
    refine lv_iload_n hx hb dX5_enter_33 rfl (lv_at hl 2 rfl) ?_
    refine gs_iast hx hb hK hI hm hM hS 18 1 (by decide) (fun _ => rfl) (vp_in_iff.mpr ⟨by omega, by omega⟩) dX5_enter_34 (fun st_7 H locs est_7 hM hS => ?_)
    have hB_st_7 : gBN bX kX [1601, 1800] st st_7 := by rw [est_7]; exact hB_st_4.up (show (1800 : Nat) ∈ _ from by decide) (gi_lo _) (gi_hi _)
    refine lv_aload_n hx hb dX5_enter_35 rfl (lv_at hl 0 rfl) ?_
    refine gs_get (C := RX5) (T := TX5) (N := 2) hx hb hts inX5 hown hK hM 16 0 0 (by decide) rfl rfl (by decide) (hts _ gm_141) (fun _ h9 => h9) rfl dX5_enter_36 ?_
    refine lv_iconst (v := 2) hx hb dX5_enter_39 (by decide) ?_
    refine gs_alda hx hb hK hM 17 0 (by decide) rfl (vp_in_iff.mpr (by decide)) (a := ad 18 2) rfl dX5_enter_40 ?_
    refine lv_aload_n hx hb dX5_enter_41 rfl (lv_at hl 0 rfl) ?_
    refine gs_get (C := RX5) (T := TX5) (N := 2) hx hb hts inX5 hown hK hM 16 0 1 (by decide) rfl rfl (by decide) (hts _ gm_143) (fun _ h9 => h9) rfl dX5_enter_42 ?_
    refine lv_topi (fun x_8 ex_8 => ?_)
    have ex_8 : (st 16 0 1) = x_8 := Eq.symm (ex_8.trans (((congrFun (congrFun (congrFun est_7 16) 0) 1).trans (congrFun (congrFun (gU_k (by decide)) 0) 1)).trans ((congrFun (congrFun (congrFun est_4 16) 0) 1).trans (congrFun (congrFun (gU_k (by decide)) 0) 1))))
    subst ex_8
    have bf_9 : (0 : Int) ≤ (st 16 0 1).toInt ∧ (st 16 0 1).toInt ≤ (300 : Int) := hB_st.1 16 0 1
    refine lv_iload_n hx hb dX5_enter_45 rfl (lv_at hl 3 rfl) ?_
    refine gs_iast hx hb hK hI hm hM hS 18 2 (by decide) (fun _ => rfl) (vp_in_iff.mpr ⟨by omega, by omega⟩) dX5_enter_46 (fun st_10 H locs est_10 hM hS => ?_)
    have hB_st_10 : gBN bX kX [1601, 1800] st st_10 := by rw [est_10]; exact hB_st_7.up (show (1800 : Nat) ∈ _ from by decide) (gi_lo _) (gi_hi _)
    refine lv_aload_n hx hb dX5_enter_47 rfl (lv_at hl 0 rfl) ?_
    refine gs_get (C := RX5) (T := TX5) (N := 2) hx hb hts inX5 hown hK hM 16 0 0 (by decide) rfl rfl (by decide) (hts _ gm_141) (fun _ h9 => h9) rfl dX5_enter_48 ?_
    refine lv_iconst (v := 3) hx hb dX5_enter_51 (by decide) ?_
    refine gs_alda hx hb hK hM 17 0 (by decide) rfl (vp_in_iff.mpr (by decide)) (a := ad 18 3) rfl dX5_enter_52 ?_
    refine lv_aload_n hx hb dX5_enter_53 rfl (lv_at hl 0 rfl) ?_
    refine gs_get (C := RX5) (T := TX5) (N := 2) hx hb hts inX5 hown hK hM 16 0 1 (by decide) rfl rfl (by decide) (hts _ gm_143) (fun _ h9 => h9) rfl dX5_enter_54 ?_
    refine lv_topi (fun x_11 ex_11 => ?_)
    have ex_11 : (st 16 0 1) = x_11 := Eq.symm (ex_11.trans (((congrFun (congrFun (congrFun est_10 16) 0) 1).trans (congrFun (congrFun (gU_k (by decide)) 0) 1)).trans (((congrFun (congrFun (congrFun est_7 16) 0) 1).trans (congrFun (congrFun (gU_k (by decide)) 0) 1)).trans ((congrFun (congrFun (congrFun est_4 16) 0) 1).trans (congrFun (congrFun (gU_k (by decide)) 0) 1)))))
    subst ex_11
    have bf_12 : (0 : Int) ≤ (st 16 0 1).toInt ∧ (st 16 0 1).toInt ≤ (300 : Int) := hB_st.1 16 0 1
    refine lv_iload hx hb dX5_enter_57 (lv_at hl 4 rfl) ?_
    refine gs_iast hx hb hK hI hm hM hS 18 3 (by decide) (fun _ => rfl) (vp_in_iff.mpr ⟨by omega, by omega⟩) dX5_enter_59 (fun st_13 H locs est_13 hM hS => ?_)
    have hB_st_13 : gBN bX kX [1601, 1800] st st_13 := by rw [est_13]; exact hB_st_10.up (show (1800 : Nat) ∈ _ from by decide) (gi_lo _) (gi_hi _)
    refine lv_aload_n hx hb dX5_enter_60 rfl (lv_at hl 0 rfl) ?_
    refine gs_get (C := RX5) (T := TX5) (N := 2) hx hb hts inX5 hown hK hM 16 0 0 (by decide) rfl rfl (by decide) (hts _ gm_141) (fun _ h9 => h9) rfl dX5_enter_61 ?_
    refine lv_iconst (v := 4) hx hb dX5_enter_64 (by decide) ?_
    refine gs_alda hx hb hK hM 17 0 (by decide) rfl (vp_in_iff.mpr (by decide)) (a := ad 18 4) rfl dX5_enter_65 ?_
    refine lv_aload_n hx hb dX5_enter_66 rfl (lv_at hl 0 rfl) ?_
    refine gs_get (C := RX5) (T := TX5) (N := 2) hx hb hts inX5 hown hK hM 16 0 1 (by decide) rfl rfl (by decide) (hts _ gm_143) (fun _ h9 => h9) rfl dX5_enter_67 ?_
    refine lv_topi (fun x_14 ex_14 => ?_)
    have ex_14 : (st 16 0 1) = x_14 := Eq.symm (ex_14.trans (((congrFun (congrFun (congrFun est_13 16) 0) 1).trans (congrFun (congrFun (gU_k (by decide)) 0) 1)).trans (((congrFun (congrFun (congrFun est_10 16) 0) 1).trans (congrFun (congrFun (gU_k (by decide)) 0) 1)).trans (((congrFun (congrFun (congrFun est_7 16) 0) 1).trans (congrFun (congrFun (gU_k (by decide)) 0) 1)).trans ((congrFun (congrFun (congrFun est_4 16) 0) 1).trans (congrFun (congrFun (gU_k (by decide)) 0) 1))))))
    subst ex_14
    have bf_15 : (0 : Int) ≤ (st 16 0 1).toInt ∧ (st 16 0 1).toInt ≤ (300 : Int) := hB_st.1 16 0 1
    refine lv_iload hx hb dX5_enter_70 (lv_at hl 5 rfl) ?_
    refine lv_if_eq (tgt := 79) hx hb dX5_enter_72 (by decide) (fun _ => ?_) (fun h9 => absurd (by decide) h9)
    refine lv_iconst (v := 0) hx hb dX5_enter_79 (by decide) ?_
    refine gs_iast hx hb hK hI hm hM hS 18 4 (by decide) (fun _ => rfl) (vp_in_iff.mpr ⟨by omega, by omega⟩) dX5_enter_80 (fun st_16 H locs est_16 hM hS => ?_)
    have hB_st_16 : gBN bX kX [1601, 1800] st st_16 := by rw [est_16]; exact hB_st_13.up (show (1800 : Nat) ∈ _ from by decide) (gi_lo _) (gi_hi _)
    refine lv_aload_n hx hb dX5_enter_81 rfl (lv_at hl 0 rfl) ?_
    refine gs_get (C := RX5) (T := TX5) (N := 2) hx hb hts inX5 hown hK hM 16 0 0 (by decide) rfl rfl (by decide) (hts _ gm_141) (fun _ h9 => h9) rfl dX5_enter_82 ?_
    refine lv_iconst (v := 5) hx hb dX5_enter_85 (by decide) ?_
    refine gs_alda hx hb hK hM 17 0 (by decide) rfl (vp_in_iff.mpr (by decide)) (a := ad 18 5) rfl dX5_enter_86 ?_
    refine lv_aload_n hx hb dX5_enter_87 rfl (lv_at hl 0 rfl) ?_
    refine gs_get (C := RX5) (T := TX5) (N := 2) hx hb hts inX5 hown hK hM 16 0 1 (by decide) rfl rfl (by decide) (hts _ gm_143) (fun _ h9 => h9) rfl dX5_enter_88 ?_
    refine lv_topi (fun x_17 ex_17 => ?_)
    have ex_17 : (st 16 0 1) = x_17 := Eq.symm (ex_17.trans (((congrFun (congrFun (congrFun est_16 16) 0) 1).trans (congrFun (congrFun (gU_k (by decide)) 0) 1)).trans (((congrFun (congrFun (congrFun est_13 16) 0) 1).trans (congrFun (congrFun (gU_k (by decide)) 0) 1)).trans (((congrFun (congrFun (congrFun est_10 16) 0) 1).trans (congrFun (congrFun (gU_k (by decide)) 0) 1)).trans (((congrFun (congrFun (congrFun est_7 16) 0) 1).trans (congrFun (congrFun (gU_k (by decide)) 0) 1)).trans ((congrFun (congrFun (congrFun est_4 16) 0) 1).trans (congrFun (congrFun (gU_k (by decide)) 0) 1)))))))
    subst ex_17
    have bf_18 : (0 : Int) ≤ (st 16 0 1).toInt ∧ (st 16 0 1).toInt ≤ (300 : Int) := hB_st.1 16 0 1
    refine lv_iload hx hb dX5_enter_91 (lv_at hl 5 rfl) ?_
    refine lv_if_eq (tgt := 100) hx hb dX5_enter_93 (by decide) (fun _ => ?_) (fun h9 => absurd (by decide) h9)
    refine lv_iconst (v := (-1)) hx hb dX5_enter_100 (by decide) ?_
    refine gs_iast hx hb hK hI hm hM hS 18 5 (by decide) (fun _ => rfl) (vp_in_iff.mpr ⟨by omega, by omega⟩) dX5_enter_101 (fun st_19 H locs est_19 hM hS => ?_)
    have hB_st_19 : gBN bX kX [1601, 1800] st st_19 := by rw [est_19]; exact hB_st_16.up (show (1800 : Nat) ∈ _ from by decide) (gi_lo _) (gi_hi _)
    refine lv_aload_n hx hb dX5_enter_102 rfl (lv_at hl 0 rfl) ?_
    refine lv_dup hx hb dX5_enter_103 rfl ?_
    refine gs_get (C := RX5) (T := TX5) (N := 2) hx hb hts inX5 hown hK hM 16 0 1 (by decide) rfl rfl (by decide) (hts _ gm_143) (fun _ h9 => h9) rfl dX5_enter_104 ?_
    refine lv_topi (fun x_20 ex_20 => ?_)
    have ex_20 : (st 16 0 1) = x_20 := Eq.symm (ex_20.trans (((congrFun (congrFun (congrFun est_19 16) 0) 1).trans (congrFun (congrFun (gU_k (by decide)) 0) 1)).trans (((congrFun (congrFun (congrFun est_16 16) 0) 1).trans (congrFun (congrFun (gU_k (by decide)) 0) 1)).trans (((congrFun (congrFun (congrFun est_13 16) 0) 1).trans (congrFun (congrFun (gU_k (by decide)) 0) 1)).trans (((congrFun (congrFun (congrFun est_10 16) 0) 1).trans (congrFun (congrFun (gU_k (by decide)) 0) 1)).trans (((congrFun (congrFun (congrFun est_7 16) 0) 1).trans (congrFun (congrFun (gU_k (by decide)) 0) 1)).trans ((congrFun (congrFun (congrFun est_4 16) 0) 1).trans (congrFun (congrFun (gU_k (by decide)) 0) 1))))))))
    subst ex_20
    have bf_21 : (0 : Int) ≤ (st 16 0 1).toInt ∧ (st 16 0 1).toInt ≤ (300 : Int) := hB_st.1 16 0 1
    refine lv_iconst (v := 1) hx hb dX5_enter_107 (by decide) ?_
    refine lv_iadd hx hb dX5_enter_108 ?_
    refine lv_topi (fun x_22 ex_22 => ?_)
    try have tx_22 : x_22.toInt = (st 16 0 1).toInt + 1 := by rw [ex_22]; exact gz_addP (x := (st 16 0 1).toInt) (y := 1) rfl (by decide) (by omega) (by omega)
    refine gs_put (C := RX5) (T := TX5) (N := 2) (ty := .int) (val := .int x_22) hx hb hts inX5 tyX5 tyX5_ok nmX5 hown hK hI hm hM hS 16 0 1 (by decide) rfl rfl (by decide) (hts _ gm_143) (fun _ h9 => h9) rfl (x_22 : Int32) rfl (by decide +kernel) rfl rfl (Nat.le_of_ble_eq_true rfl) dX5_enter_109 (fun st_23 H locs est_23 hM hS => ?_)
    have hB_st_23 : gBN bX kX [1601, 1800] st st_23 := by rw [est_23]; exact hB_st_19.up (show (1601 : Nat) ∈ _ from by decide) (show (0 : Int) ≤ x_22.toInt from by omega) (show x_22.toInt ≤ (300 : Int) from by omega)
    exact gs_vret hx hb hr hlocks hM hS ⟨hB_st_23, ((congrFun (congrFun est_23 18) 0).trans ((congrFun (gU_k (by decide)) 0).trans ((congrFun (congrFun est_19 18) 0).trans ((gU_ne (by decide)).trans ((congrFun (congrFun est_16 18) 0).trans ((gU_ne (by decide)).trans ((congrFun (congrFun est_13 18) 0).trans ((gU_ne (by decide)).trans ((congrFun (congrFun est_10 18) 0).trans ((gU_ne (by decide)).trans ((congrFun (congrFun est_7 18) 0).trans ((gU_ne (by decide)).trans ((congrFun (congrFun est_4 18) 0).trans ((gU_at _ _ _ _ _).trans (congrArg (fun f9 => upd f9 ((st 16 0 1).toNatClampNeg) (x : Int32)) rfl))))))))))))))), ((congrFun (congrFun est_23 18) 1).trans ((congrFun (gU_k (by decide)) 1).trans ((congrFun (congrFun est_19 18) 1).trans ((gU_ne (by decide)).trans ((congrFun (congrFun est_16 18) 1).trans ((gU_ne (by decide)).trans ((congrFun (congrFun est_13 18) 1).trans ((gU_ne (by decide)).trans ((congrFun (congrFun est_10 18) 1).trans ((gU_ne (by decide)).trans ((congrFun (congrFun est_7 18) 1).trans ((gU_at _ _ _ _ _).trans (congrArg (fun f9 => upd f9 ((st 16 0 1).toNatClampNeg) (y : Int32)) ((congrFun (congrFun est_4 18) 1).trans ((gU_ne (by decide)).trans rfl))))))))))))))), ((congrFun (congrFun est_23 18) 2).trans ((congrFun (gU_k (by decide)) 2).trans ((congrFun (congrFun est_19 18) 2).trans ((gU_ne (by decide)).trans ((congrFun (congrFun est_16 18) 2).trans ((gU_ne (by decide)).trans ((congrFun (congrFun est_13 18) 2).trans ((gU_ne (by decide)).trans ((congrFun (congrFun est_10 18) 2).trans ((gU_at _ _ _ _ _).trans (congrArg (fun f9 => upd f9 ((st 16 0 1).toNatClampNeg) (w : Int32)) ((congrFun (congrFun est_7 18) 2).trans ((gU_ne (by decide)).trans ((congrFun (congrFun est_4 18) 2).trans ((gU_ne (by decide)).trans rfl))))))))))))))), ((congrFun (congrFun est_23 18) 3).trans ((congrFun (gU_k (by decide)) 3).trans ((congrFun (congrFun est_19 18) 3).trans ((gU_ne (by decide)).trans ((congrFun (congrFun est_16 18) 3).trans ((gU_ne (by decide)).trans ((congrFun (congrFun est_13 18) 3).trans ((gU_at _ _ _ _ _).trans (congrArg (fun f9 => upd f9 ((st 16 0 1).toNatClampNeg) (v : Int32)) ((congrFun (congrFun est_10 18) 3).trans ((gU_ne (by decide)).trans ((congrFun (congrFun est_7 18) 3).trans ((gU_ne (by decide)).trans ((congrFun (congrFun est_4 18) 3).trans ((gU_ne (by decide)).trans rfl))))))))))))))), ((congrFun (congrFun est_23 18) 4).trans ((congrFun (gU_k (by decide)) 4).trans ((congrFun (congrFun est_19 18) 4).trans ((gU_ne (by decide)).trans ((congrFun (congrFun est_16 18) 4).trans ((gU_at _ _ _ _ _).trans (congrArg (fun f9 => upd f9 ((st 16 0 1).toNatClampNeg) (0 : Int32)) ((congrFun (congrFun est_13 18) 4).trans ((gU_ne (by decide)).trans ((congrFun (congrFun est_10 18) 4).trans ((gU_ne (by decide)).trans ((congrFun (congrFun est_7 18) 4).trans ((gU_ne (by decide)).trans ((congrFun (congrFun est_4 18) 4).trans ((gU_ne (by decide)).trans rfl))))))))))))))), ((congrFun (congrFun est_23 18) 5).trans ((congrFun (gU_k (by decide)) 5).trans ((congrFun (congrFun est_19 18) 5).trans ((gU_at _ _ _ _ _).trans (congrArg (fun f9 => upd f9 ((st 16 0 1).toNatClampNeg) ((-1) : Int32)) ((congrFun (congrFun est_16 18) 5).trans ((gU_ne (by decide)).trans ((congrFun (congrFun est_13 18) 5).trans ((gU_ne (by decide)).trans ((congrFun (congrFun est_10 18) 5).trans ((gU_ne (by decide)).trans ((congrFun (congrFun est_7 18) 5).trans ((gU_ne (by decide)).trans ((congrFun (congrFun est_4 18) 5).trans ((gU_ne (by decide)).trans rfl))))))))))))))), (by have hq0 : (st_23 16 0 1).toInt = (x_22 : Int32).toInt := congrArg Int32.toInt (((congrFun (congrFun (congrFun est_23 16) 0) 1).trans (gU_same _ _ _ _ _))); have hb1 : (0 : Int) ≤ (st_23 16 0 1).toInt ∧ (st_23 16 0 1).toInt ≤ (300 : Int) := hB_st_23.1 16 0 1; have hb2 : (0 : Int) ≤ (st 16 0 1).toInt ∧ (st 16 0 1).toInt ≤ (300 : Int) := hB_st.1 16 0 1; omega)⟩ (by exact Nat.le_refl _) (by exact Nat.le_refl _) dX5_enter_112
  · have ic_2 := gz_nlt (rfl : (st 16 0 1).toInt = (st 16 0 1).toInt) (by decide : (300 : Int32).toInt = 300) c_2
    exact gs_vret hx hb hr hlocks hM hS ⟨hB_st, (by exfalso; omega), (by exfalso; omega), (by exfalso; omega), (by exfalso; omega), (by exfalso; omega), (by exfalso; omega), (by exfalso; omega)⟩ (by exact Nat.le_refl _) (by exact Nat.le_refl _) dX5_enter_10

set_option maxHeartbeats 4000000 in
set_option maxRecDepth 100000 in
/-- WellCourt$Ledger.isKnown -/
theorem s_X5_isKnown (l : Launch) (G : va_G) (cy : Nat → ClassId) (sK sV : Nat → Nat) (ad : Nat → Nat → Nat) (sz : Nat) (st : gS) (hB : gBd bX st) (x : Int32) (y : Int32) (Xx : Int) (Xy : Int) (kx : x.toInt = Xx) (ky : y.toInt = Xy) (hx0 : 0 ≤ Xx) (hx1 : Xx < 300) : gsMi l yX5_isKnown cX5_isKnown 4 (some .boolean) ({ frames := 0, cells := 0, slots := 0, locals := 0 } : Room) G cy sK sV (shX cy ad) cnX ad sz [.ref (ad 16 0), .int x, .int y] st (fun (r : Int32) (u : gS) => gBN bX kX [] st u ∧ ((r = 1 ∧ (¬ (st 18 5 x.toNatClampNeg).toInt = -1) ∧ ((st 18 5 x.toNatClampNeg).toInt ≤ Xy)) ∨ (r = 0 ∧ (¬ (¬ (st 18 5 x.toNatClampNeg).toInt = -1 ∧ (st 18 5 x.toNatClampNeg).toInt ≤ Xy))))) := by
  refine gs_start (fun A => gsQi G (shX cy ad) cnX ad _ A) (by decide) (Nat.le_of_ble_eq_true rfl) ?_
  intro p e s m below meth c A ls H hx hb hr hml hlocks hown hts hK hov hE hI hM hm hS hA hl
  have hl : lv_has ls 4 [(0, .ref (ad 16 0)), (1, .int x), (2, .int y)] := hl
  have hB_st : gBN bX kX [] st st := gBN.rf hB
  refine lv_aload_n hx hb dX5_isKnown_0 rfl (lv_at hl 0 rfl) ?_
  refine gs_get (C := RX5) (T := TX5) (N := 2) hx hb hts inX5 hown hK hM 16 0 0 (by decide) rfl rfl (by decide) (hts _ gm_141) (fun _ h9 => h9) rfl dX5_isKnown_1 ?_
  refine lv_iconst (v := 5) hx hb dX5_isKnown_4 (by decide) ?_
  refine gs_alda hx hb hK hM 17 0 (by decide) rfl (vp_in_iff.mpr (by decide)) (a := ad 18 5) rfl dX5_isKnown_5 ?_
  refine lv_iload_n hx hb dX5_isKnown_6 rfl (lv_at hl 1 rfl) ?_
  refine gs_iald hx hb hK hM 18 5 (by decide) rfl (vp_in_iff.mpr ⟨by omega, by omega⟩) dX5_isKnown_7 ?_
  refine lv_topi (fun x_1 ex_1 => ?_)
  have qx_1 : x_1.toInt = (st 18 5 (x.toNatClampNeg)).toInt := congrArg Int32.toInt ex_1
  refine lv_istore_n (lv' := [(3, .int x_1), (0, .ref (ad 16 0)), (1, .int x), (2, .int y)]) hx hb dX5_isKnown_8 rfl hl (by decide) rfl (fun ls hl => ?_)
  refine lv_iload_n hx hb dX5_isKnown_9 rfl (lv_at hl 0 rfl) ?_
  refine lv_iconst (v := (-1)) hx hb dX5_isKnown_10 (by decide) ?_
  refine lv_icmp_eq (tgt := 23) hx hb dX5_isKnown_11 (by decide) (fun c_2 => ?_) (fun c_2 => ?_)
  · have ic_2 := gz_eq (rfl : x_1.toInt = x_1.toInt) (by decide : ((-1) : Int32).toInt = -1) c_2
    refine lv_iconst (v := 0) hx hb dX5_isKnown_23 (by decide) ?_
    exact gs_iret hx hb hr hlocks hM hS (by decide) ⟨hB_st, (Or.inr (⟨rfl, (by have hl0 : (0 : Int32).toInt = 0 := (by decide); omega)⟩))⟩ (by exact Nat.le_refl _) (by exact Nat.le_refl _) dX5_isKnown_24
  · have ic_2 := gz_ne (rfl : x_1.toInt = x_1.toInt) (by decide : ((-1) : Int32).toInt = -1) c_2
    refine lv_iload_n hx hb dX5_isKnown_14 rfl (lv_at hl 0 rfl) ?_
    refine lv_iload_n hx hb dX5_isKnown_15 rfl (lv_at hl 3 rfl) ?_
    refine lv_icmp_gt (tgt := 23) hx hb dX5_isKnown_16 (by decide) (fun c_3 => ?_) (fun c_3 => ?_)
    · have ic_3 := gz_lt (rfl : y.toInt = y.toInt) (rfl : x_1.toInt = x_1.toInt) c_3
      have lc_3 := gi_hi x_1
      refine lv_iconst (v := 0) hx hb dX5_isKnown_23 (by decide) ?_
      exact gs_iret hx hb hr hlocks hM hS (by decide) ⟨hB_st, (Or.inr (⟨rfl, (by have hl0 : (0 : Int32).toInt = 0 := (by decide); omega)⟩))⟩ (by exact Nat.le_refl _) (by exact Nat.le_refl _) dX5_isKnown_24
    · have ic_3 := gz_nlt (rfl : y.toInt = y.toInt) (rfl : x_1.toInt = x_1.toInt) c_3
      refine lv_iconst (v := 1) hx hb dX5_isKnown_19 (by decide) ?_
      refine lv_goto (tgt := 24) hx hb dX5_isKnown_20 (by decide) ?_
      exact gs_iret hx hb hr hlocks hM hS (by decide) ⟨hB_st, (Or.inl (⟨rfl, (by have hl0 : (1 : Int32).toInt = 1 := (by decide); omega), (by have hl0 : (1 : Int32).toInt = 1 := (by decide); omega)⟩))⟩ (by exact Nat.le_refl _) (by exact Nat.le_refl _) dX5_isKnown_24

set_option maxHeartbeats 4000000 in
set_option maxRecDepth 100000 in
/-- WellCourt$Ledger.isOf -/
theorem s_X5_isOf1 (l : Launch) (G : va_G) (cy : Nat → ClassId) (sK sV : Nat → Nat) (ad : Nat → Nat → Nat) (sz : Nat) (st : gS) (hB : gBd bX st) (x : Int32) (y : Int32) (Xx : Int) (Xy : Int) (kx : x.toInt = Xx) (ky : y.toInt = Xy) (hx0 : 0 ≤ Xx) (hx1 : Xx < 300) : gsMi l yX5_isOf cX5_isOf 4 (some .boolean) ({ frames := 0, cells := 0, slots := 0, locals := 0 } : Room) G cy sK sV (shX cy ad) cnX ad sz [.ref (ad 16 0), .int x, .int y, .int 1] st (fun (r : Int32) (u : gS) => gBN bX kX [] st u ∧ ((r = 1 ∧ ((st 18 2 x.toNatClampNeg).toInt = Xy) ∧ ((st 18 4 x.toNatClampNeg).toInt = 1)) ∨ (r = 0 ∧ (¬ ((st 18 2 x.toNatClampNeg).toInt = Xy ∧ (st 18 4 x.toNatClampNeg).toInt = 1))))) := by
  refine gs_start (fun A => gsQi G (shX cy ad) cnX ad _ A) (by decide) (Nat.le_of_ble_eq_true rfl) ?_
  intro p e s m below meth c A ls H hx hb hr hml hlocks hown hts hK hov hE hI hM hm hS hA hl
  have hl : lv_has ls 4 [(0, .ref (ad 16 0)), (1, .int x), (2, .int y), (3, .int 1)] := hl
  have hB_st : gBN bX kX [] st st := gBN.rf hB
  refine lv_aload_n hx hb dX5_isOf_0 rfl (lv_at hl 0 rfl) ?_
  refine gs_get (C := RX5) (T := TX5) (N := 2) hx hb hts inX5 hown hK hM 16 0 0 (by decide) rfl rfl (by decide) (hts _ gm_141) (fun _ h9 => h9) rfl dX5_isOf_1 ?_
  refine lv_iconst (v := 2) hx hb dX5_isOf_4 (by decide) ?_
  refine gs_alda hx hb hK hM 17 0 (by decide) rfl (vp_in_iff.mpr (by decide)) (a := ad 18 2) rfl dX5_isOf_5 ?_
  refine lv_iload_n hx hb dX5_isOf_6 rfl (lv_at hl 1 rfl) ?_
  refine gs_iald hx hb hK hM 18 2 (by decide) rfl (vp_in_iff.mpr ⟨by omega, by omega⟩) dX5_isOf_7 ?_
  refine lv_topi (fun x_1 ex_1 => ?_)
  have qx_1 : x_1.toInt = (st 18 2 (x.toNatClampNeg)).toInt := congrArg Int32.toInt ex_1
  refine lv_iload_n hx hb dX5_isOf_8 rfl (lv_at hl 2 rfl) ?_
  refine lv_icmp_ne (tgt := 36) hx hb dX5_isOf_9 (by decide) (fun c_2 => ?_) (fun c_2 => ?_)
  · have ic_2 := gz_ne (rfl : x_1.toInt = x_1.toInt) (rfl : y.toInt = y.toInt) c_2
    refine lv_iconst (v := 0) hx hb dX5_isOf_36 (by decide) ?_
    exact gs_iret hx hb hr hlocks hM hS (by decide) ⟨hB_st, (Or.inr (⟨rfl, (by have hl0 : (0 : Int32).toInt = 0 := (by decide); omega)⟩))⟩ (by exact Nat.le_refl _) (by exact Nat.le_refl _) dX5_isOf_37
  · have ic_2 := gz_eqn (rfl : x_1.toInt = x_1.toInt) (rfl : y.toInt = y.toInt) c_2
    refine lv_aload_n hx hb dX5_isOf_12 rfl (lv_at hl 0 rfl) ?_
    refine gs_get (C := RX5) (T := TX5) (N := 2) hx hb hts inX5 hown hK hM 16 0 0 (by decide) rfl rfl (by decide) (hts _ gm_141) (fun _ h9 => h9) rfl dX5_isOf_13 ?_
    refine lv_iconst (v := 4) hx hb dX5_isOf_16 (by decide) ?_
    refine gs_alda hx hb hK hM 17 0 (by decide) rfl (vp_in_iff.mpr (by decide)) (a := ad 18 4) rfl dX5_isOf_17 ?_
    refine lv_iload_n hx hb dX5_isOf_18 rfl (lv_at hl 1 rfl) ?_
    refine gs_iald hx hb hK hM 18 4 (by decide) rfl (vp_in_iff.mpr ⟨by omega, by omega⟩) dX5_isOf_19 ?_
    refine lv_topi (fun x_3 ex_3 => ?_)
    have qx_3 : x_3.toInt = (st 18 4 (x.toNatClampNeg)).toInt := congrArg Int32.toInt ex_3
    refine lv_iload_n hx hb dX5_isOf_20 rfl (lv_at hl 3 rfl) ?_
    refine lv_if_eq (tgt := 28) hx hb dX5_isOf_21 (by decide) (fun h9 => absurd h9 (by decide)) (fun _ => ?_)
    refine lv_iconst (v := 1) hx hb dX5_isOf_24 (by decide) ?_
    refine lv_goto (tgt := 29) hx hb dX5_isOf_25 (by decide) ?_
    refine lv_icmp_ne (tgt := 36) hx hb dX5_isOf_29 (by decide) (fun c_4 => ?_) (fun c_4 => ?_)
    · have ic_4 := gz_ne (rfl : x_3.toInt = x_3.toInt) (by decide : (1 : Int32).toInt = 1) c_4
      refine lv_iconst (v := 0) hx hb dX5_isOf_36 (by decide) ?_
      exact gs_iret hx hb hr hlocks hM hS (by decide) ⟨hB_st, (Or.inr (⟨rfl, (by have hl0 : (0 : Int32).toInt = 0 := (by decide); omega)⟩))⟩ (by exact Nat.le_refl _) (by exact Nat.le_refl _) dX5_isOf_37
    · have ic_4 := gz_eqn (rfl : x_3.toInt = x_3.toInt) (by decide : (1 : Int32).toInt = 1) c_4
      refine lv_iconst (v := 1) hx hb dX5_isOf_32 (by decide) ?_
      refine lv_goto (tgt := 37) hx hb dX5_isOf_33 (by decide) ?_
      exact gs_iret hx hb hr hlocks hM hS (by decide) ⟨hB_st, (Or.inl (⟨rfl, (by have hl0 : (1 : Int32).toInt = 1 := (by decide); omega), (by have hl0 : (1 : Int32).toInt = 1 := (by decide); omega)⟩))⟩ (by exact Nat.le_refl _) (by exact Nat.le_refl _) dX5_isOf_37

set_option maxHeartbeats 4000000 in
set_option maxRecDepth 100000 in
/-- WellCourt$Ledger.isOf -/
theorem s_X5_isOf0 (l : Launch) (G : va_G) (cy : Nat → ClassId) (sK sV : Nat → Nat) (ad : Nat → Nat → Nat) (sz : Nat) (st : gS) (hB : gBd bX st) (x : Int32) (y : Int32) (Xx : Int) (Xy : Int) (kx : x.toInt = Xx) (ky : y.toInt = Xy) (hx0 : 0 ≤ Xx) (hx1 : Xx < 300) : gsMi l yX5_isOf cX5_isOf 4 (some .boolean) ({ frames := 0, cells := 0, slots := 0, locals := 0 } : Room) G cy sK sV (shX cy ad) cnX ad sz [.ref (ad 16 0), .int x, .int y, .int 0] st (fun (r : Int32) (u : gS) => gBN bX kX [] st u ∧ ((r = 1 ∧ ((st 18 2 x.toNatClampNeg).toInt = Xy) ∧ ((st 18 4 x.toNatClampNeg).toInt = 0)) ∨ (r = 0 ∧ (¬ ((st 18 2 x.toNatClampNeg).toInt = Xy ∧ (st 18 4 x.toNatClampNeg).toInt = 0))))) := by
  refine gs_start (fun A => gsQi G (shX cy ad) cnX ad _ A) (by decide) (Nat.le_of_ble_eq_true rfl) ?_
  intro p e s m below meth c A ls H hx hb hr hml hlocks hown hts hK hov hE hI hM hm hS hA hl
  have hl : lv_has ls 4 [(0, .ref (ad 16 0)), (1, .int x), (2, .int y), (3, .int 0)] := hl
  have hB_st : gBN bX kX [] st st := gBN.rf hB
  refine lv_aload_n hx hb dX5_isOf_0 rfl (lv_at hl 0 rfl) ?_
  refine gs_get (C := RX5) (T := TX5) (N := 2) hx hb hts inX5 hown hK hM 16 0 0 (by decide) rfl rfl (by decide) (hts _ gm_141) (fun _ h9 => h9) rfl dX5_isOf_1 ?_
  refine lv_iconst (v := 2) hx hb dX5_isOf_4 (by decide) ?_
  refine gs_alda hx hb hK hM 17 0 (by decide) rfl (vp_in_iff.mpr (by decide)) (a := ad 18 2) rfl dX5_isOf_5 ?_
  refine lv_iload_n hx hb dX5_isOf_6 rfl (lv_at hl 1 rfl) ?_
  refine gs_iald hx hb hK hM 18 2 (by decide) rfl (vp_in_iff.mpr ⟨by omega, by omega⟩) dX5_isOf_7 ?_
  refine lv_topi (fun x_1 ex_1 => ?_)
  have qx_1 : x_1.toInt = (st 18 2 (x.toNatClampNeg)).toInt := congrArg Int32.toInt ex_1
  refine lv_iload_n hx hb dX5_isOf_8 rfl (lv_at hl 2 rfl) ?_
  refine lv_icmp_ne (tgt := 36) hx hb dX5_isOf_9 (by decide) (fun c_2 => ?_) (fun c_2 => ?_)
  · have ic_2 := gz_ne (rfl : x_1.toInt = x_1.toInt) (rfl : y.toInt = y.toInt) c_2
    refine lv_iconst (v := 0) hx hb dX5_isOf_36 (by decide) ?_
    exact gs_iret hx hb hr hlocks hM hS (by decide) ⟨hB_st, (Or.inr (⟨rfl, (by have hl0 : (0 : Int32).toInt = 0 := (by decide); omega)⟩))⟩ (by exact Nat.le_refl _) (by exact Nat.le_refl _) dX5_isOf_37
  · have ic_2 := gz_eqn (rfl : x_1.toInt = x_1.toInt) (rfl : y.toInt = y.toInt) c_2
    refine lv_aload_n hx hb dX5_isOf_12 rfl (lv_at hl 0 rfl) ?_
    refine gs_get (C := RX5) (T := TX5) (N := 2) hx hb hts inX5 hown hK hM 16 0 0 (by decide) rfl rfl (by decide) (hts _ gm_141) (fun _ h9 => h9) rfl dX5_isOf_13 ?_
    refine lv_iconst (v := 4) hx hb dX5_isOf_16 (by decide) ?_
    refine gs_alda hx hb hK hM 17 0 (by decide) rfl (vp_in_iff.mpr (by decide)) (a := ad 18 4) rfl dX5_isOf_17 ?_
    refine lv_iload_n hx hb dX5_isOf_18 rfl (lv_at hl 1 rfl) ?_
    refine gs_iald hx hb hK hM 18 4 (by decide) rfl (vp_in_iff.mpr ⟨by omega, by omega⟩) dX5_isOf_19 ?_
    refine lv_topi (fun x_3 ex_3 => ?_)
    have qx_3 : x_3.toInt = (st 18 4 (x.toNatClampNeg)).toInt := congrArg Int32.toInt ex_3
    refine lv_iload_n hx hb dX5_isOf_20 rfl (lv_at hl 3 rfl) ?_
    refine lv_if_eq (tgt := 28) hx hb dX5_isOf_21 (by decide) (fun _ => ?_) (fun h9 => absurd (by decide) h9)
    refine lv_iconst (v := 0) hx hb dX5_isOf_28 (by decide) ?_
    refine lv_icmp_ne (tgt := 36) hx hb dX5_isOf_29 (by decide) (fun c_4 => ?_) (fun c_4 => ?_)
    · have ic_4 := gz_ne (rfl : x_3.toInt = x_3.toInt) (by decide : (0 : Int32).toInt = 0) c_4
      refine lv_iconst (v := 0) hx hb dX5_isOf_36 (by decide) ?_
      exact gs_iret hx hb hr hlocks hM hS (by decide) ⟨hB_st, (Or.inr (⟨rfl, (by have hl0 : (0 : Int32).toInt = 0 := (by decide); omega)⟩))⟩ (by exact Nat.le_refl _) (by exact Nat.le_refl _) dX5_isOf_37
    · have ic_4 := gz_eqn (rfl : x_3.toInt = x_3.toInt) (by decide : (0 : Int32).toInt = 0) c_4
      refine lv_iconst (v := 1) hx hb dX5_isOf_32 (by decide) ?_
      refine lv_goto (tgt := 37) hx hb dX5_isOf_33 (by decide) ?_
      exact gs_iret hx hb hr hlocks hM hS (by decide) ⟨hB_st, (Or.inl (⟨rfl, (by have hl0 : (1 : Int32).toInt = 1 := (by decide); omega), (by have hl0 : (1 : Int32).toInt = 1 := (by decide); omega)⟩))⟩ (by exact Nat.le_refl _) (by exact Nat.le_refl _) dX5_isOf_37

set_option maxHeartbeats 4000000 in
set_option maxRecDepth 100000 in
/-- WellCourt$Ledger.rightfulOn -/
theorem s_X5_rightfulOn (l : Launch) (G : va_G) (cy : Nat → ClassId) (sK sV : Nat → Nat) (ad : Nat → Nat → Nat) (sz : Nat) (st : gS) (hB : gBd bX st) (x : Int32) (y : Int32) (w : Int32) (Xx : Int) (Xy : Int) (Xw : Int) (kx : x.toInt = Xx) (ky : y.toInt = Xy) (kw : w.toInt = Xw) : gsMi l yX5_rightfulOn cX5_rightfulOn 6 (some .int) ({ frames := 1, cells := 0, slots := 0, locals := 23 } : Room) G cy sK sV (shX cy ad) cnX ad sz [.ref (ad 16 0), .int x, .int y, .int w] st (fun (r : Int32) (u : gS) => gBN bX kX [] st u ∧ ((r = sW (pGd (st 18 0) (st 18 1) (st 18 2) (st 18 4) Xx Xy Xw) (st 18 3) (st 16 0 1).toNatClampNeg))) := by
  refine gs_start (fun A => gsQi G (shX cy ad) cnX ad _ A) (by decide) (Nat.le_of_ble_eq_true rfl) ?_
  intro p e s m below meth c A ls H hx hb hr hml hlocks hown hts hK hov hE hI hM hm hS hA hl
  have hl : lv_has ls 6 [(0, .ref (ad 16 0)), (1, .int x), (2, .int y), (3, .int w)] := hl
  have hB_st : gBN bX kX [] st st := gBN.rf hB
  have b16 : (0 : Int) ≤ (st 16 0 1).toInt ∧ (st 16 0 1).toInt ≤ (300 : Int) := hB 16 0 1
  generalize hQe : MQ below _ _ s _ _ A = Q
  refine lv_iconst (v := 0) hx hb dX5_rightfulOn_0 (by decide) ?_
  refine lv_istore (lv' := [(4, .int 0), (0, .ref (ad 16 0)), (1, .int x), (2, .int y), (3, .int w)]) hx hb dX5_rightfulOn_1 hl (by decide) rfl (fun ls hl => ?_)
  refine lv_iconst (v := 0) hx hb dX5_rightfulOn_3 (by decide) ?_
  refine lv_istore (lv' := [(5, .int 0), (4, .int 0), (0, .ref (ad 16 0)), (1, .int x), (2, .int y), (3, .int w)]) hx hb dX5_rightfulOn_4 hl (by decide) rfl (fun ls hl => ?_)
  have lp1 : ∀ (n1 : Nat)  (y1_0 : Int32) (y1_1 : Int32) (H : Heap) (locs : List Loc) (ls : Array Slot), (300 - y1_1.toInt).toNat < n1 →  (0 ≤ y1_1.toInt) → (y1_1.toInt ≤ (st 16 0 1).toInt) → (y1_0 = sW (pGd (st 18 0) (st 18 1) (st 18 2) (st 18 4) Xx Xy Xw) (st 18 3) y1_1.toNatClampNeg) → gM G (shX cy ad) cnX ad st H → va_S A s.heap H locs → lv_has ls 6 [(5, .int y1_1), (4, .int y1_0), (0, .ref (ad 16 0)), (1, .int x), (2, .int y), (3, .int w)] → W p l e ({ frames := 1, cells := 0, slots := 0, locals := 23 } : Room) s m [.ref (ad 16 0), .int x, .int y, .int w].toArray below meth c H locs 0 0 Q (F0 m 6 ls []) := by
    intro n1
    induction n1 with
    | zero => intro  y1_0 y1_1 H locs ls h9; exact absurd h9 (Nat.not_lt_zero _)
    | succ n1 ih_1 =>
      intro  y1_0 y1_1 H locs ls hme1  hv1_0 hv1_1 hv1_2 hM hS hl
      have hb1_0 : (0 : Int) ≤ (st 16 0 1).toInt ∧ (st 16 0 1).toInt ≤ (300 : Int) := hB_st.1 16 0 1
      refine lv_iload hx hb dX5_rightfulOn_6 (lv_at hl 0 rfl) ?_
      refine lv_aload_n hx hb dX5_rightfulOn_8 rfl (lv_at hl 2 rfl) ?_
      refine gs_get (C := RX5) (T := TX5) (N := 2) hx hb hts inX5 hown hK hM 16 0 1 (by decide) rfl rfl (by decide) (hts _ gm_143) (fun _ h9 => h9) rfl dX5_rightfulOn_9 ?_
      have bf_2 : (0 : Int) ≤ (st 16 0 1).toInt ∧ (st 16 0 1).toInt ≤ (300 : Int) := hB_st.1 16 0 1
      refine lv_icmp_ge (tgt := 72) hx hb dX5_rightfulOn_12 (by decide) (fun c_3 => ?_) (fun c_3 => ?_)
      · have ic_3 := gz_le (rfl : (st 16 0 1).toInt = (st 16 0 1).toInt) (rfl : y1_1.toInt = y1_1.toInt) c_3
        refine lv_iload hx hb dX5_rightfulOn_72 (lv_at hl 1 rfl) ?_
        rw [← hQe]
        exact gs_iret hx hb hr hlocks hM hS rfl ⟨hB_st, (by have c_y1_1 := gs_cl (x := y1_1) (by omega); have c_s := gs_cl (x := st 16 0 1) (by omega); have h9 := hv1_2; rw [show y1_1.toNatClampNeg = (st 16 0 1).toNatClampNeg by omega] at h9; exact h9)⟩ (by exact Nat.le_refl _) (by exact Nat.le_refl _) dX5_rightfulOn_74
      · have ic_3 := gz_nle (rfl : (st 16 0 1).toInt = (st 16 0 1).toInt) (rfl : y1_1.toInt = y1_1.toInt) c_3
        have lc_3 := gi_hi (st 16 0 1)
        refine lv_aload_n hx hb dX5_rightfulOn_15 rfl (lv_at hl 2 rfl) ?_
        refine gs_get (C := RX5) (T := TX5) (N := 2) hx hb hts inX5 hown hK hM 16 0 0 (by decide) rfl rfl (by decide) (hts _ gm_141) (fun _ h9 => h9) rfl dX5_rightfulOn_16 ?_
        refine lv_iconst (v := 0) hx hb dX5_rightfulOn_19 (by decide) ?_
        refine gs_alda hx hb hK hM 17 0 (by decide) rfl (vp_in_iff.mpr (by decide)) (a := ad 18 0) rfl dX5_rightfulOn_20 ?_
        refine lv_iload hx hb dX5_rightfulOn_21 (lv_at hl 0 rfl) ?_
        refine gs_iald hx hb hK hM 18 0 (by decide) rfl (vp_in_iff.mpr ⟨by omega, by omega⟩) dX5_rightfulOn_23 ?_
        refine lv_topi (fun x_4 ex_4 => ?_)
        have qx_4 : x_4.toInt = (st 18 0 (y1_1.toNatClampNeg)).toInt := congrArg Int32.toInt ex_4
        refine lv_iload_n hx hb dX5_rightfulOn_24 rfl (lv_at hl 3 rfl) ?_
        refine lv_icmp_ne (tgt := 66) hx hb dX5_rightfulOn_25 (by decide) (fun c_5 => ?_) (fun c_5 => ?_)
        · have ic_5 := gz_ne (rfl : x_4.toInt = x_4.toInt) (rfl : x.toInt = x.toInt) c_5
          obtain ⟨x_6, ex_6⟩ : ∃ y : Int32, y = y1_1 + 1 := ⟨_, rfl⟩
          try have tx_6 : x_6.toInt = y1_1.toInt + 1 := by rw [ex_6]; exact gz_addP (x := y1_1.toInt) (y := 1) rfl (by decide) (by omega) (by omega)
          refine lv_iinc (v := (x_6)) (lv' := [(5, .int x_6), (4, .int y1_0), (0, .ref (ad 16 0)), (1, .int x), (2, .int y), (3, .int w)]) hx hb dX5_rightfulOn_66 hl (k := 0) rfl (by rw [ex_6]; rfl) (by decide) rfl (fun ls hl => ?_)
          refine lv_goto (tgt := 6) hx hb dX5_rightfulOn_69 (by decide) ?_
          exact ih_1  (y1_0 : Int32) (x_6 : Int32) H _ ls (by omega)  (by omega) (by have hb0 : (0 : Int) ≤ (st 16 0 1).toInt ∧ (st 16 0 1).toInt ≤ (300 : Int) := hB_st.1 16 0 1; omega) (sW.skip hv1_2 (by omega) (by omega) (pGd_f (by omega))) hM hS (lv_sub hl [0, 1, 2, 3, 4, 5] rfl)
        · have ic_5 := gz_eqn (rfl : x_4.toInt = x_4.toInt) (rfl : x.toInt = x.toInt) c_5
          refine lv_aload_n hx hb dX5_rightfulOn_28 rfl (lv_at hl 2 rfl) ?_
          refine gs_get (C := RX5) (T := TX5) (N := 2) hx hb hts inX5 hown hK hM 16 0 0 (by decide) rfl rfl (by decide) (hts _ gm_141) (fun _ h9 => h9) rfl dX5_rightfulOn_29 ?_
          refine lv_iconst (v := 1) hx hb dX5_rightfulOn_32 (by decide) ?_
          refine gs_alda hx hb hK hM 17 0 (by decide) rfl (vp_in_iff.mpr (by decide)) (a := ad 18 1) rfl dX5_rightfulOn_33 ?_
          refine lv_iload hx hb dX5_rightfulOn_34 (lv_at hl 0 rfl) ?_
          refine gs_iald hx hb hK hM 18 1 (by decide) rfl (vp_in_iff.mpr ⟨by omega, by omega⟩) dX5_rightfulOn_36 ?_
          refine lv_topi (fun x_7 ex_7 => ?_)
          have qx_7 : x_7.toInt = (st 18 1 (y1_1.toNatClampNeg)).toInt := congrArg Int32.toInt ex_7
          refine lv_iload_n hx hb dX5_rightfulOn_37 rfl (lv_at hl 4 rfl) ?_
          refine lv_icmp_ne (tgt := 66) hx hb dX5_rightfulOn_38 (by decide) (fun c_8 => ?_) (fun c_8 => ?_)
          · have ic_8 := gz_ne (rfl : x_7.toInt = x_7.toInt) (rfl : y.toInt = y.toInt) c_8
            obtain ⟨x_9, ex_9⟩ : ∃ y : Int32, y = y1_1 + 1 := ⟨_, rfl⟩
            try have tx_9 : x_9.toInt = y1_1.toInt + 1 := by rw [ex_9]; exact gz_addP (x := y1_1.toInt) (y := 1) rfl (by decide) (by omega) (by omega)
            refine lv_iinc (v := (x_9)) (lv' := [(5, .int x_9), (4, .int y1_0), (0, .ref (ad 16 0)), (1, .int x), (2, .int y), (3, .int w)]) hx hb dX5_rightfulOn_66 hl (k := 0) rfl (by rw [ex_9]; rfl) (by decide) rfl (fun ls hl => ?_)
            refine lv_goto (tgt := 6) hx hb dX5_rightfulOn_69 (by decide) ?_
            exact ih_1  (y1_0 : Int32) (x_9 : Int32) H _ ls (by omega)  (by omega) (by have hb0 : (0 : Int) ≤ (st 16 0 1).toInt ∧ (st 16 0 1).toInt ≤ (300 : Int) := hB_st.1 16 0 1; omega) (sW.skip hv1_2 (by omega) (by omega) (pGd_f (by omega))) hM hS (lv_sub hl [0, 1, 2, 3, 4, 5] rfl)
          · have ic_8 := gz_eqn (rfl : x_7.toInt = x_7.toInt) (rfl : y.toInt = y.toInt) c_8
            refine lv_aload_n hx hb dX5_rightfulOn_41 rfl (lv_at hl 2 rfl) ?_
            refine lv_iload hx hb dX5_rightfulOn_42 (lv_at hl 0 rfl) ?_
            refine lv_iload_n hx hb dX5_rightfulOn_44 rfl (lv_at hl 5 rfl) ?_
            refine lv_iconst (v := 1) hx hb dX5_rightfulOn_45 (by decide) ?_
            refine gs_calli (va_runV (As := [.int y1_1, .int w, .int 1]) (rest := []) ⟨hx, hb, hml, hown, hts⟩ (s_X5_isOf1 l G cy sK sV ad H.size st hB_st.1 y1_1 w y1_1.toInt w.toInt rfl rfl (by first | decide | omega) (by first | decide | omega)) ⟨(gz_cb (n := 3) hts gm_647 gm_8 gm_650 ⟨by decide +kernel, by decide +kernel, by decide +kernel⟩ ⟨Nat.le_of_ble_eq_true rfl, Nat.le_of_ble_eq_true rfl⟩), hts _ gm_649, hts _ gs_20⟩ (gs_preV hK hov hE hI hM hm hS hA 16 0 (by decide) rfl rfl) rfl rfl hl.1 rfl (lv_room (Nat.le_of_ble_eq_true rfl)) dX5_rightfulOn_46 ⟨Nat.le_of_ble_eq_true rfl, Nat.le_of_ble_eq_true rfl⟩) hm hS hA (fun r_10 st_10 H locs hw_10 hM hS => ?_)
            obtain ⟨n_10, hw_10⟩ := hw_10
            have n_10 := gBN.nil n_10
            subst n_10
            rcases hw_10 with ⟨rfl, hw_10_0, hw_10_1⟩ | ⟨rfl, hw_10_0⟩
            · skip
              refine lv_if_eq (tgt := 66) hx hb dX5_rightfulOn_49 (by decide) (fun h9 => absurd h9 (by decide)) (fun _ => ?_)
              refine lv_iload hx hb dX5_rightfulOn_52 (lv_at hl 1 rfl) ?_
              refine lv_aload_n hx hb dX5_rightfulOn_54 rfl (lv_at hl 2 rfl) ?_
              refine gs_get (C := RX5) (T := TX5) (N := 2) hx hb hts inX5 hown hK hM 16 0 0 (by decide) rfl rfl (by decide) (hts _ gm_141) (fun _ h9 => h9) rfl dX5_rightfulOn_55 ?_
              refine lv_iconst (v := 3) hx hb dX5_rightfulOn_58 (by decide) ?_
              refine gs_alda hx hb hK hM 17 0 (by decide) rfl (vp_in_iff.mpr (by decide)) (a := ad 18 3) rfl dX5_rightfulOn_59 ?_
              refine lv_iload hx hb dX5_rightfulOn_60 (lv_at hl 0 rfl) ?_
              refine gs_iald hx hb hK hM 18 3 (by decide) rfl (vp_in_iff.mpr ⟨by omega, by omega⟩) dX5_rightfulOn_62 ?_
              refine lv_topi (fun x_11 ex_11 => ?_)
              have qx_11 : x_11.toInt = (st 18 3 (y1_1.toNatClampNeg)).toInt := congrArg Int32.toInt ex_11
              refine lv_iadd hx hb dX5_rightfulOn_63 ?_
              refine lv_topi (fun x_12 ex_12 => ?_)
              refine lv_istore (lv' := [(4, .int x_12), (5, .int y1_1), (0, .ref (ad 16 0)), (1, .int x), (2, .int y), (3, .int w)]) hx hb dX5_rightfulOn_64 hl (by decide) rfl (fun ls hl => ?_)
              obtain ⟨x_13, ex_13⟩ : ∃ y : Int32, y = y1_1 + 1 := ⟨_, rfl⟩
              try have tx_13 : x_13.toInt = y1_1.toInt + 1 := by rw [ex_13]; exact gz_addP (x := y1_1.toInt) (y := 1) rfl (by decide) (by omega) (by omega)
              refine lv_iinc (v := (x_13)) (lv' := [(5, .int x_13), (4, .int x_12), (0, .ref (ad 16 0)), (1, .int x), (2, .int y), (3, .int w)]) hx hb dX5_rightfulOn_66 hl (k := 1) rfl (by rw [ex_13]; rfl) (by decide) rfl (fun ls hl => ?_)
              refine lv_goto (tgt := 6) hx hb dX5_rightfulOn_69 (by decide) ?_
              exact ih_1  (x_12 : Int32) (x_13 : Int32) H _ ls (by omega)  (by omega) (by have hb0 : (0 : Int) ≤ (st 16 0 1).toInt ∧ (st 16 0 1).toInt ≤ (300 : Int) := hB_st.1 16 0 1; omega) (sW.go hv1_2 (by omega) (by omega) (pGd_t (by omega) (by omega) (by omega) (by omega)) ex_12 ex_11) hM hS (lv_sub hl [0, 1, 2, 3, 4, 5] rfl)
            · skip
              refine lv_if_eq (tgt := 66) hx hb dX5_rightfulOn_49 (by decide) (fun _ => ?_) (fun h9 => absurd (by decide) h9)
              obtain ⟨x_14, ex_14⟩ : ∃ y : Int32, y = y1_1 + 1 := ⟨_, rfl⟩
              try have tx_14 : x_14.toInt = y1_1.toInt + 1 := by rw [ex_14]; exact gz_addP (x := y1_1.toInt) (y := 1) rfl (by decide) (by omega) (by omega)
              refine lv_iinc (v := (x_14)) (lv' := [(5, .int x_14), (4, .int y1_0), (0, .ref (ad 16 0)), (1, .int x), (2, .int y), (3, .int w)]) hx hb dX5_rightfulOn_66 hl (k := 0) rfl (by rw [ex_14]; rfl) (by decide) rfl (fun ls hl => ?_)
              refine lv_goto (tgt := 6) hx hb dX5_rightfulOn_69 (by decide) ?_
              exact ih_1  (y1_0 : Int32) (x_14 : Int32) H _ ls (by omega)  (by omega) (by have hb0 : (0 : Int) ≤ (st 16 0 1).toInt ∧ (st 16 0 1).toInt ≤ (300 : Int) := hB_st.1 16 0 1; omega) (sW.skip hv1_2 (by omega) (by omega) (pGd_f (by omega))) hM hS (lv_sub hl [0, 1, 2, 3, 4, 5] rfl)
  exact lp1 ((300 - ((0 : Int32) : Int32).toInt).toNat + 1)  ((0 : Int32) : Int32) ((0 : Int32) : Int32) H _ ls (Nat.lt_succ_self _)  (by have hl0 : (0 : Int32).toInt = 0 := (by decide); have hl1 : (0 : Int32).toInt = 0 := (by decide); omega) (by have hl0 : (0 : Int32).toInt = 0 := (by decide); have hl1 : (0 : Int32).toInt = 0 := (by decide); have hb2 : (0 : Int) ≤ (st 16 0 1).toInt ∧ (st 16 0 1).toInt ≤ (300 : Int) := hB_st.1 16 0 1; omega) (sW.new (by decide)) hM hS (lv_sub hl [0, 1, 2, 3, 4, 5] rfl)

set_option maxHeartbeats 4000000 in
set_option maxRecDepth 100000 in
/-- WellCourt$Ledger.sum -/
theorem s_X5_sum1 (l : Launch) (G : va_G) (cy : Nat → ClassId) (sK sV : Nat → Nat) (ad : Nat → Nat → Nat) (sz : Nat) (st : gS) (hB : gBd bX st) (x : Int32) (y : Int32) (w : Int32) (Xx : Int) (Xy : Int) (Xw : Int) (kx : x.toInt = Xx) (ky : y.toInt = Xy) (kw : w.toInt = Xw) : gsMi l yX5_sum cX5_sum 7 (some .int) ({ frames := 1, cells := 0, slots := 0, locals := 23 } : Room) G cy sK sV (shX cy ad) cnX ad sz [.ref (ad 16 0), .int x, .int y, .int w, .int 1] st (fun (r : Int32) (u : gS) => gBN bX kX [] st u ∧ ((r = sW (pJr (st 18 0) (st 18 2) (st 18 4) Xx Xy Xw 1) (st 18 3) (st 16 0 1).toNatClampNeg))) := by
  refine gs_start (fun A => gsQi G (shX cy ad) cnX ad _ A) (by decide) (Nat.le_of_ble_eq_true rfl) ?_
  intro p e s m below meth c A ls H hx hb hr hml hlocks hown hts hK hov hE hI hM hm hS hA hl
  have hl : lv_has ls 7 [(0, .ref (ad 16 0)), (1, .int x), (2, .int y), (3, .int w), (4, .int 1)] := hl
  have hB_st : gBN bX kX [] st st := gBN.rf hB
  have b16 : (0 : Int) ≤ (st 16 0 1).toInt ∧ (st 16 0 1).toInt ≤ (300 : Int) := hB 16 0 1
  generalize hQe : MQ below _ _ s _ _ A = Q
  refine lv_iconst (v := 0) hx hb dX5_sum_0 (by decide) ?_
  refine lv_istore (lv' := [(5, .int 0), (0, .ref (ad 16 0)), (1, .int x), (2, .int y), (3, .int w), (4, .int 1)]) hx hb dX5_sum_1 hl (by decide) rfl (fun ls hl => ?_)
  refine lv_iconst (v := 0) hx hb dX5_sum_3 (by decide) ?_
  refine lv_istore (lv' := [(6, .int 0), (5, .int 0), (0, .ref (ad 16 0)), (1, .int x), (2, .int y), (3, .int w), (4, .int 1)]) hx hb dX5_sum_4 hl (by decide) rfl (fun ls hl => ?_)
  have lp1 : ∀ (n1 : Nat)  (y1_0 : Int32) (y1_1 : Int32) (H : Heap) (locs : List Loc) (ls : Array Slot), (300 - y1_1.toInt).toNat < n1 →  (0 ≤ y1_1.toInt) → (y1_1.toInt ≤ (st 16 0 1).toInt) → (y1_0 = sW (pJr (st 18 0) (st 18 2) (st 18 4) Xx Xy Xw 1) (st 18 3) y1_1.toNatClampNeg) → gM G (shX cy ad) cnX ad st H → va_S A s.heap H locs → lv_has ls 7 [(6, .int y1_1), (5, .int y1_0), (0, .ref (ad 16 0)), (1, .int x), (2, .int y), (3, .int w), (4, .int 1)] → W p l e ({ frames := 1, cells := 0, slots := 0, locals := 23 } : Room) s m [.ref (ad 16 0), .int x, .int y, .int w, .int 1].toArray below meth c H locs 0 0 Q (F0 m 6 ls []) := by
    intro n1
    induction n1 with
    | zero => intro  y1_0 y1_1 H locs ls h9; exact absurd h9 (Nat.not_lt_zero _)
    | succ n1 ih_1 =>
      intro  y1_0 y1_1 H locs ls hme1  hv1_0 hv1_1 hv1_2 hM hS hl
      have hb1_0 : (0 : Int) ≤ (st 16 0 1).toInt ∧ (st 16 0 1).toInt ≤ (300 : Int) := hB_st.1 16 0 1
      refine lv_iload hx hb dX5_sum_6 (lv_at hl 0 rfl) ?_
      refine lv_aload_n hx hb dX5_sum_8 rfl (lv_at hl 2 rfl) ?_
      refine gs_get (C := RX5) (T := TX5) (N := 2) hx hb hts inX5 hown hK hM 16 0 1 (by decide) rfl rfl (by decide) (hts _ gm_143) (fun _ h9 => h9) rfl dX5_sum_9 ?_
      have bf_2 : (0 : Int) ≤ (st 16 0 1).toInt ∧ (st 16 0 1).toInt ≤ (300 : Int) := hB_st.1 16 0 1
      refine lv_icmp_ge (tgt := 64) hx hb dX5_sum_12 (by decide) (fun c_3 => ?_) (fun c_3 => ?_)
      · have ic_3 := gz_le (rfl : (st 16 0 1).toInt = (st 16 0 1).toInt) (rfl : y1_1.toInt = y1_1.toInt) c_3
        refine lv_iload hx hb dX5_sum_64 (lv_at hl 1 rfl) ?_
        rw [← hQe]
        exact gs_iret hx hb hr hlocks hM hS rfl ⟨hB_st, (by have c_y1_1 := gs_cl (x := y1_1) (by omega); have c_s := gs_cl (x := st 16 0 1) (by omega); have h9 := hv1_2; rw [show y1_1.toNatClampNeg = (st 16 0 1).toNatClampNeg by omega] at h9; exact h9)⟩ (by exact Nat.le_refl _) (by exact Nat.le_refl _) dX5_sum_66
      · have ic_3 := gz_nle (rfl : (st 16 0 1).toInt = (st 16 0 1).toInt) (rfl : y1_1.toInt = y1_1.toInt) c_3
        have lc_3 := gi_hi (st 16 0 1)
        refine lv_aload_n hx hb dX5_sum_15 rfl (lv_at hl 2 rfl) ?_
        refine lv_iload hx hb dX5_sum_16 (lv_at hl 0 rfl) ?_
        refine lv_iload_n hx hb dX5_sum_18 rfl (lv_at hl 3 rfl) ?_
        refine lv_iload hx hb dX5_sum_19 (lv_at hl 6 rfl) ?_
        refine gs_calli (va_runV (As := [.int y1_1, .int x, .int 1]) (rest := []) ⟨hx, hb, hml, hown, hts⟩ (s_X5_isOf1 l G cy sK sV ad H.size st hB_st.1 y1_1 x y1_1.toInt x.toInt rfl rfl (by first | decide | omega) (by first | decide | omega)) ⟨(gz_cb (n := 3) hts gm_647 gm_8 gm_650 ⟨by decide +kernel, by decide +kernel, by decide +kernel⟩ ⟨Nat.le_of_ble_eq_true rfl, Nat.le_of_ble_eq_true rfl⟩), hts _ gm_649, hts _ gs_20⟩ (gs_preV hK hov hE hI hM hm hS hA 16 0 (by decide) rfl rfl) rfl rfl hl.1 rfl (lv_room (Nat.le_of_ble_eq_true rfl)) dX5_sum_21 ⟨Nat.le_of_ble_eq_true rfl, Nat.le_of_ble_eq_true rfl⟩) hm hS hA (fun r_4 st_4 H locs hw_4 hM hS => ?_)
        obtain ⟨n_4, hw_4⟩ := hw_4
        have n_4 := gBN.nil n_4
        subst n_4
        rcases hw_4 with ⟨rfl, hw_4_0, hw_4_1⟩ | ⟨rfl, hw_4_0⟩
        · skip
          refine lv_if_eq (tgt := 58) hx hb dX5_sum_24 (by decide) (fun h9 => absurd h9 (by decide)) (fun _ => ?_)
          refine lv_aload_n hx hb dX5_sum_27 rfl (lv_at hl 2 rfl) ?_
          refine gs_get (C := RX5) (T := TX5) (N := 2) hx hb hts inX5 hown hK hM 16 0 0 (by decide) rfl rfl (by decide) (hts _ gm_141) (fun _ h9 => h9) rfl dX5_sum_28 ?_
          refine lv_iconst (v := 0) hx hb dX5_sum_31 (by decide) ?_
          refine gs_alda hx hb hK hM 17 0 (by decide) rfl (vp_in_iff.mpr (by decide)) (a := ad 18 0) rfl dX5_sum_32 ?_
          refine lv_iload hx hb dX5_sum_33 (lv_at hl 0 rfl) ?_
          refine gs_iald hx hb hK hM 18 0 (by decide) rfl (vp_in_iff.mpr ⟨by omega, by omega⟩) dX5_sum_35 ?_
          refine lv_topi (fun x_5 ex_5 => ?_)
          have qx_5 : x_5.toInt = (st 18 0 (y1_1.toNatClampNeg)).toInt := congrArg Int32.toInt ex_5
          refine lv_iload_n hx hb dX5_sum_36 rfl (lv_at hl 4 rfl) ?_
          refine lv_iload_n hx hb dX5_sum_37 rfl (lv_at hl 5 rfl) ?_
          refine gs_calli (va_runSN (As := [.int x_5, .int y, .int w]) (rest := []) ⟨hx, hb, hml, hown, hts⟩ (s_isWithin l G cy sK sV ad H.size st hB_st.1 x_5 y w x_5.toInt y.toInt w.toInt rfl rfl rfl ) ⟨(va_cnB 3 hts (gz_good gm_353) rfl rfl rfl (hov.2.2 _ gn_675) (hts _ gm_1) ⟨by decide +kernel, by decide +kernel, by decide +kernel⟩ ⟨Nat.le_of_ble_eq_true rfl, Nat.le_of_ble_eq_true rfl⟩), hts _ gm_352, trivial⟩ (gs_preS hK hov hE hI hM hm hS hA) rfl rfl hl.1 rfl (lv_room (Nat.le_of_ble_eq_true rfl)) dX5_sum_38 ⟨Nat.le_of_ble_eq_true rfl, Nat.le_of_ble_eq_true rfl⟩) hm hS hA (fun r_6 st_6 H locs hw_6 hM hS => ?_)
          obtain ⟨n_6, hw_6⟩ := hw_6
          have n_6 := gBN.nil n_6
          subst n_6
          rcases hw_6 with ⟨rfl, hw_6_0, hw_6_1⟩ | ⟨rfl, hw_6_0⟩
          · skip
            refine lv_if_eq (tgt := 58) hx hb dX5_sum_41 (by decide) (fun h9 => absurd h9 (by decide)) (fun _ => ?_)
            refine lv_iload hx hb dX5_sum_44 (lv_at hl 1 rfl) ?_
            refine lv_aload_n hx hb dX5_sum_46 rfl (lv_at hl 2 rfl) ?_
            refine gs_get (C := RX5) (T := TX5) (N := 2) hx hb hts inX5 hown hK hM 16 0 0 (by decide) rfl rfl (by decide) (hts _ gm_141) (fun _ h9 => h9) rfl dX5_sum_47 ?_
            refine lv_iconst (v := 3) hx hb dX5_sum_50 (by decide) ?_
            refine gs_alda hx hb hK hM 17 0 (by decide) rfl (vp_in_iff.mpr (by decide)) (a := ad 18 3) rfl dX5_sum_51 ?_
            refine lv_iload hx hb dX5_sum_52 (lv_at hl 0 rfl) ?_
            refine gs_iald hx hb hK hM 18 3 (by decide) rfl (vp_in_iff.mpr ⟨by omega, by omega⟩) dX5_sum_54 ?_
            refine lv_topi (fun x_7 ex_7 => ?_)
            have qx_7 : x_7.toInt = (st 18 3 (y1_1.toNatClampNeg)).toInt := congrArg Int32.toInt ex_7
            refine lv_iadd hx hb dX5_sum_55 ?_
            refine lv_topi (fun x_8 ex_8 => ?_)
            refine lv_istore (lv' := [(5, .int x_8), (6, .int y1_1), (0, .ref (ad 16 0)), (1, .int x), (2, .int y), (3, .int w), (4, .int 1)]) hx hb dX5_sum_56 hl (by decide) rfl (fun ls hl => ?_)
            obtain ⟨x_9, ex_9⟩ : ∃ y : Int32, y = y1_1 + 1 := ⟨_, rfl⟩
            try have tx_9 : x_9.toInt = y1_1.toInt + 1 := by rw [ex_9]; exact gz_addP (x := y1_1.toInt) (y := 1) rfl (by decide) (by omega) (by omega)
            refine lv_iinc (v := (x_9)) (lv' := [(6, .int x_9), (5, .int x_8), (0, .ref (ad 16 0)), (1, .int x), (2, .int y), (3, .int w), (4, .int 1)]) hx hb dX5_sum_58 hl (k := 1) rfl (by rw [ex_9]; rfl) (by decide) rfl (fun ls hl => ?_)
            refine lv_goto (tgt := 6) hx hb dX5_sum_61 (by decide) ?_
            exact ih_1  (x_8 : Int32) (x_9 : Int32) H _ ls (by omega)  (by omega) (by have hb0 : (0 : Int) ≤ (st 16 0 1).toInt ∧ (st 16 0 1).toInt ≤ (300 : Int) := hB_st.1 16 0 1; omega) (sW.go hv1_2 (by omega) (by omega) (pJr_t (by omega)) ex_8 ex_7) hM hS (lv_sub hl [0, 1, 2, 3, 4, 5, 6] rfl)
          · skip
            refine lv_if_eq (tgt := 58) hx hb dX5_sum_41 (by decide) (fun _ => ?_) (fun h9 => absurd (by decide) h9)
            obtain ⟨x_10, ex_10⟩ : ∃ y : Int32, y = y1_1 + 1 := ⟨_, rfl⟩
            try have tx_10 : x_10.toInt = y1_1.toInt + 1 := by rw [ex_10]; exact gz_addP (x := y1_1.toInt) (y := 1) rfl (by decide) (by omega) (by omega)
            refine lv_iinc (v := (x_10)) (lv' := [(6, .int x_10), (5, .int y1_0), (0, .ref (ad 16 0)), (1, .int x), (2, .int y), (3, .int w), (4, .int 1)]) hx hb dX5_sum_58 hl (k := 0) rfl (by rw [ex_10]; rfl) (by decide) rfl (fun ls hl => ?_)
            refine lv_goto (tgt := 6) hx hb dX5_sum_61 (by decide) ?_
            exact ih_1  (y1_0 : Int32) (x_10 : Int32) H _ ls (by omega)  (by omega) (by have hb0 : (0 : Int) ≤ (st 16 0 1).toInt ∧ (st 16 0 1).toInt ≤ (300 : Int) := hB_st.1 16 0 1; omega) (sW.skip hv1_2 (by omega) (by omega) (pJr_f (by omega))) hM hS (lv_sub hl [0, 1, 2, 3, 4, 5, 6] rfl)
        · skip
          refine lv_if_eq (tgt := 58) hx hb dX5_sum_24 (by decide) (fun _ => ?_) (fun h9 => absurd (by decide) h9)
          obtain ⟨x_11, ex_11⟩ : ∃ y : Int32, y = y1_1 + 1 := ⟨_, rfl⟩
          try have tx_11 : x_11.toInt = y1_1.toInt + 1 := by rw [ex_11]; exact gz_addP (x := y1_1.toInt) (y := 1) rfl (by decide) (by omega) (by omega)
          refine lv_iinc (v := (x_11)) (lv' := [(6, .int x_11), (5, .int y1_0), (0, .ref (ad 16 0)), (1, .int x), (2, .int y), (3, .int w), (4, .int 1)]) hx hb dX5_sum_58 hl (k := 0) rfl (by rw [ex_11]; rfl) (by decide) rfl (fun ls hl => ?_)
          refine lv_goto (tgt := 6) hx hb dX5_sum_61 (by decide) ?_
          exact ih_1  (y1_0 : Int32) (x_11 : Int32) H _ ls (by omega)  (by omega) (by have hb0 : (0 : Int) ≤ (st 16 0 1).toInt ∧ (st 16 0 1).toInt ≤ (300 : Int) := hB_st.1 16 0 1; omega) (sW.skip hv1_2 (by omega) (by omega) (pJr_f (by omega))) hM hS (lv_sub hl [0, 1, 2, 3, 4, 5, 6] rfl)
  exact lp1 ((300 - ((0 : Int32) : Int32).toInt).toNat + 1)  ((0 : Int32) : Int32) ((0 : Int32) : Int32) H _ ls (Nat.lt_succ_self _)  (by have hl0 : (0 : Int32).toInt = 0 := (by decide); have hl1 : (0 : Int32).toInt = 0 := (by decide); omega) (by have hl0 : (0 : Int32).toInt = 0 := (by decide); have hl1 : (0 : Int32).toInt = 0 := (by decide); have hb2 : (0 : Int) ≤ (st 16 0 1).toInt ∧ (st 16 0 1).toInt ≤ (300 : Int) := hB_st.1 16 0 1; omega) (sW.new (by decide)) hM hS (lv_sub hl [0, 1, 2, 3, 4, 5, 6] rfl)

set_option maxHeartbeats 4000000 in
set_option maxRecDepth 100000 in
/-- WellCourt$Ledger.sumKnown -/
theorem s_X5_sumKnown1 (l : Launch) (G : va_G) (cy : Nat → ClassId) (sK sV : Nat → Nat) (ad : Nat → Nat → Nat) (sz : Nat) (st : gS) (hB : gBd bX st) (x : Int32) (y : Int32) (w : Int32) (t : Int32) (Xx : Int) (Xy : Int) (Xw : Int) (Xt : Int) (kx : x.toInt = Xx) (ky : y.toInt = Xy) (kw : w.toInt = Xw) (kt : t.toInt = Xt) : gsMi l yX5_sumKnown cX5_sumKnown 8 (some .int) ({ frames := 1, cells := 0, slots := 0, locals := 23 } : Room) G cy sK sV (shX cy ad) cnX ad sz [.ref (ad 16 0), .int x, .int y, .int w, .int 1, .int t] st (fun (r : Int32) (u : gS) => gBN bX kX [] st u ∧ ((r = sW (pJn (st 18 0) (st 18 2) (st 18 4) (st 18 5) Xx Xy Xw 1 Xt) (st 18 3) (st 16 0 1).toNatClampNeg))) := by
  refine gs_start (fun A => gsQi G (shX cy ad) cnX ad _ A) (by decide) (Nat.le_of_ble_eq_true rfl) ?_
  intro p e s m below meth c A ls H hx hb hr hml hlocks hown hts hK hov hE hI hM hm hS hA hl
  have hl : lv_has ls 8 [(0, .ref (ad 16 0)), (1, .int x), (2, .int y), (3, .int w), (4, .int 1), (5, .int t)] := hl
  have hB_st : gBN bX kX [] st st := gBN.rf hB
  have b16 : (0 : Int) ≤ (st 16 0 1).toInt ∧ (st 16 0 1).toInt ≤ (300 : Int) := hB 16 0 1
  generalize hQe : MQ below _ _ s _ _ A = Q
  refine lv_iconst (v := 0) hx hb dX5_sumKnown_0 (by decide) ?_
  refine lv_istore (lv' := [(6, .int 0), (0, .ref (ad 16 0)), (1, .int x), (2, .int y), (3, .int w), (4, .int 1), (5, .int t)]) hx hb dX5_sumKnown_1 hl (by decide) rfl (fun ls hl => ?_)
  refine lv_iconst (v := 0) hx hb dX5_sumKnown_3 (by decide) ?_
  refine lv_istore (lv' := [(7, .int 0), (6, .int 0), (0, .ref (ad 16 0)), (1, .int x), (2, .int y), (3, .int w), (4, .int 1), (5, .int t)]) hx hb dX5_sumKnown_4 hl (by decide) rfl (fun ls hl => ?_)
  have lp1 : ∀ (n1 : Nat)  (y1_0 : Int32) (y1_1 : Int32) (H : Heap) (locs : List Loc) (ls : Array Slot), (300 - y1_1.toInt).toNat < n1 →  (0 ≤ y1_1.toInt) → (y1_1.toInt ≤ (st 16 0 1).toInt) → (y1_0 = sW (pJn (st 18 0) (st 18 2) (st 18 4) (st 18 5) Xx Xy Xw 1 Xt) (st 18 3) y1_1.toNatClampNeg) → gM G (shX cy ad) cnX ad st H → va_S A s.heap H locs → lv_has ls 8 [(7, .int y1_1), (6, .int y1_0), (0, .ref (ad 16 0)), (1, .int x), (2, .int y), (3, .int w), (4, .int 1), (5, .int t)] → W p l e ({ frames := 1, cells := 0, slots := 0, locals := 23 } : Room) s m [.ref (ad 16 0), .int x, .int y, .int w, .int 1, .int t].toArray below meth c H locs 0 0 Q (F0 m 6 ls []) := by
    intro n1
    induction n1 with
    | zero => intro  y1_0 y1_1 H locs ls h9; exact absurd h9 (Nat.not_lt_zero _)
    | succ n1 ih_1 =>
      intro  y1_0 y1_1 H locs ls hme1  hv1_0 hv1_1 hv1_2 hM hS hl
      have hb1_0 : (0 : Int) ≤ (st 16 0 1).toInt ∧ (st 16 0 1).toInt ≤ (300 : Int) := hB_st.1 16 0 1
      refine lv_iload hx hb dX5_sumKnown_6 (lv_at hl 0 rfl) ?_
      refine lv_aload_n hx hb dX5_sumKnown_8 rfl (lv_at hl 2 rfl) ?_
      refine gs_get (C := RX5) (T := TX5) (N := 2) hx hb hts inX5 hown hK hM 16 0 1 (by decide) rfl rfl (by decide) (hts _ gm_143) (fun _ h9 => h9) rfl dX5_sumKnown_9 ?_
      have bf_2 : (0 : Int) ≤ (st 16 0 1).toInt ∧ (st 16 0 1).toInt ≤ (300 : Int) := hB_st.1 16 0 1
      refine lv_icmp_ge (tgt := 75) hx hb dX5_sumKnown_12 (by decide) (fun c_3 => ?_) (fun c_3 => ?_)
      · have ic_3 := gz_le (rfl : (st 16 0 1).toInt = (st 16 0 1).toInt) (rfl : y1_1.toInt = y1_1.toInt) c_3
        refine lv_iload hx hb dX5_sumKnown_75 (lv_at hl 1 rfl) ?_
        rw [← hQe]
        exact gs_iret hx hb hr hlocks hM hS rfl ⟨hB_st, (by have c_y1_1 := gs_cl (x := y1_1) (by omega); have c_s := gs_cl (x := st 16 0 1) (by omega); have h9 := hv1_2; rw [show y1_1.toNatClampNeg = (st 16 0 1).toNatClampNeg by omega] at h9; exact h9)⟩ (by exact Nat.le_refl _) (by exact Nat.le_refl _) dX5_sumKnown_77
      · have ic_3 := gz_nle (rfl : (st 16 0 1).toInt = (st 16 0 1).toInt) (rfl : y1_1.toInt = y1_1.toInt) c_3
        have lc_3 := gi_hi (st 16 0 1)
        refine lv_aload_n hx hb dX5_sumKnown_15 rfl (lv_at hl 2 rfl) ?_
        refine lv_iload hx hb dX5_sumKnown_16 (lv_at hl 0 rfl) ?_
        refine lv_iload_n hx hb dX5_sumKnown_18 rfl (lv_at hl 3 rfl) ?_
        refine lv_iload hx hb dX5_sumKnown_19 (lv_at hl 6 rfl) ?_
        refine gs_calli (va_runV (As := [.int y1_1, .int x, .int 1]) (rest := []) ⟨hx, hb, hml, hown, hts⟩ (s_X5_isOf1 l G cy sK sV ad H.size st hB_st.1 y1_1 x y1_1.toInt x.toInt rfl rfl (by first | decide | omega) (by first | decide | omega)) ⟨(gz_cb (n := 3) hts gm_647 gm_8 gm_650 ⟨by decide +kernel, by decide +kernel, by decide +kernel⟩ ⟨Nat.le_of_ble_eq_true rfl, Nat.le_of_ble_eq_true rfl⟩), hts _ gm_649, hts _ gs_20⟩ (gs_preV hK hov hE hI hM hm hS hA 16 0 (by decide) rfl rfl) rfl rfl hl.1 rfl (lv_room (Nat.le_of_ble_eq_true rfl)) dX5_sumKnown_21 ⟨Nat.le_of_ble_eq_true rfl, Nat.le_of_ble_eq_true rfl⟩) hm hS hA (fun r_4 st_4 H locs hw_4 hM hS => ?_)
        obtain ⟨n_4, hw_4⟩ := hw_4
        have n_4 := gBN.nil n_4
        subst n_4
        rcases hw_4 with ⟨rfl, hw_4_0, hw_4_1⟩ | ⟨rfl, hw_4_0⟩
        · skip
          refine lv_if_eq (tgt := 69) hx hb dX5_sumKnown_24 (by decide) (fun h9 => absurd h9 (by decide)) (fun _ => ?_)
          refine lv_aload_n hx hb dX5_sumKnown_27 rfl (lv_at hl 2 rfl) ?_
          refine gs_get (C := RX5) (T := TX5) (N := 2) hx hb hts inX5 hown hK hM 16 0 0 (by decide) rfl rfl (by decide) (hts _ gm_141) (fun _ h9 => h9) rfl dX5_sumKnown_28 ?_
          refine lv_iconst (v := 0) hx hb dX5_sumKnown_31 (by decide) ?_
          refine gs_alda hx hb hK hM 17 0 (by decide) rfl (vp_in_iff.mpr (by decide)) (a := ad 18 0) rfl dX5_sumKnown_32 ?_
          refine lv_iload hx hb dX5_sumKnown_33 (lv_at hl 0 rfl) ?_
          refine gs_iald hx hb hK hM 18 0 (by decide) rfl (vp_in_iff.mpr ⟨by omega, by omega⟩) dX5_sumKnown_35 ?_
          refine lv_topi (fun x_5 ex_5 => ?_)
          have qx_5 : x_5.toInt = (st 18 0 (y1_1.toNatClampNeg)).toInt := congrArg Int32.toInt ex_5
          refine lv_iload_n hx hb dX5_sumKnown_36 rfl (lv_at hl 4 rfl) ?_
          refine lv_iload_n hx hb dX5_sumKnown_37 rfl (lv_at hl 5 rfl) ?_
          refine gs_calli (va_runSN (As := [.int x_5, .int y, .int w]) (rest := []) ⟨hx, hb, hml, hown, hts⟩ (s_isWithin l G cy sK sV ad H.size st hB_st.1 x_5 y w x_5.toInt y.toInt w.toInt rfl rfl rfl ) ⟨(va_cnB 3 hts (gz_good gm_353) rfl rfl rfl (hov.2.2 _ gn_675) (hts _ gm_1) ⟨by decide +kernel, by decide +kernel, by decide +kernel⟩ ⟨Nat.le_of_ble_eq_true rfl, Nat.le_of_ble_eq_true rfl⟩), hts _ gm_352, trivial⟩ (gs_preS hK hov hE hI hM hm hS hA) rfl rfl hl.1 rfl (lv_room (Nat.le_of_ble_eq_true rfl)) dX5_sumKnown_38 ⟨Nat.le_of_ble_eq_true rfl, Nat.le_of_ble_eq_true rfl⟩) hm hS hA (fun r_6 st_6 H locs hw_6 hM hS => ?_)
          obtain ⟨n_6, hw_6⟩ := hw_6
          have n_6 := gBN.nil n_6
          subst n_6
          rcases hw_6 with ⟨rfl, hw_6_0, hw_6_1⟩ | ⟨rfl, hw_6_0⟩
          · skip
            refine lv_if_eq (tgt := 69) hx hb dX5_sumKnown_41 (by decide) (fun h9 => absurd h9 (by decide)) (fun _ => ?_)
            refine lv_aload_n hx hb dX5_sumKnown_44 rfl (lv_at hl 2 rfl) ?_
            refine lv_iload hx hb dX5_sumKnown_45 (lv_at hl 0 rfl) ?_
            refine lv_iload hx hb dX5_sumKnown_47 (lv_at hl 7 rfl) ?_
            refine gs_calli (va_runV (As := [.int y1_1, .int t]) (rest := []) ⟨hx, hb, hml, hown, hts⟩ (s_X5_isKnown l G cy sK sV ad H.size st hB_st.1 y1_1 t y1_1.toInt t.toInt rfl rfl (by first | decide | omega) (by first | decide | omega)) ⟨(gz_cb (n := 2) hts gm_680 gm_8 gm_683 ⟨by decide +kernel, by decide +kernel, by decide +kernel⟩ ⟨Nat.le_of_ble_eq_true rfl, Nat.le_of_ble_eq_true rfl⟩), hts _ gm_682, hts _ gs_21⟩ (gs_preV hK hov hE hI hM hm hS hA 16 0 (by decide) rfl rfl) rfl rfl hl.1 rfl (lv_room (Nat.le_of_ble_eq_true rfl)) dX5_sumKnown_49 ⟨Nat.le_of_ble_eq_true rfl, Nat.le_of_ble_eq_true rfl⟩) hm hS hA (fun r_7 st_7 H locs hw_7 hM hS => ?_)
            obtain ⟨n_7, hw_7⟩ := hw_7
            have n_7 := gBN.nil n_7
            subst n_7
            rcases hw_7 with ⟨rfl, hw_7_0, hw_7_1⟩ | ⟨rfl, hw_7_0⟩
            · skip
              refine lv_if_eq (tgt := 69) hx hb dX5_sumKnown_52 (by decide) (fun h9 => absurd h9 (by decide)) (fun _ => ?_)
              refine lv_iload hx hb dX5_sumKnown_55 (lv_at hl 1 rfl) ?_
              refine lv_aload_n hx hb dX5_sumKnown_57 rfl (lv_at hl 2 rfl) ?_
              refine gs_get (C := RX5) (T := TX5) (N := 2) hx hb hts inX5 hown hK hM 16 0 0 (by decide) rfl rfl (by decide) (hts _ gm_141) (fun _ h9 => h9) rfl dX5_sumKnown_58 ?_
              refine lv_iconst (v := 3) hx hb dX5_sumKnown_61 (by decide) ?_
              refine gs_alda hx hb hK hM 17 0 (by decide) rfl (vp_in_iff.mpr (by decide)) (a := ad 18 3) rfl dX5_sumKnown_62 ?_
              refine lv_iload hx hb dX5_sumKnown_63 (lv_at hl 0 rfl) ?_
              refine gs_iald hx hb hK hM 18 3 (by decide) rfl (vp_in_iff.mpr ⟨by omega, by omega⟩) dX5_sumKnown_65 ?_
              refine lv_topi (fun x_8 ex_8 => ?_)
              have qx_8 : x_8.toInt = (st 18 3 (y1_1.toNatClampNeg)).toInt := congrArg Int32.toInt ex_8
              refine lv_iadd hx hb dX5_sumKnown_66 ?_
              refine lv_topi (fun x_9 ex_9 => ?_)
              refine lv_istore (lv' := [(6, .int x_9), (7, .int y1_1), (0, .ref (ad 16 0)), (1, .int x), (2, .int y), (3, .int w), (4, .int 1), (5, .int t)]) hx hb dX5_sumKnown_67 hl (by decide) rfl (fun ls hl => ?_)
              obtain ⟨x_10, ex_10⟩ : ∃ y : Int32, y = y1_1 + 1 := ⟨_, rfl⟩
              try have tx_10 : x_10.toInt = y1_1.toInt + 1 := by rw [ex_10]; exact gz_addP (x := y1_1.toInt) (y := 1) rfl (by decide) (by omega) (by omega)
              refine lv_iinc (v := (x_10)) (lv' := [(7, .int x_10), (6, .int x_9), (0, .ref (ad 16 0)), (1, .int x), (2, .int y), (3, .int w), (4, .int 1), (5, .int t)]) hx hb dX5_sumKnown_69 hl (k := 1) rfl (by rw [ex_10]; rfl) (by decide) rfl (fun ls hl => ?_)
              refine lv_goto (tgt := 6) hx hb dX5_sumKnown_72 (by decide) ?_
              exact ih_1  (x_9 : Int32) (x_10 : Int32) H _ ls (by omega)  (by omega) (by have hb0 : (0 : Int) ≤ (st 16 0 1).toInt ∧ (st 16 0 1).toInt ≤ (300 : Int) := hB_st.1 16 0 1; omega) (sW.go hv1_2 (by omega) (by omega) (pJn_t (by omega)) ex_9 ex_8) hM hS (lv_sub hl [0, 1, 2, 3, 4, 5, 6, 7] rfl)
            · skip
              refine lv_if_eq (tgt := 69) hx hb dX5_sumKnown_52 (by decide) (fun _ => ?_) (fun h9 => absurd (by decide) h9)
              obtain ⟨x_11, ex_11⟩ : ∃ y : Int32, y = y1_1 + 1 := ⟨_, rfl⟩
              try have tx_11 : x_11.toInt = y1_1.toInt + 1 := by rw [ex_11]; exact gz_addP (x := y1_1.toInt) (y := 1) rfl (by decide) (by omega) (by omega)
              refine lv_iinc (v := (x_11)) (lv' := [(7, .int x_11), (6, .int y1_0), (0, .ref (ad 16 0)), (1, .int x), (2, .int y), (3, .int w), (4, .int 1), (5, .int t)]) hx hb dX5_sumKnown_69 hl (k := 0) rfl (by rw [ex_11]; rfl) (by decide) rfl (fun ls hl => ?_)
              refine lv_goto (tgt := 6) hx hb dX5_sumKnown_72 (by decide) ?_
              exact ih_1  (y1_0 : Int32) (x_11 : Int32) H _ ls (by omega)  (by omega) (by have hb0 : (0 : Int) ≤ (st 16 0 1).toInt ∧ (st 16 0 1).toInt ≤ (300 : Int) := hB_st.1 16 0 1; omega) (sW.skip hv1_2 (by omega) (by omega) (pJn_f (by omega))) hM hS (lv_sub hl [0, 1, 2, 3, 4, 5, 6, 7] rfl)
          · skip
            refine lv_if_eq (tgt := 69) hx hb dX5_sumKnown_41 (by decide) (fun _ => ?_) (fun h9 => absurd (by decide) h9)
            obtain ⟨x_12, ex_12⟩ : ∃ y : Int32, y = y1_1 + 1 := ⟨_, rfl⟩
            try have tx_12 : x_12.toInt = y1_1.toInt + 1 := by rw [ex_12]; exact gz_addP (x := y1_1.toInt) (y := 1) rfl (by decide) (by omega) (by omega)
            refine lv_iinc (v := (x_12)) (lv' := [(7, .int x_12), (6, .int y1_0), (0, .ref (ad 16 0)), (1, .int x), (2, .int y), (3, .int w), (4, .int 1), (5, .int t)]) hx hb dX5_sumKnown_69 hl (k := 0) rfl (by rw [ex_12]; rfl) (by decide) rfl (fun ls hl => ?_)
            refine lv_goto (tgt := 6) hx hb dX5_sumKnown_72 (by decide) ?_
            exact ih_1  (y1_0 : Int32) (x_12 : Int32) H _ ls (by omega)  (by omega) (by have hb0 : (0 : Int) ≤ (st 16 0 1).toInt ∧ (st 16 0 1).toInt ≤ (300 : Int) := hB_st.1 16 0 1; omega) (sW.skip hv1_2 (by omega) (by omega) (pJn_f (by omega))) hM hS (lv_sub hl [0, 1, 2, 3, 4, 5, 6, 7] rfl)
        · skip
          refine lv_if_eq (tgt := 69) hx hb dX5_sumKnown_24 (by decide) (fun _ => ?_) (fun h9 => absurd (by decide) h9)
          obtain ⟨x_13, ex_13⟩ : ∃ y : Int32, y = y1_1 + 1 := ⟨_, rfl⟩
          try have tx_13 : x_13.toInt = y1_1.toInt + 1 := by rw [ex_13]; exact gz_addP (x := y1_1.toInt) (y := 1) rfl (by decide) (by omega) (by omega)
          refine lv_iinc (v := (x_13)) (lv' := [(7, .int x_13), (6, .int y1_0), (0, .ref (ad 16 0)), (1, .int x), (2, .int y), (3, .int w), (4, .int 1), (5, .int t)]) hx hb dX5_sumKnown_69 hl (k := 0) rfl (by rw [ex_13]; rfl) (by decide) rfl (fun ls hl => ?_)
          refine lv_goto (tgt := 6) hx hb dX5_sumKnown_72 (by decide) ?_
          exact ih_1  (y1_0 : Int32) (x_13 : Int32) H _ ls (by omega)  (by omega) (by have hb0 : (0 : Int) ≤ (st 16 0 1).toInt ∧ (st 16 0 1).toInt ≤ (300 : Int) := hB_st.1 16 0 1; omega) (sW.skip hv1_2 (by omega) (by omega) (pJn_f (by omega))) hM hS (lv_sub hl [0, 1, 2, 3, 4, 5, 6, 7] rfl)
  exact lp1 ((300 - ((0 : Int32) : Int32).toInt).toNat + 1)  ((0 : Int32) : Int32) ((0 : Int32) : Int32) H _ ls (Nat.lt_succ_self _)  (by have hl0 : (0 : Int32).toInt = 0 := (by decide); have hl1 : (0 : Int32).toInt = 0 := (by decide); omega) (by have hl0 : (0 : Int32).toInt = 0 := (by decide); have hl1 : (0 : Int32).toInt = 0 := (by decide); have hb2 : (0 : Int) ≤ (st 16 0 1).toInt ∧ (st 16 0 1).toInt ≤ (300 : Int) := hB_st.1 16 0 1; omega) (sW.new (by decide)) hM hS (lv_sub hl [0, 1, 2, 3, 4, 5, 6, 7] rfl)

set_option maxHeartbeats 4000000 in
set_option maxRecDepth 100000 in
/-- WellCourt$Ledger.sum -/
theorem s_X5_sum0 (l : Launch) (G : va_G) (cy : Nat → ClassId) (sK sV : Nat → Nat) (ad : Nat → Nat → Nat) (sz : Nat) (st : gS) (hB : gBd bX st) (x : Int32) (y : Int32) (w : Int32) (Xx : Int) (Xy : Int) (Xw : Int) (kx : x.toInt = Xx) (ky : y.toInt = Xy) (kw : w.toInt = Xw) : gsMi l yX5_sum cX5_sum 7 (some .int) ({ frames := 1, cells := 0, slots := 0, locals := 23 } : Room) G cy sK sV (shX cy ad) cnX ad sz [.ref (ad 16 0), .int x, .int y, .int w, .int 0] st (fun (r : Int32) (u : gS) => gBN bX kX [] st u ∧ ((r = sW (pJr (st 18 0) (st 18 2) (st 18 4) Xx Xy Xw 0) (st 18 3) (st 16 0 1).toNatClampNeg))) := by
  refine gs_start (fun A => gsQi G (shX cy ad) cnX ad _ A) (by decide) (Nat.le_of_ble_eq_true rfl) ?_
  intro p e s m below meth c A ls H hx hb hr hml hlocks hown hts hK hov hE hI hM hm hS hA hl
  have hl : lv_has ls 7 [(0, .ref (ad 16 0)), (1, .int x), (2, .int y), (3, .int w), (4, .int 0)] := hl
  have hB_st : gBN bX kX [] st st := gBN.rf hB
  have b16 : (0 : Int) ≤ (st 16 0 1).toInt ∧ (st 16 0 1).toInt ≤ (300 : Int) := hB 16 0 1
  generalize hQe : MQ below _ _ s _ _ A = Q
  refine lv_iconst (v := 0) hx hb dX5_sum_0 (by decide) ?_
  refine lv_istore (lv' := [(5, .int 0), (0, .ref (ad 16 0)), (1, .int x), (2, .int y), (3, .int w), (4, .int 0)]) hx hb dX5_sum_1 hl (by decide) rfl (fun ls hl => ?_)
  refine lv_iconst (v := 0) hx hb dX5_sum_3 (by decide) ?_
  refine lv_istore (lv' := [(6, .int 0), (5, .int 0), (0, .ref (ad 16 0)), (1, .int x), (2, .int y), (3, .int w), (4, .int 0)]) hx hb dX5_sum_4 hl (by decide) rfl (fun ls hl => ?_)
  have lp1 : ∀ (n1 : Nat)  (y1_0 : Int32) (y1_1 : Int32) (H : Heap) (locs : List Loc) (ls : Array Slot), (300 - y1_1.toInt).toNat < n1 →  (0 ≤ y1_1.toInt) → (y1_1.toInt ≤ (st 16 0 1).toInt) → (y1_0 = sW (pJr (st 18 0) (st 18 2) (st 18 4) Xx Xy Xw 0) (st 18 3) y1_1.toNatClampNeg) → gM G (shX cy ad) cnX ad st H → va_S A s.heap H locs → lv_has ls 7 [(6, .int y1_1), (5, .int y1_0), (0, .ref (ad 16 0)), (1, .int x), (2, .int y), (3, .int w), (4, .int 0)] → W p l e ({ frames := 1, cells := 0, slots := 0, locals := 23 } : Room) s m [.ref (ad 16 0), .int x, .int y, .int w, .int 0].toArray below meth c H locs 0 0 Q (F0 m 6 ls []) := by
    intro n1
    induction n1 with
    | zero => intro  y1_0 y1_1 H locs ls h9; exact absurd h9 (Nat.not_lt_zero _)
    | succ n1 ih_1 =>
      intro  y1_0 y1_1 H locs ls hme1  hv1_0 hv1_1 hv1_2 hM hS hl
      have hb1_0 : (0 : Int) ≤ (st 16 0 1).toInt ∧ (st 16 0 1).toInt ≤ (300 : Int) := hB_st.1 16 0 1
      refine lv_iload hx hb dX5_sum_6 (lv_at hl 0 rfl) ?_
      refine lv_aload_n hx hb dX5_sum_8 rfl (lv_at hl 2 rfl) ?_
      refine gs_get (C := RX5) (T := TX5) (N := 2) hx hb hts inX5 hown hK hM 16 0 1 (by decide) rfl rfl (by decide) (hts _ gm_143) (fun _ h9 => h9) rfl dX5_sum_9 ?_
      have bf_2 : (0 : Int) ≤ (st 16 0 1).toInt ∧ (st 16 0 1).toInt ≤ (300 : Int) := hB_st.1 16 0 1
      refine lv_icmp_ge (tgt := 64) hx hb dX5_sum_12 (by decide) (fun c_3 => ?_) (fun c_3 => ?_)
      · have ic_3 := gz_le (rfl : (st 16 0 1).toInt = (st 16 0 1).toInt) (rfl : y1_1.toInt = y1_1.toInt) c_3
        refine lv_iload hx hb dX5_sum_64 (lv_at hl 1 rfl) ?_
        rw [← hQe]
        exact gs_iret hx hb hr hlocks hM hS rfl ⟨hB_st, (by have c_y1_1 := gs_cl (x := y1_1) (by omega); have c_s := gs_cl (x := st 16 0 1) (by omega); have h9 := hv1_2; rw [show y1_1.toNatClampNeg = (st 16 0 1).toNatClampNeg by omega] at h9; exact h9)⟩ (by exact Nat.le_refl _) (by exact Nat.le_refl _) dX5_sum_66
      · have ic_3 := gz_nle (rfl : (st 16 0 1).toInt = (st 16 0 1).toInt) (rfl : y1_1.toInt = y1_1.toInt) c_3
        have lc_3 := gi_hi (st 16 0 1)
        refine lv_aload_n hx hb dX5_sum_15 rfl (lv_at hl 2 rfl) ?_
        refine lv_iload hx hb dX5_sum_16 (lv_at hl 0 rfl) ?_
        refine lv_iload_n hx hb dX5_sum_18 rfl (lv_at hl 3 rfl) ?_
        refine lv_iload hx hb dX5_sum_19 (lv_at hl 6 rfl) ?_
        refine gs_calli (va_runV (As := [.int y1_1, .int x, .int 0]) (rest := []) ⟨hx, hb, hml, hown, hts⟩ (s_X5_isOf0 l G cy sK sV ad H.size st hB_st.1 y1_1 x y1_1.toInt x.toInt rfl rfl (by first | decide | omega) (by first | decide | omega)) ⟨(gz_cb (n := 3) hts gm_647 gm_8 gm_650 ⟨by decide +kernel, by decide +kernel, by decide +kernel⟩ ⟨Nat.le_of_ble_eq_true rfl, Nat.le_of_ble_eq_true rfl⟩), hts _ gm_649, hts _ gs_20⟩ (gs_preV hK hov hE hI hM hm hS hA 16 0 (by decide) rfl rfl) rfl rfl hl.1 rfl (lv_room (Nat.le_of_ble_eq_true rfl)) dX5_sum_21 ⟨Nat.le_of_ble_eq_true rfl, Nat.le_of_ble_eq_true rfl⟩) hm hS hA (fun r_4 st_4 H locs hw_4 hM hS => ?_)
        obtain ⟨n_4, hw_4⟩ := hw_4
        have n_4 := gBN.nil n_4
        subst n_4
        rcases hw_4 with ⟨rfl, hw_4_0, hw_4_1⟩ | ⟨rfl, hw_4_0⟩
        · skip
          refine lv_if_eq (tgt := 58) hx hb dX5_sum_24 (by decide) (fun h9 => absurd h9 (by decide)) (fun _ => ?_)
          refine lv_aload_n hx hb dX5_sum_27 rfl (lv_at hl 2 rfl) ?_
          refine gs_get (C := RX5) (T := TX5) (N := 2) hx hb hts inX5 hown hK hM 16 0 0 (by decide) rfl rfl (by decide) (hts _ gm_141) (fun _ h9 => h9) rfl dX5_sum_28 ?_
          refine lv_iconst (v := 0) hx hb dX5_sum_31 (by decide) ?_
          refine gs_alda hx hb hK hM 17 0 (by decide) rfl (vp_in_iff.mpr (by decide)) (a := ad 18 0) rfl dX5_sum_32 ?_
          refine lv_iload hx hb dX5_sum_33 (lv_at hl 0 rfl) ?_
          refine gs_iald hx hb hK hM 18 0 (by decide) rfl (vp_in_iff.mpr ⟨by omega, by omega⟩) dX5_sum_35 ?_
          refine lv_topi (fun x_5 ex_5 => ?_)
          have qx_5 : x_5.toInt = (st 18 0 (y1_1.toNatClampNeg)).toInt := congrArg Int32.toInt ex_5
          refine lv_iload_n hx hb dX5_sum_36 rfl (lv_at hl 4 rfl) ?_
          refine lv_iload_n hx hb dX5_sum_37 rfl (lv_at hl 5 rfl) ?_
          refine gs_calli (va_runSN (As := [.int x_5, .int y, .int w]) (rest := []) ⟨hx, hb, hml, hown, hts⟩ (s_isWithin l G cy sK sV ad H.size st hB_st.1 x_5 y w x_5.toInt y.toInt w.toInt rfl rfl rfl ) ⟨(va_cnB 3 hts (gz_good gm_353) rfl rfl rfl (hov.2.2 _ gn_675) (hts _ gm_1) ⟨by decide +kernel, by decide +kernel, by decide +kernel⟩ ⟨Nat.le_of_ble_eq_true rfl, Nat.le_of_ble_eq_true rfl⟩), hts _ gm_352, trivial⟩ (gs_preS hK hov hE hI hM hm hS hA) rfl rfl hl.1 rfl (lv_room (Nat.le_of_ble_eq_true rfl)) dX5_sum_38 ⟨Nat.le_of_ble_eq_true rfl, Nat.le_of_ble_eq_true rfl⟩) hm hS hA (fun r_6 st_6 H locs hw_6 hM hS => ?_)
          obtain ⟨n_6, hw_6⟩ := hw_6
          have n_6 := gBN.nil n_6
          subst n_6
          rcases hw_6 with ⟨rfl, hw_6_0, hw_6_1⟩ | ⟨rfl, hw_6_0⟩
          · skip
            refine lv_if_eq (tgt := 58) hx hb dX5_sum_41 (by decide) (fun h9 => absurd h9 (by decide)) (fun _ => ?_)
            refine lv_iload hx hb dX5_sum_44 (lv_at hl 1 rfl) ?_
            refine lv_aload_n hx hb dX5_sum_46 rfl (lv_at hl 2 rfl) ?_
            refine gs_get (C := RX5) (T := TX5) (N := 2) hx hb hts inX5 hown hK hM 16 0 0 (by decide) rfl rfl (by decide) (hts _ gm_141) (fun _ h9 => h9) rfl dX5_sum_47 ?_
            refine lv_iconst (v := 3) hx hb dX5_sum_50 (by decide) ?_
            refine gs_alda hx hb hK hM 17 0 (by decide) rfl (vp_in_iff.mpr (by decide)) (a := ad 18 3) rfl dX5_sum_51 ?_
            refine lv_iload hx hb dX5_sum_52 (lv_at hl 0 rfl) ?_
            refine gs_iald hx hb hK hM 18 3 (by decide) rfl (vp_in_iff.mpr ⟨by omega, by omega⟩) dX5_sum_54 ?_
            refine lv_topi (fun x_7 ex_7 => ?_)
            have qx_7 : x_7.toInt = (st 18 3 (y1_1.toNatClampNeg)).toInt := congrArg Int32.toInt ex_7
            refine lv_iadd hx hb dX5_sum_55 ?_
            refine lv_topi (fun x_8 ex_8 => ?_)
            refine lv_istore (lv' := [(5, .int x_8), (6, .int y1_1), (0, .ref (ad 16 0)), (1, .int x), (2, .int y), (3, .int w), (4, .int 0)]) hx hb dX5_sum_56 hl (by decide) rfl (fun ls hl => ?_)
            obtain ⟨x_9, ex_9⟩ : ∃ y : Int32, y = y1_1 + 1 := ⟨_, rfl⟩
            try have tx_9 : x_9.toInt = y1_1.toInt + 1 := by rw [ex_9]; exact gz_addP (x := y1_1.toInt) (y := 1) rfl (by decide) (by omega) (by omega)
            refine lv_iinc (v := (x_9)) (lv' := [(6, .int x_9), (5, .int x_8), (0, .ref (ad 16 0)), (1, .int x), (2, .int y), (3, .int w), (4, .int 0)]) hx hb dX5_sum_58 hl (k := 1) rfl (by rw [ex_9]; rfl) (by decide) rfl (fun ls hl => ?_)
            refine lv_goto (tgt := 6) hx hb dX5_sum_61 (by decide) ?_
            exact ih_1  (x_8 : Int32) (x_9 : Int32) H _ ls (by omega)  (by omega) (by have hb0 : (0 : Int) ≤ (st 16 0 1).toInt ∧ (st 16 0 1).toInt ≤ (300 : Int) := hB_st.1 16 0 1; omega) (sW.go hv1_2 (by omega) (by omega) (pJr_t (by omega)) ex_8 ex_7) hM hS (lv_sub hl [0, 1, 2, 3, 4, 5, 6] rfl)
          · skip
            refine lv_if_eq (tgt := 58) hx hb dX5_sum_41 (by decide) (fun _ => ?_) (fun h9 => absurd (by decide) h9)
            obtain ⟨x_10, ex_10⟩ : ∃ y : Int32, y = y1_1 + 1 := ⟨_, rfl⟩
            try have tx_10 : x_10.toInt = y1_1.toInt + 1 := by rw [ex_10]; exact gz_addP (x := y1_1.toInt) (y := 1) rfl (by decide) (by omega) (by omega)
            refine lv_iinc (v := (x_10)) (lv' := [(6, .int x_10), (5, .int y1_0), (0, .ref (ad 16 0)), (1, .int x), (2, .int y), (3, .int w), (4, .int 0)]) hx hb dX5_sum_58 hl (k := 0) rfl (by rw [ex_10]; rfl) (by decide) rfl (fun ls hl => ?_)
            refine lv_goto (tgt := 6) hx hb dX5_sum_61 (by decide) ?_
            exact ih_1  (y1_0 : Int32) (x_10 : Int32) H _ ls (by omega)  (by omega) (by have hb0 : (0 : Int) ≤ (st 16 0 1).toInt ∧ (st 16 0 1).toInt ≤ (300 : Int) := hB_st.1 16 0 1; omega) (sW.skip hv1_2 (by omega) (by omega) (pJr_f (by omega))) hM hS (lv_sub hl [0, 1, 2, 3, 4, 5, 6] rfl)
        · skip
          refine lv_if_eq (tgt := 58) hx hb dX5_sum_24 (by decide) (fun _ => ?_) (fun h9 => absurd (by decide) h9)
          obtain ⟨x_11, ex_11⟩ : ∃ y : Int32, y = y1_1 + 1 := ⟨_, rfl⟩
          try have tx_11 : x_11.toInt = y1_1.toInt + 1 := by rw [ex_11]; exact gz_addP (x := y1_1.toInt) (y := 1) rfl (by decide) (by omega) (by omega)
          refine lv_iinc (v := (x_11)) (lv' := [(6, .int x_11), (5, .int y1_0), (0, .ref (ad 16 0)), (1, .int x), (2, .int y), (3, .int w), (4, .int 0)]) hx hb dX5_sum_58 hl (k := 0) rfl (by rw [ex_11]; rfl) (by decide) rfl (fun ls hl => ?_)
          refine lv_goto (tgt := 6) hx hb dX5_sum_61 (by decide) ?_
          exact ih_1  (y1_0 : Int32) (x_11 : Int32) H _ ls (by omega)  (by omega) (by have hb0 : (0 : Int) ≤ (st 16 0 1).toInt ∧ (st 16 0 1).toInt ≤ (300 : Int) := hB_st.1 16 0 1; omega) (sW.skip hv1_2 (by omega) (by omega) (pJr_f (by omega))) hM hS (lv_sub hl [0, 1, 2, 3, 4, 5, 6] rfl)
  exact lp1 ((300 - ((0 : Int32) : Int32).toInt).toNat + 1)  ((0 : Int32) : Int32) ((0 : Int32) : Int32) H _ ls (Nat.lt_succ_self _)  (by have hl0 : (0 : Int32).toInt = 0 := (by decide); have hl1 : (0 : Int32).toInt = 0 := (by decide); omega) (by have hl0 : (0 : Int32).toInt = 0 := (by decide); have hl1 : (0 : Int32).toInt = 0 := (by decide); have hb2 : (0 : Int) ≤ (st 16 0 1).toInt ∧ (st 16 0 1).toInt ≤ (300 : Int) := hB_st.1 16 0 1; omega) (sW.new (by decide)) hM hS (lv_sub hl [0, 1, 2, 3, 4, 5, 6] rfl)

set_option maxHeartbeats 4000000 in
set_option maxRecDepth 100000 in
/-- WellCourt$Ledger.sumKnown -/
theorem s_X5_sumKnown0 (l : Launch) (G : va_G) (cy : Nat → ClassId) (sK sV : Nat → Nat) (ad : Nat → Nat → Nat) (sz : Nat) (st : gS) (hB : gBd bX st) (x : Int32) (y : Int32) (w : Int32) (t : Int32) (Xx : Int) (Xy : Int) (Xw : Int) (Xt : Int) (kx : x.toInt = Xx) (ky : y.toInt = Xy) (kw : w.toInt = Xw) (kt : t.toInt = Xt) : gsMi l yX5_sumKnown cX5_sumKnown 8 (some .int) ({ frames := 1, cells := 0, slots := 0, locals := 23 } : Room) G cy sK sV (shX cy ad) cnX ad sz [.ref (ad 16 0), .int x, .int y, .int w, .int 0, .int t] st (fun (r : Int32) (u : gS) => gBN bX kX [] st u ∧ ((r = sW (pJn (st 18 0) (st 18 2) (st 18 4) (st 18 5) Xx Xy Xw 0 Xt) (st 18 3) (st 16 0 1).toNatClampNeg))) := by
  refine gs_start (fun A => gsQi G (shX cy ad) cnX ad _ A) (by decide) (Nat.le_of_ble_eq_true rfl) ?_
  intro p e s m below meth c A ls H hx hb hr hml hlocks hown hts hK hov hE hI hM hm hS hA hl
  have hl : lv_has ls 8 [(0, .ref (ad 16 0)), (1, .int x), (2, .int y), (3, .int w), (4, .int 0), (5, .int t)] := hl
  have hB_st : gBN bX kX [] st st := gBN.rf hB
  have b16 : (0 : Int) ≤ (st 16 0 1).toInt ∧ (st 16 0 1).toInt ≤ (300 : Int) := hB 16 0 1
  generalize hQe : MQ below _ _ s _ _ A = Q
  refine lv_iconst (v := 0) hx hb dX5_sumKnown_0 (by decide) ?_
  refine lv_istore (lv' := [(6, .int 0), (0, .ref (ad 16 0)), (1, .int x), (2, .int y), (3, .int w), (4, .int 0), (5, .int t)]) hx hb dX5_sumKnown_1 hl (by decide) rfl (fun ls hl => ?_)
  refine lv_iconst (v := 0) hx hb dX5_sumKnown_3 (by decide) ?_
  refine lv_istore (lv' := [(7, .int 0), (6, .int 0), (0, .ref (ad 16 0)), (1, .int x), (2, .int y), (3, .int w), (4, .int 0), (5, .int t)]) hx hb dX5_sumKnown_4 hl (by decide) rfl (fun ls hl => ?_)
  have lp1 : ∀ (n1 : Nat)  (y1_0 : Int32) (y1_1 : Int32) (H : Heap) (locs : List Loc) (ls : Array Slot), (300 - y1_1.toInt).toNat < n1 →  (0 ≤ y1_1.toInt) → (y1_1.toInt ≤ (st 16 0 1).toInt) → (y1_0 = sW (pJn (st 18 0) (st 18 2) (st 18 4) (st 18 5) Xx Xy Xw 0 Xt) (st 18 3) y1_1.toNatClampNeg) → gM G (shX cy ad) cnX ad st H → va_S A s.heap H locs → lv_has ls 8 [(7, .int y1_1), (6, .int y1_0), (0, .ref (ad 16 0)), (1, .int x), (2, .int y), (3, .int w), (4, .int 0), (5, .int t)] → W p l e ({ frames := 1, cells := 0, slots := 0, locals := 23 } : Room) s m [.ref (ad 16 0), .int x, .int y, .int w, .int 0, .int t].toArray below meth c H locs 0 0 Q (F0 m 6 ls []) := by
    intro n1
    induction n1 with
    | zero => intro  y1_0 y1_1 H locs ls h9; exact absurd h9 (Nat.not_lt_zero _)
    | succ n1 ih_1 =>
      intro  y1_0 y1_1 H locs ls hme1  hv1_0 hv1_1 hv1_2 hM hS hl
      have hb1_0 : (0 : Int) ≤ (st 16 0 1).toInt ∧ (st 16 0 1).toInt ≤ (300 : Int) := hB_st.1 16 0 1
      refine lv_iload hx hb dX5_sumKnown_6 (lv_at hl 0 rfl) ?_
      refine lv_aload_n hx hb dX5_sumKnown_8 rfl (lv_at hl 2 rfl) ?_
      refine gs_get (C := RX5) (T := TX5) (N := 2) hx hb hts inX5 hown hK hM 16 0 1 (by decide) rfl rfl (by decide) (hts _ gm_143) (fun _ h9 => h9) rfl dX5_sumKnown_9 ?_
      have bf_2 : (0 : Int) ≤ (st 16 0 1).toInt ∧ (st 16 0 1).toInt ≤ (300 : Int) := hB_st.1 16 0 1
      refine lv_icmp_ge (tgt := 75) hx hb dX5_sumKnown_12 (by decide) (fun c_3 => ?_) (fun c_3 => ?_)
      · have ic_3 := gz_le (rfl : (st 16 0 1).toInt = (st 16 0 1).toInt) (rfl : y1_1.toInt = y1_1.toInt) c_3
        refine lv_iload hx hb dX5_sumKnown_75 (lv_at hl 1 rfl) ?_
        rw [← hQe]
        exact gs_iret hx hb hr hlocks hM hS rfl ⟨hB_st, (by have c_y1_1 := gs_cl (x := y1_1) (by omega); have c_s := gs_cl (x := st 16 0 1) (by omega); have h9 := hv1_2; rw [show y1_1.toNatClampNeg = (st 16 0 1).toNatClampNeg by omega] at h9; exact h9)⟩ (by exact Nat.le_refl _) (by exact Nat.le_refl _) dX5_sumKnown_77
      · have ic_3 := gz_nle (rfl : (st 16 0 1).toInt = (st 16 0 1).toInt) (rfl : y1_1.toInt = y1_1.toInt) c_3
        have lc_3 := gi_hi (st 16 0 1)
        refine lv_aload_n hx hb dX5_sumKnown_15 rfl (lv_at hl 2 rfl) ?_
        refine lv_iload hx hb dX5_sumKnown_16 (lv_at hl 0 rfl) ?_
        refine lv_iload_n hx hb dX5_sumKnown_18 rfl (lv_at hl 3 rfl) ?_
        refine lv_iload hx hb dX5_sumKnown_19 (lv_at hl 6 rfl) ?_
        refine gs_calli (va_runV (As := [.int y1_1, .int x, .int 0]) (rest := []) ⟨hx, hb, hml, hown, hts⟩ (s_X5_isOf0 l G cy sK sV ad H.size st hB_st.1 y1_1 x y1_1.toInt x.toInt rfl rfl (by first | decide | omega) (by first | decide | omega)) ⟨(gz_cb (n := 3) hts gm_647 gm_8 gm_650 ⟨by decide +kernel, by decide +kernel, by decide +kernel⟩ ⟨Nat.le_of_ble_eq_true rfl, Nat.le_of_ble_eq_true rfl⟩), hts _ gm_649, hts _ gs_20⟩ (gs_preV hK hov hE hI hM hm hS hA 16 0 (by decide) rfl rfl) rfl rfl hl.1 rfl (lv_room (Nat.le_of_ble_eq_true rfl)) dX5_sumKnown_21 ⟨Nat.le_of_ble_eq_true rfl, Nat.le_of_ble_eq_true rfl⟩) hm hS hA (fun r_4 st_4 H locs hw_4 hM hS => ?_)
        obtain ⟨n_4, hw_4⟩ := hw_4
        have n_4 := gBN.nil n_4
        subst n_4
        rcases hw_4 with ⟨rfl, hw_4_0, hw_4_1⟩ | ⟨rfl, hw_4_0⟩
        · skip
          refine lv_if_eq (tgt := 69) hx hb dX5_sumKnown_24 (by decide) (fun h9 => absurd h9 (by decide)) (fun _ => ?_)
          refine lv_aload_n hx hb dX5_sumKnown_27 rfl (lv_at hl 2 rfl) ?_
          refine gs_get (C := RX5) (T := TX5) (N := 2) hx hb hts inX5 hown hK hM 16 0 0 (by decide) rfl rfl (by decide) (hts _ gm_141) (fun _ h9 => h9) rfl dX5_sumKnown_28 ?_
          refine lv_iconst (v := 0) hx hb dX5_sumKnown_31 (by decide) ?_
          refine gs_alda hx hb hK hM 17 0 (by decide) rfl (vp_in_iff.mpr (by decide)) (a := ad 18 0) rfl dX5_sumKnown_32 ?_
          refine lv_iload hx hb dX5_sumKnown_33 (lv_at hl 0 rfl) ?_
          refine gs_iald hx hb hK hM 18 0 (by decide) rfl (vp_in_iff.mpr ⟨by omega, by omega⟩) dX5_sumKnown_35 ?_
          refine lv_topi (fun x_5 ex_5 => ?_)
          have qx_5 : x_5.toInt = (st 18 0 (y1_1.toNatClampNeg)).toInt := congrArg Int32.toInt ex_5
          refine lv_iload_n hx hb dX5_sumKnown_36 rfl (lv_at hl 4 rfl) ?_
          refine lv_iload_n hx hb dX5_sumKnown_37 rfl (lv_at hl 5 rfl) ?_
          refine gs_calli (va_runSN (As := [.int x_5, .int y, .int w]) (rest := []) ⟨hx, hb, hml, hown, hts⟩ (s_isWithin l G cy sK sV ad H.size st hB_st.1 x_5 y w x_5.toInt y.toInt w.toInt rfl rfl rfl ) ⟨(va_cnB 3 hts (gz_good gm_353) rfl rfl rfl (hov.2.2 _ gn_675) (hts _ gm_1) ⟨by decide +kernel, by decide +kernel, by decide +kernel⟩ ⟨Nat.le_of_ble_eq_true rfl, Nat.le_of_ble_eq_true rfl⟩), hts _ gm_352, trivial⟩ (gs_preS hK hov hE hI hM hm hS hA) rfl rfl hl.1 rfl (lv_room (Nat.le_of_ble_eq_true rfl)) dX5_sumKnown_38 ⟨Nat.le_of_ble_eq_true rfl, Nat.le_of_ble_eq_true rfl⟩) hm hS hA (fun r_6 st_6 H locs hw_6 hM hS => ?_)
          obtain ⟨n_6, hw_6⟩ := hw_6
          have n_6 := gBN.nil n_6
          subst n_6
          rcases hw_6 with ⟨rfl, hw_6_0, hw_6_1⟩ | ⟨rfl, hw_6_0⟩
          · skip
            refine lv_if_eq (tgt := 69) hx hb dX5_sumKnown_41 (by decide) (fun h9 => absurd h9 (by decide)) (fun _ => ?_)
            refine lv_aload_n hx hb dX5_sumKnown_44 rfl (lv_at hl 2 rfl) ?_
            refine lv_iload hx hb dX5_sumKnown_45 (lv_at hl 0 rfl) ?_
            refine lv_iload hx hb dX5_sumKnown_47 (lv_at hl 7 rfl) ?_
            refine gs_calli (va_runV (As := [.int y1_1, .int t]) (rest := []) ⟨hx, hb, hml, hown, hts⟩ (s_X5_isKnown l G cy sK sV ad H.size st hB_st.1 y1_1 t y1_1.toInt t.toInt rfl rfl (by first | decide | omega) (by first | decide | omega)) ⟨(gz_cb (n := 2) hts gm_680 gm_8 gm_683 ⟨by decide +kernel, by decide +kernel, by decide +kernel⟩ ⟨Nat.le_of_ble_eq_true rfl, Nat.le_of_ble_eq_true rfl⟩), hts _ gm_682, hts _ gs_21⟩ (gs_preV hK hov hE hI hM hm hS hA 16 0 (by decide) rfl rfl) rfl rfl hl.1 rfl (lv_room (Nat.le_of_ble_eq_true rfl)) dX5_sumKnown_49 ⟨Nat.le_of_ble_eq_true rfl, Nat.le_of_ble_eq_true rfl⟩) hm hS hA (fun r_7 st_7 H locs hw_7 hM hS => ?_)
            obtain ⟨n_7, hw_7⟩ := hw_7
            have n_7 := gBN.nil n_7
            subst n_7
            rcases hw_7 with ⟨rfl, hw_7_0, hw_7_1⟩ | ⟨rfl, hw_7_0⟩
            · skip
              refine lv_if_eq (tgt := 69) hx hb dX5_sumKnown_52 (by decide) (fun h9 => absurd h9 (by decide)) (fun _ => ?_)
              refine lv_iload hx hb dX5_sumKnown_55 (lv_at hl 1 rfl) ?_
              refine lv_aload_n hx hb dX5_sumKnown_57 rfl (lv_at hl 2 rfl) ?_
              refine gs_get (C := RX5) (T := TX5) (N := 2) hx hb hts inX5 hown hK hM 16 0 0 (by decide) rfl rfl (by decide) (hts _ gm_141) (fun _ h9 => h9) rfl dX5_sumKnown_58 ?_
              refine lv_iconst (v := 3) hx hb dX5_sumKnown_61 (by decide) ?_
              refine gs_alda hx hb hK hM 17 0 (by decide) rfl (vp_in_iff.mpr (by decide)) (a := ad 18 3) rfl dX5_sumKnown_62 ?_
              refine lv_iload hx hb dX5_sumKnown_63 (lv_at hl 0 rfl) ?_
              refine gs_iald hx hb hK hM 18 3 (by decide) rfl (vp_in_iff.mpr ⟨by omega, by omega⟩) dX5_sumKnown_65 ?_
              refine lv_topi (fun x_8 ex_8 => ?_)
              have qx_8 : x_8.toInt = (st 18 3 (y1_1.toNatClampNeg)).toInt := congrArg Int32.toInt ex_8
              refine lv_iadd hx hb dX5_sumKnown_66 ?_
              refine lv_topi (fun x_9 ex_9 => ?_)
              refine lv_istore (lv' := [(6, .int x_9), (7, .int y1_1), (0, .ref (ad 16 0)), (1, .int x), (2, .int y), (3, .int w), (4, .int 0), (5, .int t)]) hx hb dX5_sumKnown_67 hl (by decide) rfl (fun ls hl => ?_)
              obtain ⟨x_10, ex_10⟩ : ∃ y : Int32, y = y1_1 + 1 := ⟨_, rfl⟩
              try have tx_10 : x_10.toInt = y1_1.toInt + 1 := by rw [ex_10]; exact gz_addP (x := y1_1.toInt) (y := 1) rfl (by decide) (by omega) (by omega)
              refine lv_iinc (v := (x_10)) (lv' := [(7, .int x_10), (6, .int x_9), (0, .ref (ad 16 0)), (1, .int x), (2, .int y), (3, .int w), (4, .int 0), (5, .int t)]) hx hb dX5_sumKnown_69 hl (k := 1) rfl (by rw [ex_10]; rfl) (by decide) rfl (fun ls hl => ?_)
              refine lv_goto (tgt := 6) hx hb dX5_sumKnown_72 (by decide) ?_
              exact ih_1  (x_9 : Int32) (x_10 : Int32) H _ ls (by omega)  (by omega) (by have hb0 : (0 : Int) ≤ (st 16 0 1).toInt ∧ (st 16 0 1).toInt ≤ (300 : Int) := hB_st.1 16 0 1; omega) (sW.go hv1_2 (by omega) (by omega) (pJn_t (by omega)) ex_9 ex_8) hM hS (lv_sub hl [0, 1, 2, 3, 4, 5, 6, 7] rfl)
            · skip
              refine lv_if_eq (tgt := 69) hx hb dX5_sumKnown_52 (by decide) (fun _ => ?_) (fun h9 => absurd (by decide) h9)
              obtain ⟨x_11, ex_11⟩ : ∃ y : Int32, y = y1_1 + 1 := ⟨_, rfl⟩
              try have tx_11 : x_11.toInt = y1_1.toInt + 1 := by rw [ex_11]; exact gz_addP (x := y1_1.toInt) (y := 1) rfl (by decide) (by omega) (by omega)
              refine lv_iinc (v := (x_11)) (lv' := [(7, .int x_11), (6, .int y1_0), (0, .ref (ad 16 0)), (1, .int x), (2, .int y), (3, .int w), (4, .int 0), (5, .int t)]) hx hb dX5_sumKnown_69 hl (k := 0) rfl (by rw [ex_11]; rfl) (by decide) rfl (fun ls hl => ?_)
              refine lv_goto (tgt := 6) hx hb dX5_sumKnown_72 (by decide) ?_
              exact ih_1  (y1_0 : Int32) (x_11 : Int32) H _ ls (by omega)  (by omega) (by have hb0 : (0 : Int) ≤ (st 16 0 1).toInt ∧ (st 16 0 1).toInt ≤ (300 : Int) := hB_st.1 16 0 1; omega) (sW.skip hv1_2 (by omega) (by omega) (pJn_f (by omega))) hM hS (lv_sub hl [0, 1, 2, 3, 4, 5, 6, 7] rfl)
          · skip
            refine lv_if_eq (tgt := 69) hx hb dX5_sumKnown_41 (by decide) (fun _ => ?_) (fun h9 => absurd (by decide) h9)
            obtain ⟨x_12, ex_12⟩ : ∃ y : Int32, y = y1_1 + 1 := ⟨_, rfl⟩
            try have tx_12 : x_12.toInt = y1_1.toInt + 1 := by rw [ex_12]; exact gz_addP (x := y1_1.toInt) (y := 1) rfl (by decide) (by omega) (by omega)
            refine lv_iinc (v := (x_12)) (lv' := [(7, .int x_12), (6, .int y1_0), (0, .ref (ad 16 0)), (1, .int x), (2, .int y), (3, .int w), (4, .int 0), (5, .int t)]) hx hb dX5_sumKnown_69 hl (k := 0) rfl (by rw [ex_12]; rfl) (by decide) rfl (fun ls hl => ?_)
            refine lv_goto (tgt := 6) hx hb dX5_sumKnown_72 (by decide) ?_
            exact ih_1  (y1_0 : Int32) (x_12 : Int32) H _ ls (by omega)  (by omega) (by have hb0 : (0 : Int) ≤ (st 16 0 1).toInt ∧ (st 16 0 1).toInt ≤ (300 : Int) := hB_st.1 16 0 1; omega) (sW.skip hv1_2 (by omega) (by omega) (pJn_f (by omega))) hM hS (lv_sub hl [0, 1, 2, 3, 4, 5, 6, 7] rfl)
        · skip
          refine lv_if_eq (tgt := 69) hx hb dX5_sumKnown_24 (by decide) (fun _ => ?_) (fun h9 => absurd (by decide) h9)
          obtain ⟨x_13, ex_13⟩ : ∃ y : Int32, y = y1_1 + 1 := ⟨_, rfl⟩
          try have tx_13 : x_13.toInt = y1_1.toInt + 1 := by rw [ex_13]; exact gz_addP (x := y1_1.toInt) (y := 1) rfl (by decide) (by omega) (by omega)
          refine lv_iinc (v := (x_13)) (lv' := [(7, .int x_13), (6, .int y1_0), (0, .ref (ad 16 0)), (1, .int x), (2, .int y), (3, .int w), (4, .int 0), (5, .int t)]) hx hb dX5_sumKnown_69 hl (k := 0) rfl (by rw [ex_13]; rfl) (by decide) rfl (fun ls hl => ?_)
          refine lv_goto (tgt := 6) hx hb dX5_sumKnown_72 (by decide) ?_
          exact ih_1  (y1_0 : Int32) (x_13 : Int32) H _ ls (by omega)  (by omega) (by have hb0 : (0 : Int) ≤ (st 16 0 1).toInt ∧ (st 16 0 1).toInt ≤ (300 : Int) := hB_st.1 16 0 1; omega) (sW.skip hv1_2 (by omega) (by omega) (pJn_f (by omega))) hM hS (lv_sub hl [0, 1, 2, 3, 4, 5, 6, 7] rfl)
  exact lp1 ((300 - ((0 : Int32) : Int32).toInt).toNat + 1)  ((0 : Int32) : Int32) ((0 : Int32) : Int32) H _ ls (Nat.lt_succ_self _)  (by have hl0 : (0 : Int32).toInt = 0 := (by decide); have hl1 : (0 : Int32).toInt = 0 := (by decide); omega) (by have hl0 : (0 : Int32).toInt = 0 := (by decide); have hl1 : (0 : Int32).toInt = 0 := (by decide); have hb2 : (0 : Int) ≤ (st 16 0 1).toInt ∧ (st 16 0 1).toInt ≤ (300 : Int) := hB_st.1 16 0 1; omega) (sW.new (by decide)) hM hS (lv_sub hl [0, 1, 2, 3, 4, 5, 6, 7] rfl)

set_option maxHeartbeats 4000000 in
set_option maxRecDepth 100000 in
/-- WellCourt$Flock.put -/
theorem s_X2_put (l : Launch) (G : va_G) (cy : Nat → ClassId) (sK sV : Nat → Nat) (ad : Nat → Nat → Nat) (sz : Nat) (st : gS) (hB : gBd bX st) (x : Int32) (y : Int32) (w : Int32) (v : Int32) (Xx : Int) (Xy : Int) (Xw : Int) (Xv : Int) (kx : x.toInt = Xx) (ky : y.toInt = Xy) (kw : w.toInt = Xw) (kv : v.toInt = Xv) (hx0 : 0 ≤ Xx) (hx1 : Xx < 4) : gsMv l yX2_put cX2_put 5 ({ frames := 0, cells := 0, slots := 0, locals := 0 } : Room) G cy sK sV (shX cy ad) cnX ad sz [.ref (ad 19 0), .int x, .int y, .int w, .int v] st (fun (u : gS) => gBN bX kX [2000, 2100, 2200] st u ∧ ((u 20 0 = upd (st 20 0) x.toNatClampNeg y) ∧ (u 21 0 = upd (st 21 0) x.toNatClampNeg w) ∧ (u 22 0 = upd (st 22 0) x.toNatClampNeg v))) := by
  refine gs_start (fun A => gsQv G (shX cy ad) cnX ad _ A) (by decide) (Nat.le_of_ble_eq_true rfl) ?_
  intro p e s m below meth c A ls H hx hb hr hml hlocks hown hts hK hov hE hI hM hm hS hA hl
  have hl : lv_has ls 5 [(0, .ref (ad 19 0)), (1, .int x), (2, .int y), (3, .int w), (4, .int v)] := hl
  have hB_st : gBN bX kX [2000, 2100, 2200] st st := gBN.rf hB
  refine lv_aload_n hx hb dX2_put_0 rfl (lv_at hl 0 rfl) ?_
  refine gs_get (C := RX2) (T := TX2) (N := 5) hx hb hts inX2 hown hK hM 19 0 0 (by decide) rfl rfl (by decide) (hts _ gm_157) (fun _ h9 => h9) rfl dX2_put_1 ?_
  refine lv_iload_n hx hb dX2_put_4 rfl (lv_at hl 1 rfl) ?_
  refine lv_iload_n hx hb dX2_put_5 rfl (lv_at hl 2 rfl) ?_
  refine gs_iast hx hb hK hI hm hM hS 20 0 (by decide) (fun _ => rfl) (vp_in_iff.mpr ⟨by omega, by omega⟩) dX2_put_6 (fun st_1 H locs est_1 hM hS => ?_)
  have hB_st_1 : gBN bX kX [2000, 2100, 2200] st st_1 := by rw [est_1]; exact hB_st.up (show (2000 : Nat) ∈ _ from by decide) (gi_lo _) (gi_hi _)
  refine lv_aload_n hx hb dX2_put_7 rfl (lv_at hl 0 rfl) ?_
  refine gs_get (C := RX2) (T := TX2) (N := 5) hx hb hts inX2 hown hK hM 19 0 1 (by decide) rfl rfl (by decide) (hts _ gm_160) (fun _ h9 => h9) rfl dX2_put_8 ?_
  refine lv_iload_n hx hb dX2_put_11 rfl (lv_at hl 1 rfl) ?_
  refine lv_iload_n hx hb dX2_put_12 rfl (lv_at hl 3 rfl) ?_
  refine gs_iast hx hb hK hI hm hM hS 21 0 (by decide) (fun _ => rfl) (vp_in_iff.mpr ⟨by omega, by omega⟩) dX2_put_13 (fun st_2 H locs est_2 hM hS => ?_)
  have hB_st_2 : gBN bX kX [2000, 2100, 2200] st st_2 := by rw [est_2]; exact hB_st_1.up (show (2100 : Nat) ∈ _ from by decide) (gi_lo _) (gi_hi _)
  refine lv_aload_n hx hb dX2_put_14 rfl (lv_at hl 0 rfl) ?_
  refine gs_get (C := RX2) (T := TX2) (N := 5) hx hb hts inX2 hown hK hM 19 0 2 (by decide) rfl rfl (by decide) (hts _ gm_162) (fun _ h9 => h9) rfl dX2_put_15 ?_
  refine lv_iload_n hx hb dX2_put_18 rfl (lv_at hl 1 rfl) ?_
  refine lv_iload hx hb dX2_put_19 (lv_at hl 4 rfl) ?_
  refine gs_iast hx hb hK hI hm hM hS 22 0 (by decide) (fun _ => rfl) (vp_in_iff.mpr ⟨by omega, by omega⟩) dX2_put_21 (fun st_3 H locs est_3 hM hS => ?_)
  have hB_st_3 : gBN bX kX [2000, 2100, 2200] st st_3 := by rw [est_3]; exact hB_st_2.up (show (2200 : Nat) ∈ _ from by decide) (gi_lo _) (gi_hi _)
  exact gs_vret hx hb hr hlocks hM hS ⟨hB_st_3, (((congrFun (congrFun est_3 20) 0).trans ((congrFun (gU_k (by decide)) 0).trans ((congrFun (congrFun est_2 20) 0).trans ((congrFun (gU_k (by decide)) 0).trans ((congrFun (congrFun est_1 20) 0).trans ((gU_at _ _ _ _ _).trans (congrArg (fun f9 => upd f9 (x.toNatClampNeg) (y : Int32)) rfl)))))))), (((congrFun (congrFun est_3 21) 0).trans ((congrFun (gU_k (by decide)) 0).trans ((congrFun (congrFun est_2 21) 0).trans ((gU_at _ _ _ _ _).trans (congrArg (fun f9 => upd f9 (x.toNatClampNeg) (w : Int32)) ((congrFun (congrFun est_1 21) 0).trans ((congrFun (gU_k (by decide)) 0).trans rfl)))))))), (((congrFun (congrFun est_3 22) 0).trans ((gU_at _ _ _ _ _).trans (congrArg (fun f9 => upd f9 (x.toNatClampNeg) (v : Int32)) ((congrFun (congrFun est_2 22) 0).trans ((congrFun (gU_k (by decide)) 0).trans ((congrFun (congrFun est_1 22) 0).trans ((congrFun (gU_k (by decide)) 0).trans rfl))))))))⟩ (by exact Nat.le_refl _) (by exact Nat.le_refl _) dX2_put_22
