theorem gm_301 : (Jvm.Cond.fieldLink "WellCourt" (79 : Nat) "WellCourt" "date" "I") ∈ gz_T := gz_at 301 (by decide +kernel) rfl
theorem gm_639 : (Jvm.Cond.methodLink "WellCourt" (161 : Nat) ({ cls := "WellCourt", name := "canBeDrawn", desc := "(III)Z" } : Jvm.MethodName)) ∈ gz_T := gz_at 639 (by decide +kernel) rfl
theorem gm_641 : (Jvm.Cond.instanceMethod ({ cls := "WellCourt", name := "canBeDrawn", desc := "(III)Z" } : Jvm.MethodName)) ∈ gz_T := gz_at 641 (by decide +kernel) rfl
theorem gm_642 : (Jvm.Cond.code ({ cls := "WellCourt", name := "canBeDrawn", desc := "(III)Z" } : Jvm.MethodName) prog_1_method_27_code (4 : Nat) (Option.some Jvm.ClassFile.FieldType.boolean)) ∈ gz_T := gz_at 642 (by decide +kernel) rfl
theorem gm_643 : (Jvm.Cond.methodLink "WellCourt" (164 : Nat) ({ cls := "WellCourt$Ledger", name := "rightfulOn", desc := "(III)I" } : Jvm.MethodName)) ∈ gz_T := gz_at 643 (by decide +kernel) rfl
theorem gm_644 : (Jvm.Cond.instanceMethod ({ cls := "WellCourt$Ledger", name := "rightfulOn", desc := "(III)I" } : Jvm.MethodName)) ∈ gz_T := gz_at 644 (by decide +kernel) rfl
theorem gm_645 : (Jvm.Cond.selects "WellCourt$Ledger" ({ cls := "WellCourt$Ledger", name := "rightfulOn", desc := "(III)I" } : Jvm.MethodName) ({ cls := "WellCourt$Ledger", name := "rightfulOn", desc := "(III)I" } : Jvm.MethodName)) ∈ gz_T := gz_at 645 (by decide +kernel) rfl
theorem gm_646 : (Jvm.Cond.code ({ cls := "WellCourt$Ledger", name := "rightfulOn", desc := "(III)I" } : Jvm.MethodName) prog_7_method_4_code (6 : Nat) (Option.some Jvm.ClassFile.FieldType.int)) ∈ gz_T := gz_at 646 (by decide +kernel) rfl
theorem gm_651 : (Jvm.Cond.methodLink "WellCourt" (171 : Nat) ({ cls := "WellCourt$Ledger", name := "enter", desc := "(IIIIZ)V" } : Jvm.MethodName)) ∈ gz_T := gz_at 651 (by decide +kernel) rfl
theorem gm_652 : (Jvm.Cond.instanceMethod ({ cls := "WellCourt$Ledger", name := "enter", desc := "(IIIIZ)V" } : Jvm.MethodName)) ∈ gz_T := gz_at 652 (by decide +kernel) rfl
theorem gm_653 : (Jvm.Cond.selects "WellCourt$Ledger" ({ cls := "WellCourt$Ledger", name := "enter", desc := "(IIIIZ)V" } : Jvm.MethodName) ({ cls := "WellCourt$Ledger", name := "enter", desc := "(IIIIZ)V" } : Jvm.MethodName)) ∈ gz_T := gz_at 653 (by decide +kernel) rfl
theorem gm_654 : (Jvm.Cond.code ({ cls := "WellCourt$Ledger", name := "enter", desc := "(IIIIZ)V" } : Jvm.MethodName) prog_7_method_3_code (6 : Nat) (Option.none : Option Jvm.ClassFile.FieldType)) ∈ gz_T := gz_at 654 (by decide +kernel) rfl
theorem gm_663 : (Jvm.Cond.methodLink "WellCourt" (175 : Nat) ({ cls := "WellCourt$Ledger", name := "has", desc := "(I)Z" } : Jvm.MethodName)) ∈ gz_T := gz_at 663 (by decide +kernel) rfl
theorem gm_664 : (Jvm.Cond.instanceMethod ({ cls := "WellCourt$Ledger", name := "has", desc := "(I)Z" } : Jvm.MethodName)) ∈ gz_T := gz_at 664 (by decide +kernel) rfl
theorem gm_665 : (Jvm.Cond.selects "WellCourt$Ledger" ({ cls := "WellCourt$Ledger", name := "has", desc := "(I)Z" } : Jvm.MethodName) ({ cls := "WellCourt$Ledger", name := "has", desc := "(I)Z" } : Jvm.MethodName)) ∈ gz_T := gz_at 665 (by decide +kernel) rfl
theorem gm_666 : (Jvm.Cond.code ({ cls := "WellCourt$Ledger", name := "has", desc := "(I)Z" } : Jvm.MethodName) prog_7_method_2_code (2 : Nat) (Option.some Jvm.ClassFile.FieldType.boolean)) ∈ gz_T := gz_at 666 (by decide +kernel) rfl
theorem gn_121 : (Jvm.Cond.fieldLinkNest "WellCourt" (111 : Nat) "WellCourt$Day" "level" "[I" "WellCourt") ∈ gzN := gz_nest 121 (by decide +kernel) rfl
theorem gn_142 : (Jvm.Cond.fieldLinkNest "WellCourt" (178 : Nat) "WellCourt$Ledger" "facts" "[[I" "WellCourt") ∈ gzN := gz_nest 142 (by decide +kernel) rfl
theorem gs_19 : (Jvm.Cond.selects "WellCourt" ({ cls := "WellCourt", name := "canBeDrawn", desc := "(III)Z" } : Jvm.MethodName) ({ cls := "WellCourt", name := "canBeDrawn", desc := "(III)Z" } : Jvm.MethodName)) ∈ gz_T := gz_sel 19 (by decide +kernel) rfl
theorem dX9_draw_0 : decode cX9_draw 0 = .ok (.aload_n 0, 1) := by decide +kernel
theorem dX9_draw_1 : decode cX9_draw 1 = .ok (.iload_n 1, 1) := by decide +kernel
theorem dX9_draw_2 : decode cX9_draw 2 = .ok (.iload_n 2, 1) := by decide +kernel
theorem dX9_draw_3 : decode cX9_draw 3 = .ok (.iload_n 3, 1) := by decide +kernel
theorem dX9_draw_4 : decode cX9_draw 4 = .ok (.invokevirtual 161, 3) := by decide +kernel
theorem dX9_draw_7 : decode cX9_draw 7 = .ok (.ifCond .ne 5, 3) := by decide +kernel
theorem dX9_draw_10 : decode cX9_draw 10 = .ok (.iconst 1, 1) := by decide +kernel
theorem dX9_draw_11 : decode cX9_draw 11 = .ok (.ireturn, 1) := by decide +kernel
theorem dX9_draw_12 : decode cX9_draw 12 = .ok (.aload_n 0, 1) := by decide +kernel
theorem dX9_draw_13 : decode cX9_draw 13 = .ok (.iload_n 1, 1) := by decide +kernel
theorem dX9_draw_14 : decode cX9_draw 14 = .ok (.iload_n 2, 1) := by decide +kernel
theorem dX9_draw_15 : decode cX9_draw 15 = .ok (.invokevirtual 154, 3) := by decide +kernel
theorem dX9_draw_18 : decode cX9_draw 18 = .ok (.istore 4, 2) := by decide +kernel
theorem dX9_draw_20 : decode cX9_draw 20 = .ok (.iload 4, 2) := by decide +kernel
theorem dX9_draw_22 : decode cX9_draw 22 = .ok (.ifCond .ne 5, 3) := by decide +kernel
theorem dX9_draw_25 : decode cX9_draw 25 = .ok (.iconst 2, 1) := by decide +kernel
theorem dX9_draw_26 : decode cX9_draw 26 = .ok (.ireturn, 1) := by decide +kernel
theorem dX9_draw_27 : decode cX9_draw 27 = .ok (.iload 4, 2) := by decide +kernel
theorem dX9_draw_29 : decode cX9_draw 29 = .ok (.iconst 2, 1) := by decide +kernel
theorem dX9_draw_30 : decode cX9_draw 30 = .ok (.if_icmp .ne 40, 3) := by decide +kernel
theorem dX9_draw_33 : decode cX9_draw 33 = .ok (.aload_n 0, 1) := by decide +kernel
theorem dX9_draw_34 : decode cX9_draw 34 = .ok (.getfield 49, 3) := by decide +kernel
theorem dX9_draw_37 : decode cX9_draw 37 = .ok (.aload_n 0, 1) := by decide +kernel
theorem dX9_draw_38 : decode cX9_draw 38 = .ok (.getfield 79, 3) := by decide +kernel
theorem dX9_draw_41 : decode cX9_draw 41 = .ok (.iload_n 1, 1) := by decide +kernel
theorem dX9_draw_42 : decode cX9_draw 42 = .ok (.iload_n 2, 1) := by decide +kernel
theorem dX9_draw_43 : decode cX9_draw 43 = .ok (.invokevirtual 164, 3) := by decide +kernel
theorem dX9_draw_46 : decode cX9_draw 46 = .ok (.istore 5, 2) := by decide +kernel
theorem dX9_draw_48 : decode cX9_draw 48 = .ok (.iload 5, 2) := by decide +kernel
theorem dX9_draw_50 : decode cX9_draw 50 = .ok (.iload_n 3, 1) := by decide +kernel
theorem dX9_draw_51 : decode cX9_draw 51 = .ok (.iadd, 1) := by decide +kernel
theorem dX9_draw_52 : decode cX9_draw 52 = .ok (.aload_n 0, 1) := by decide +kernel
theorem dX9_draw_53 : decode cX9_draw 53 = .ok (.getfield 42, 3) := by decide +kernel
theorem dX9_draw_56 : decode cX9_draw 56 = .ok (.aload_n 0, 1) := by decide +kernel
theorem dX9_draw_57 : decode cX9_draw 57 = .ok (.getfield 63, 3) := by decide +kernel
theorem dX9_draw_60 : decode cX9_draw 60 = .ok (.iload_n 1, 1) := by decide +kernel
theorem dX9_draw_61 : decode cX9_draw 61 = .ok (.iload_n 2, 1) := by decide +kernel
theorem dX9_draw_62 : decode cX9_draw 62 = .ok (.invokevirtual 167, 3) := by decide +kernel
theorem dX9_draw_65 : decode cX9_draw 65 = .ok (.if_icmp .le 5, 3) := by decide +kernel
theorem dX9_draw_68 : decode cX9_draw 68 = .ok (.iconst 3, 1) := by decide +kernel
theorem dX9_draw_69 : decode cX9_draw 69 = .ok (.ireturn, 1) := by decide +kernel
theorem dX9_draw_70 : decode cX9_draw 70 = .ok (.iload_n 3, 1) := by decide +kernel
theorem dX9_draw_71 : decode cX9_draw 71 = .ok (.aload_n 0, 1) := by decide +kernel
theorem dX9_draw_72 : decode cX9_draw 72 = .ok (.getfield 42, 3) := by decide +kernel
theorem dX9_draw_75 : decode cX9_draw 75 = .ok (.getfield 111, 3) := by decide +kernel
theorem dX9_draw_78 : decode cX9_draw 78 = .ok (.iload_n 1, 1) := by decide +kernel
theorem dX9_draw_79 : decode cX9_draw 79 = .ok (.iaload, 1) := by decide +kernel
theorem dX9_draw_80 : decode cX9_draw 80 = .ok (.if_icmp .le 5, 3) := by decide +kernel
theorem dX9_draw_83 : decode cX9_draw 83 = .ok (.iconst 4, 1) := by decide +kernel
theorem dX9_draw_84 : decode cX9_draw 84 = .ok (.ireturn, 1) := by decide +kernel
theorem dX9_draw_85 : decode cX9_draw 85 = .ok (.aload_n 0, 1) := by decide +kernel
theorem dX9_draw_86 : decode cX9_draw 86 = .ok (.getfield 42, 3) := by decide +kernel
theorem dX9_draw_89 : decode cX9_draw 89 = .ok (.getfield 111, 3) := by decide +kernel
theorem dX9_draw_92 : decode cX9_draw 92 = .ok (.iload_n 1, 1) := by decide +kernel
theorem dX9_draw_93 : decode cX9_draw 93 = .ok (.dup2, 1) := by decide +kernel
theorem dX9_draw_94 : decode cX9_draw 94 = .ok (.iaload, 1) := by decide +kernel
theorem dX9_draw_95 : decode cX9_draw 95 = .ok (.iload_n 3, 1) := by decide +kernel
theorem dX9_draw_96 : decode cX9_draw 96 = .ok (.isub, 1) := by decide +kernel
theorem dX9_draw_97 : decode cX9_draw 97 = .ok (.iastore, 1) := by decide +kernel
theorem dX9_draw_98 : decode cX9_draw 98 = .ok (.aload_n 0, 1) := by decide +kernel
theorem dX9_draw_99 : decode cX9_draw 99 = .ok (.getfield 49, 3) := by decide +kernel
theorem dX9_draw_102 : decode cX9_draw 102 = .ok (.aload_n 0, 1) := by decide +kernel
theorem dX9_draw_103 : decode cX9_draw 103 = .ok (.getfield 79, 3) := by decide +kernel
theorem dX9_draw_106 : decode cX9_draw 106 = .ok (.iload_n 1, 1) := by decide +kernel
theorem dX9_draw_107 : decode cX9_draw 107 = .ok (.iload_n 2, 1) := by decide +kernel
theorem dX9_draw_108 : decode cX9_draw 108 = .ok (.iload_n 3, 1) := by decide +kernel
theorem dX9_draw_109 : decode cX9_draw 109 = .ok (.iconst 1, 1) := by decide +kernel
theorem dX9_draw_110 : decode cX9_draw 110 = .ok (.invokevirtual 171, 3) := by decide +kernel
theorem dX9_draw_113 : decode cX9_draw 113 = .ok (.iconst 0, 1) := by decide +kernel
theorem dX9_draw_114 : decode cX9_draw 114 = .ok (.ireturn, 1) := by decide +kernel
theorem dX9_report_0 : decode cX9_report 0 = .ok (.aload_n 0, 1) := by decide +kernel
theorem dX9_report_1 : decode cX9_report 1 = .ok (.getfield 49, 3) := by decide +kernel
theorem dX9_report_4 : decode cX9_report 4 = .ok (.iload_n 1, 1) := by decide +kernel
theorem dX9_report_5 : decode cX9_report 5 = .ok (.invokevirtual 175, 3) := by decide +kernel
theorem dX9_report_8 : decode cX9_report 8 = .ok (.ifCond .eq 18, 3) := by decide +kernel
theorem dX9_report_11 : decode cX9_report 11 = .ok (.aload_n 0, 1) := by decide +kernel
theorem dX9_report_12 : decode cX9_report 12 = .ok (.getfield 49, 3) := by decide +kernel
theorem dX9_report_15 : decode cX9_report 15 = .ok (.getfield 178, 3) := by decide +kernel
theorem dX9_report_18 : decode cX9_report 18 = .ok (.iconst 5, 1) := by decide +kernel
theorem dX9_report_19 : decode cX9_report 19 = .ok (.aaload, 1) := by decide +kernel
theorem dX9_report_20 : decode cX9_report 20 = .ok (.iload_n 1, 1) := by decide +kernel
theorem dX9_report_21 : decode cX9_report 21 = .ok (.iaload, 1) := by decide +kernel
theorem dX9_report_22 : decode cX9_report 22 = .ok (.iconst (-1), 1) := by decide +kernel
theorem dX9_report_23 : decode cX9_report 23 = .ok (.if_icmp .eq 5, 3) := by decide +kernel
theorem dX9_report_26 : decode cX9_report 26 = .ok (.iconst 0, 1) := by decide +kernel
theorem dX9_report_27 : decode cX9_report 27 = .ok (.ireturn, 1) := by decide +kernel
theorem dX9_report_28 : decode cX9_report 28 = .ok (.aload_n 0, 1) := by decide +kernel
theorem dX9_report_29 : decode cX9_report 29 = .ok (.getfield 49, 3) := by decide +kernel
theorem dX9_report_32 : decode cX9_report 32 = .ok (.getfield 178, 3) := by decide +kernel
theorem dX9_report_35 : decode cX9_report 35 = .ok (.iconst 5, 1) := by decide +kernel
theorem dX9_report_36 : decode cX9_report 36 = .ok (.aaload, 1) := by decide +kernel
theorem dX9_report_37 : decode cX9_report 37 = .ok (.iload_n 1, 1) := by decide +kernel
theorem dX9_report_38 : decode cX9_report 38 = .ok (.aload_n 0, 1) := by decide +kernel
theorem dX9_report_39 : decode cX9_report 39 = .ok (.getfield 79, 3) := by decide +kernel
theorem dX9_report_42 : decode cX9_report 42 = .ok (.iastore, 1) := by decide +kernel
theorem dX9_report_43 : decode cX9_report 43 = .ok (.iconst 1, 1) := by decide +kernel
theorem dX9_report_44 : decode cX9_report 44 = .ok (.ireturn, 1) := by decide +kernel
theorem dX9_take_0 : decode cX9_take 0 = .ok (.aload_n 0, 1) := by decide +kernel
theorem dX9_take_1 : decode cX9_take 1 = .ok (.iload_n 1, 1) := by decide +kernel
theorem dX9_take_2 : decode cX9_take 2 = .ok (.iload_n 2, 1) := by decide +kernel
theorem dX9_take_3 : decode cX9_take 3 = .ok (.iload_n 3, 1) := by decide +kernel
theorem dX9_take_4 : decode cX9_take 4 = .ok (.invokevirtual 161, 3) := by decide +kernel
theorem dX9_take_7 : decode cX9_take 7 = .ok (.ifCond .ne 5, 3) := by decide +kernel
theorem dX9_take_10 : decode cX9_take 10 = .ok (.iconst 1, 1) := by decide +kernel
theorem dX9_take_11 : decode cX9_take 11 = .ok (.ireturn, 1) := by decide +kernel
theorem dX9_take_12 : decode cX9_take 12 = .ok (.aload_n 0, 1) := by decide +kernel
theorem dX9_take_13 : decode cX9_take 13 = .ok (.iload_n 1, 1) := by decide +kernel
theorem dX9_take_14 : decode cX9_take 14 = .ok (.iload_n 2, 1) := by decide +kernel
theorem dX9_take_15 : decode cX9_take 15 = .ok (.invokevirtual 154, 3) := by decide +kernel
theorem dX9_take_18 : decode cX9_take 18 = .ok (.iconst 1, 1) := by decide +kernel
theorem dX9_take_19 : decode cX9_take 19 = .ok (.if_icmp .ne 5, 3) := by decide +kernel
theorem dX9_take_22 : decode cX9_take 22 = .ok (.iconst 5, 1) := by decide +kernel
theorem dX9_take_23 : decode cX9_take 23 = .ok (.ireturn, 1) := by decide +kernel
theorem dX9_take_24 : decode cX9_take 24 = .ok (.iload_n 3, 1) := by decide +kernel
theorem dX9_take_25 : decode cX9_take 25 = .ok (.aload_n 0, 1) := by decide +kernel
theorem dX9_take_26 : decode cX9_take 26 = .ok (.getfield 42, 3) := by decide +kernel
theorem dX9_take_29 : decode cX9_take 29 = .ok (.getfield 111, 3) := by decide +kernel
theorem dX9_take_32 : decode cX9_take 32 = .ok (.iload_n 1, 1) := by decide +kernel
theorem dX9_take_33 : decode cX9_take 33 = .ok (.iaload, 1) := by decide +kernel
theorem dX9_take_34 : decode cX9_take 34 = .ok (.if_icmp .le 5, 3) := by decide +kernel
theorem dX9_take_37 : decode cX9_take 37 = .ok (.iconst 4, 1) := by decide +kernel
theorem dX9_take_38 : decode cX9_take 38 = .ok (.ireturn, 1) := by decide +kernel
theorem dX9_take_39 : decode cX9_take 39 = .ok (.aload_n 0, 1) := by decide +kernel
theorem dX9_take_40 : decode cX9_take 40 = .ok (.getfield 42, 3) := by decide +kernel
theorem dX9_take_43 : decode cX9_take 43 = .ok (.getfield 111, 3) := by decide +kernel
theorem dX9_take_46 : decode cX9_take 46 = .ok (.iload_n 1, 1) := by decide +kernel
theorem dX9_take_47 : decode cX9_take 47 = .ok (.dup2, 1) := by decide +kernel
theorem dX9_take_48 : decode cX9_take 48 = .ok (.iaload, 1) := by decide +kernel
theorem dX9_take_49 : decode cX9_take 49 = .ok (.iload_n 3, 1) := by decide +kernel
theorem dX9_take_50 : decode cX9_take 50 = .ok (.isub, 1) := by decide +kernel
theorem dX9_take_51 : decode cX9_take 51 = .ok (.iastore, 1) := by decide +kernel
theorem dX9_take_52 : decode cX9_take 52 = .ok (.aload_n 0, 1) := by decide +kernel
theorem dX9_take_53 : decode cX9_take 53 = .ok (.getfield 49, 3) := by decide +kernel
theorem dX9_take_56 : decode cX9_take 56 = .ok (.aload_n 0, 1) := by decide +kernel
theorem dX9_take_57 : decode cX9_take 57 = .ok (.getfield 79, 3) := by decide +kernel
theorem dX9_take_60 : decode cX9_take 60 = .ok (.iload_n 1, 1) := by decide +kernel
theorem dX9_take_61 : decode cX9_take 61 = .ok (.iload_n 2, 1) := by decide +kernel
theorem dX9_take_62 : decode cX9_take 62 = .ok (.iload_n 3, 1) := by decide +kernel
theorem dX9_take_63 : decode cX9_take 63 = .ok (.iconst 0, 1) := by decide +kernel
theorem dX9_take_64 : decode cX9_take 64 = .ok (.invokevirtual 171, 3) := by decide +kernel
theorem dX9_take_67 : decode cX9_take 67 = .ok (.iconst 0, 1) := by decide +kernel
theorem dX9_take_68 : decode cX9_take 68 = .ok (.ireturn, 1) := by decide +kernel
set_option maxHeartbeats 4000000 in
set_option maxRecDepth 100000 in
/-- WellCourt.draw -/
theorem s_draw (l : Launch) (G : va_G) (cy : Nat → ClassId) (sK sV : Nat → Nat) (ad : Nat → Nat → Nat) (sz : Nat) (st : gS) (hB : gBd bX st) (x : Int32) (y : Int32) (w : Int32) (Xx : Int) (Xy : Int) (Xw : Int) (kx : x.toInt = Xx) (ky : y.toInt = Xy) (kw : w.toInt = Xw) (rs : List Rl) (hLa : LXa rs st (st 0 0 7).toNatClampNeg) (hwf : ∀ r ∈ rs, wfR r) : gsMi l yX9_draw cX9_draw 6 (some .int) ({ frames := 4, cells := 0, slots := 0, locals := 88 } : Room) G cy sK sV (shX cy ad) cnX ad sz [.ref (ad 0 0), .int x, .int y, .int w] st (fun (r : Int32) (u : gS) => gBN bX kX [1300, 1601, 1800] st u ∧ (((¬ (0 ≤ Xx ∧ Xx ≤ 5 ∧ 0 < (st 5 0 x.toNatClampNeg).toInt ∧ 0 ≤ Xy ∧ Xy ≤ 5 ∧ 1 ≤ Xw ∧ Xw ≤ 1000 ∧ (st 16 0 1).toInt < 300) ∧ r.toInt = 1 ∧ u = st) ∨ ((0 ≤ Xx ∧ Xx ≤ 5 ∧ 0 < (st 5 0 x.toNatClampNeg).toInt ∧ 0 ≤ Xy ∧ Xy ≤ 5 ∧ 1 ≤ Xw ∧ Xw ≤ 1000 ∧ (st 16 0 1).toInt < 300) ∧ ¬ (rtC rs st 15 x.toNatClampNeg Xy) ∧ gstT rs Xy Xx (st 15 15 x.toNatClampNeg).toInt = -1 ∧ r.toInt = 2 ∧ u = st) ∨ ((0 ≤ Xx ∧ Xx ≤ 5 ∧ 0 < (st 5 0 x.toNatClampNeg).toInt ∧ 0 ≤ Xy ∧ Xy ≤ 5 ∧ 1 ≤ Xw ∧ Xw ≤ 1000 ∧ (st 16 0 1).toInt < 300) ∧ ¬ (rtC rs st 15 x.toNatClampNeg Xy) ∧ 0 ≤ gstT rs Xy Xx (st 15 15 x.toNatClampNeg).toInt ∧ gstT rs Xy Xx (st 15 15 x.toNatClampNeg).toInt < (sW (pGd (st 18 0) (st 18 1) (st 18 2) (st 18 4) (st 0 0 10).toInt Xx Xy) (st 18 3) (st 16 0 1).toNatClampNeg + w).toInt ∧ r.toInt = 3 ∧ u = st) ∨ ((0 ≤ Xx ∧ Xx ≤ 5 ∧ 0 < (st 5 0 x.toNatClampNeg).toInt ∧ 0 ≤ Xy ∧ Xy ≤ 5 ∧ 1 ≤ Xw ∧ Xw ≤ 1000 ∧ (st 16 0 1).toInt < 300) ∧ ((rtC rs st 15 x.toNatClampNeg Xy) ∨ (0 ≤ gstT rs Xy Xx (st 15 15 x.toNatClampNeg).toInt ∧ (sW (pGd (st 18 0) (st 18 1) (st 18 2) (st 18 4) (st 0 0 10).toInt Xx Xy) (st 18 3) (st 16 0 1).toNatClampNeg + w).toInt ≤ gstT rs Xy Xx (st 15 15 x.toNatClampNeg).toInt)) ∧ (st 13 15 x.toNatClampNeg).toInt < Xw ∧ r.toInt = 4 ∧ u = st) ∨ ((0 ≤ Xx ∧ Xx ≤ 5 ∧ 0 < (st 5 0 x.toNatClampNeg).toInt ∧ 0 ≤ Xy ∧ Xy ≤ 5 ∧ 1 ≤ Xw ∧ Xw ≤ 1000 ∧ (st 16 0 1).toInt < 300) ∧ ((rtC rs st 15 x.toNatClampNeg Xy) ∨ (0 ≤ gstT rs Xy Xx (st 15 15 x.toNatClampNeg).toInt ∧ (sW (pGd (st 18 0) (st 18 1) (st 18 2) (st 18 4) (st 0 0 10).toInt Xx Xy) (st 18 3) (st 16 0 1).toNatClampNeg + w).toInt ≤ gstT rs Xy Xx (st 15 15 x.toNatClampNeg).toInt)) ∧ Xw ≤ (st 13 15 x.toNatClampNeg).toInt ∧ r.toInt = 0 ∧ enX st u x y w 1 (st 0 0 10))))) := by
  refine gs_start (fun A => gsQi G (shX cy ad) cnX ad _ A) (by decide) (Nat.le_of_ble_eq_true rfl) ?_
  intro p e s m below meth c A ls H hx hb hr hml hlocks hown hts hK hov hE hI hM hm hS hA hl
  have hl : lv_has ls 6 [(0, .ref (ad 0 0)), (1, .int x), (2, .int y), (3, .int w)] := hl
  have hB_st : gBN bX kX [1300, 1601, 1800] st st := gBN.rf hB
  refine lv_aload_n hx hb dX9_draw_0 rfl (lv_at hl 0 rfl) ?_
  refine lv_iload_n hx hb dX9_draw_1 rfl (lv_at hl 1 rfl) ?_
  refine lv_iload_n hx hb dX9_draw_2 rfl (lv_at hl 2 rfl) ?_
  refine lv_iload_n hx hb dX9_draw_3 rfl (lv_at hl 3 rfl) ?_
  refine gs_calli (va_runV (As := [.int x, .int y, .int w]) (rest := []) ⟨hx, hb, hml, hown, hts⟩ (s_canBeDrawn l G cy sK sV ad H.size st hB_st.1 x y w x.toInt y.toInt w.toInt rfl rfl rfl ) ⟨(gz_cb (n := 3) hts gm_639 gm_1 gm_642 ⟨by decide +kernel, by decide +kernel, by decide +kernel⟩ ⟨Nat.le_of_ble_eq_true rfl, Nat.le_of_ble_eq_true rfl⟩), hts _ gm_641, hts _ gs_19⟩ (gs_preV hK hov hE hI hM hm hS hA 0 0 (by decide) rfl rfl) rfl rfl hl.1 rfl (lv_room (Nat.le_of_ble_eq_true rfl)) dX9_draw_4 ⟨Nat.le_of_ble_eq_true rfl, Nat.le_of_ble_eq_true rfl⟩) hm hS hA (fun r_1 st_1 H locs hw_1 hM hS => ?_)
  obtain ⟨n_1, hw_1⟩ := hw_1
  have n_1 := gBN.nil n_1
  subst n_1
  have hbhw_10 : (0 : Int) ≤ (st 16 0 1).toInt ∧ (st 16 0 1).toInt ≤ (300 : Int) := hB_st.1 16 0 1
  rcases hw_1 with ⟨rfl, hw_1_0, hw_1_1, hw_1_2, hw_1_3, hw_1_4, hw_1_5, hw_1_6, hw_1_7⟩ | ⟨rfl, hw_1_0⟩
  · skip
    refine lv_if_ne (tgt := 12) hx hb dX9_draw_7 (by decide) (fun _ => ?_) (fun h9 => absurd h9 (by decide))
    refine lv_aload_n hx hb dX9_draw_12 rfl (lv_at hl 0 rfl) ?_
    refine lv_iload_n hx hb dX9_draw_13 rfl (lv_at hl 1 rfl) ?_
    refine lv_iload_n hx hb dX9_draw_14 rfl (lv_at hl 2 rfl) ?_
    refine gs_calli (va_runV (As := [.int x, .int y]) (rest := []) ⟨hx, hb, hml, hown, hts⟩ (s_standing l G cy sK sV ad H.size st hB_st.1 x y x.toInt y.toInt rfl rfl (by first | decide | omega) (by first | decide | omega) rs hLa hwf) ⟨(gz_cb (n := 2) hts gm_601 gm_1 gm_604 ⟨by decide +kernel, by decide +kernel, by decide +kernel⟩ ⟨Nat.le_of_ble_eq_true rfl, Nat.le_of_ble_eq_true rfl⟩), hts _ gm_603, hts _ gs_18⟩ (gs_preV hK hov hE hI hM hm hS hA 0 0 (by decide) rfl rfl) rfl rfl hl.1 rfl (lv_room (Nat.le_of_ble_eq_true rfl)) dX9_draw_15 ⟨Nat.le_of_ble_eq_true rfl, Nat.le_of_ble_eq_true rfl⟩) hm hS hA (fun r_2 st_2 H locs hw_2 hM hS => ?_)
    obtain ⟨n_2, hw_2⟩ := hw_2
    have n_2 := gBN.nil n_2
    subst n_2
    have hw_2_0 := hw_2
    refine lv_istore (lv' := [(4, .int r_2), (0, .ref (ad 0 0)), (1, .int x), (2, .int y), (3, .int w)]) hx hb dX9_draw_18 hl (by decide) rfl (fun ls hl => ?_)
    refine lv_iload hx hb dX9_draw_20 (lv_at hl 0 rfl) ?_
    refine lv_if_ne (tgt := 27) hx hb dX9_draw_22 (by decide) (fun c_3 => ?_) (fun c_3 => ?_)
    · have ic_3 := gz_ne (rfl : r_2.toInt = r_2.toInt) (by decide : (0 : Int32).toInt = 0) c_3
      refine lv_iload hx hb dX9_draw_27 (lv_at hl 0 rfl) ?_
      refine lv_iconst (v := 2) hx hb dX9_draw_29 (by decide) ?_
      refine lv_icmp_ne (tgt := 70) hx hb dX9_draw_30 (by decide) (fun c_4 => ?_) (fun c_4 => ?_)
      · have ic_4 := gz_ne (rfl : r_2.toInt = r_2.toInt) (by decide : (2 : Int32).toInt = 2) c_4
        refine lv_iload_n hx hb dX9_draw_70 rfl (lv_at hl 4 rfl) ?_
        refine lv_aload_n hx hb dX9_draw_71 rfl (lv_at hl 1 rfl) ?_
        refine gs_get (C := RX9) (T := TX9) (N := 12) hx hb hts inX9 hown hK hM 0 0 4 (by decide) rfl rfl (by decide) (hts _ gm_295) (fun _ h9 => h9) rfl dX9_draw_72 ?_
        refine gs_getN (host := "WellCourt") (C := RX1) (T := TX1) (N := 3) hx hb hts inX1 hown hK hM 12 15 0 (by decide) rfl rfl (by decide) (va_Nw.use rfl (hov.2.2 _ gn_121)) (fun _ h9 => h9) rfl dX9_draw_75 ?_
        refine lv_iload_n hx hb dX9_draw_78 rfl (lv_at hl 2 rfl) ?_
        refine gs_iald hx hb hK hM 13 15 (by decide) rfl (vp_in_iff.mpr ⟨by omega, by omega⟩) dX9_draw_79 ?_
        refine lv_topi (fun x_5 ex_5 => ?_)
        have qx_5 : x_5.toInt = (st 13 15 (x.toNatClampNeg)).toInt := congrArg Int32.toInt ex_5
        refine lv_icmp_le (tgt := 85) hx hb dX9_draw_80 (by decide) (fun c_6 => ?_) (fun c_6 => ?_)
        · have ic_6 := gz_le (rfl : w.toInt = w.toInt) (rfl : x_5.toInt = x_5.toInt) c_6
          refine lv_aload_n hx hb dX9_draw_85 rfl (lv_at hl 1 rfl) ?_
          refine gs_get (C := RX9) (T := TX9) (N := 12) hx hb hts inX9 hown hK hM 0 0 4 (by decide) rfl rfl (by decide) (hts _ gm_295) (fun _ h9 => h9) rfl dX9_draw_86 ?_
          refine gs_getN (host := "WellCourt") (C := RX1) (T := TX1) (N := 3) hx hb hts inX1 hown hK hM 12 15 0 (by decide) rfl rfl (by decide) (va_Nw.use rfl (hov.2.2 _ gn_121)) (fun _ h9 => h9) rfl dX9_draw_89 ?_
          refine lv_iload_n hx hb dX9_draw_92 rfl (lv_at hl 2 rfl) ?_
          refine lv_dup2_11 hx hb dX9_draw_93 rfl rfl ?_
          refine gs_iald hx hb hK hM 13 15 (by decide) rfl (vp_in_iff.mpr ⟨by omega, by omega⟩) dX9_draw_94 ?_
          refine lv_topi (fun x_7 ex_7 => ?_)
          have qx_7 : x_7.toInt = (st 13 15 (x.toNatClampNeg)).toInt := congrArg Int32.toInt ex_7
          refine lv_iload_n hx hb dX9_draw_95 rfl (lv_at hl 4 rfl) ?_
          refine lv_isub hx hb dX9_draw_96 ?_
          refine lv_topi (fun x_8 ex_8 => ?_)
          refine gs_iast hx hb hK hI hm hM hS 13 15 (by decide) (fun _ => rfl) (vp_in_iff.mpr ⟨by omega, by omega⟩) dX9_draw_97 (fun st_9 H locs est_9 hM hS => ?_)
          have hB_st_9 : gBN bX kX [1300, 1601, 1800] st st_9 := by rw [est_9]; exact hB_st.up (show (1300 : Nat) ∈ _ from by decide) (gi_lo _) (gi_hi _)
          refine lv_aload_n hx hb dX9_draw_98 rfl (lv_at hl 1 rfl) ?_
          refine gs_get (C := RX9) (T := TX9) (N := 12) hx hb hts inX9 hown hK hM 0 0 5 (by decide) rfl rfl (by decide) (hts _ gm_296) (fun _ h9 => h9) rfl dX9_draw_99 ?_
          refine lv_aload_n hx hb dX9_draw_102 rfl (lv_at hl 1 rfl) ?_
          refine gs_get (C := RX9) (T := TX9) (N := 12) hx hb hts inX9 hown hK hM 0 0 10 (by decide) rfl rfl (by decide) (hts _ gm_301) (fun _ h9 => h9) rfl dX9_draw_103 ?_
          refine lv_topi (fun x_10 ex_10 => ?_)
          have ex_10 : (st 0 0 10) = x_10 := Eq.symm (ex_10.trans ((congrFun (congrFun (congrFun est_9 0) 0) 10).trans (congrFun (congrFun (gU_k (by decide)) 0) 10)))
          subst ex_10
          have bf_11 : (0 : Int) ≤ (st 0 0 10).toInt ∧ (st 0 0 10).toInt ≤ (199 : Int) := hB_st.1 0 0 10
          refine lv_iload_n hx hb dX9_draw_106 rfl (lv_at hl 2 rfl) ?_
          refine lv_iload_n hx hb dX9_draw_107 rfl (lv_at hl 3 rfl) ?_
          refine lv_iload_n hx hb dX9_draw_108 rfl (lv_at hl 4 rfl) ?_
          refine lv_iconst (v := 1) hx hb dX9_draw_109 (by decide) ?_
          refine gs_callv (va_runV (As := [.int (st 0 0 10), .int x, .int y, .int w, .int 1]) (rest := []) ⟨hx, hb, hml, hown, hts⟩ (s_X5_enter1 l G cy sK sV ad H.size st_9 hB_st_9.1 (st 0 0 10) x y w (by have hq0 : (st_9 16 0 1).toInt = ((st 16 0 1) : Int32).toInt := congrArg Int32.toInt (((congrFun (congrFun (congrFun est_9 16) 0) 1).trans (congrFun (congrFun (gU_k (by decide)) 0) 1))); have hb1 : (0 : Int) ≤ (st_9 16 0 1).toInt ∧ (st_9 16 0 1).toInt ≤ (300 : Int) := hB_st_9.1 16 0 1; omega)) ⟨(gz_cb (n := 5) hts gm_651 gm_8 gm_654 ⟨by decide +kernel, by decide +kernel, by decide +kernel⟩ ⟨Nat.le_of_ble_eq_true rfl, Nat.le_of_ble_eq_true rfl⟩), hts _ gm_652, hts _ gm_653⟩ (gs_preV hK hov hE hI hM hm hS hA 16 0 (by decide) rfl rfl) rfl rfl hl.1 rfl (lv_room (Nat.le_of_ble_eq_true rfl)) dX9_draw_110 ⟨Nat.le_of_ble_eq_true rfl, Nat.le_of_ble_eq_true rfl⟩) hm hS hA (fun st_12 H locs hw_12 hM hS => ?_)
          obtain ⟨n_12, hw_12⟩ := hw_12
          have hB_st_12 : gBN bX kX [1300, 1601, 1800] st st_12 := hB_st_9.call n_12 (by decide)
          have hqhw_120 : (st_9 16 0 1).toInt = ((st 16 0 1) : Int32).toInt := congrArg Int32.toInt (((congrFun (congrFun (congrFun est_9 16) 0) 1).trans (congrFun (congrFun (gU_k (by decide)) 0) 1)))
          have hbhw_121 : (0 : Int) ≤ (st_9 16 0 1).toInt ∧ (st_9 16 0 1).toInt ≤ (300 : Int) := hB_st_9.1 16 0 1
          obtain ⟨hw_12_0, hw_12_1, hw_12_2, hw_12_3, hw_12_4, hw_12_5, hw_12_6⟩ := hw_12
          refine lv_iconst (v := 0) hx hb dX9_draw_113 (by decide) ?_
          exact gs_iret hx hb hr hlocks hM hS rfl ⟨hB_st_12, (by have hS9 : standI (rtC rs st 15 x.toNatClampNeg Xy) (gstT rs Xy Xx (st 15 15 x.toNatClampNeg).toInt) r_2.toInt := (by have h9 := hw_2_0; rw [kx, ky] at h9; exact h9); exact Or.inr (Or.inr (Or.inr (Or.inr (⟨⟨by omega, by omega, by omega, by omega, by omega, by omega, by omega, by omega⟩, Or.inl (standI.right hS9 (by omega) (by omega)), by omega, by decide, ⟨(((funext (fun j9 => n_12.2 13 15 j9 (show (1300 : Nat) ∉ _ from by decide))).trans ((congrFun (congrFun est_9 13) 15).trans ((gU_at _ _ _ _ _).trans (congrArg (fun f9 => upd f9 (x.toNatClampNeg) (x_8 : Int32)) rfl)))).trans (by rw [ex_8, ex_7])), (by have h9 := hw_12_0; rw [show st_9 18 0 = st 18 0 from ((congrFun (congrFun est_9 18) 0).trans ((congrFun (gU_k (by decide)) 0).trans rfl)), show st_9 16 0 1 = st 16 0 1 from ((congrFun (congrFun (congrFun est_9 16) 0) 1).trans (congrFun (congrFun (gU_k (by decide)) 0) 1))] at h9; exact h9), (by have h9 := hw_12_1; rw [show st_9 18 1 = st 18 1 from ((congrFun (congrFun est_9 18) 1).trans ((congrFun (gU_k (by decide)) 1).trans rfl)), show st_9 16 0 1 = st 16 0 1 from ((congrFun (congrFun (congrFun est_9 16) 0) 1).trans (congrFun (congrFun (gU_k (by decide)) 0) 1))] at h9; exact h9), (by have h9 := hw_12_2; rw [show st_9 18 2 = st 18 2 from ((congrFun (congrFun est_9 18) 2).trans ((congrFun (gU_k (by decide)) 2).trans rfl)), show st_9 16 0 1 = st 16 0 1 from ((congrFun (congrFun (congrFun est_9 16) 0) 1).trans (congrFun (congrFun (gU_k (by decide)) 0) 1))] at h9; exact h9), (by have h9 := hw_12_3; rw [show st_9 18 3 = st 18 3 from ((congrFun (congrFun est_9 18) 3).trans ((congrFun (gU_k (by decide)) 3).trans rfl)), show st_9 16 0 1 = st 16 0 1 from ((congrFun (congrFun (congrFun est_9 16) 0) 1).trans (congrFun (congrFun (gU_k (by decide)) 0) 1))] at h9; exact h9), (by have h9 := hw_12_4; rw [show st_9 18 4 = st 18 4 from ((congrFun (congrFun est_9 18) 4).trans ((congrFun (gU_k (by decide)) 4).trans rfl)), show st_9 16 0 1 = st 16 0 1 from ((congrFun (congrFun (congrFun est_9 16) 0) 1).trans (congrFun (congrFun (gU_k (by decide)) 0) 1))] at h9; exact h9), (by have h9 := hw_12_5; rw [show st_9 18 5 = st 18 5 from ((congrFun (congrFun est_9 18) 5).trans ((congrFun (gU_k (by decide)) 5).trans rfl)), show st_9 16 0 1 = st 16 0 1 from ((congrFun (congrFun (congrFun est_9 16) 0) 1).trans (congrFun (congrFun (gU_k (by decide)) 0) 1))] at h9; exact h9), (by have h9 := hw_12_6; rw [show st_9 16 0 1 = st 16 0 1 from ((congrFun (congrFun (congrFun est_9 16) 0) 1).trans (congrFun (congrFun (gU_k (by decide)) 0) 1))] at h9; exact h9)⟩⟩)))))⟩ (by exact Nat.le_refl _) (by exact Nat.le_refl _) dX9_draw_114
        · have ic_6 := gz_nle (rfl : w.toInt = w.toInt) (rfl : x_5.toInt = x_5.toInt) c_6
          have lc_6 := gi_hi w
          refine lv_iconst (v := 4) hx hb dX9_draw_83 (by decide) ?_
          exact gs_iret hx hb hr hlocks hM hS rfl ⟨hB_st, (by have hS9 : standI (rtC rs st 15 x.toNatClampNeg Xy) (gstT rs Xy Xx (st 15 15 x.toNatClampNeg).toInt) r_2.toInt := (by have h9 := hw_2_0; rw [kx, ky] at h9; exact h9); exact Or.inr (Or.inr (Or.inr (Or.inl (⟨⟨by omega, by omega, by omega, by omega, by omega, by omega, by omega, by omega⟩, Or.inl (standI.right hS9 (by omega) (by omega)), by omega, by decide, rfl⟩)))))⟩ (by exact Nat.le_refl _) (by exact Nat.le_refl _) dX9_draw_84
      · have ic_4 := gz_eqn (rfl : r_2.toInt = r_2.toInt) (by decide : (2 : Int32).toInt = 2) c_4
        refine lv_aload_n hx hb dX9_draw_33 rfl (lv_at hl 1 rfl) ?_
        refine gs_get (C := RX9) (T := TX9) (N := 12) hx hb hts inX9 hown hK hM 0 0 5 (by decide) rfl rfl (by decide) (hts _ gm_296) (fun _ h9 => h9) rfl dX9_draw_34 ?_
        refine lv_aload_n hx hb dX9_draw_37 rfl (lv_at hl 1 rfl) ?_
        refine gs_get (C := RX9) (T := TX9) (N := 12) hx hb hts inX9 hown hK hM 0 0 10 (by decide) rfl rfl (by decide) (hts _ gm_301) (fun _ h9 => h9) rfl dX9_draw_38 ?_
        have bf_13 : (0 : Int) ≤ (st 0 0 10).toInt ∧ (st 0 0 10).toInt ≤ (199 : Int) := hB_st.1 0 0 10
        refine lv_iload_n hx hb dX9_draw_41 rfl (lv_at hl 2 rfl) ?_
        refine lv_iload_n hx hb dX9_draw_42 rfl (lv_at hl 3 rfl) ?_
        refine gs_calli (va_runV (As := [.int (st 0 0 10), .int x, .int y]) (rest := []) ⟨hx, hb, hml, hown, hts⟩ (s_X5_rightfulOn l G cy sK sV ad H.size st hB_st.1 (st 0 0 10) x y ((st 0 0 10).toInt) x.toInt y.toInt rfl rfl rfl ) ⟨(gz_cb (n := 3) hts gm_643 gm_8 gm_646 ⟨by decide +kernel, by decide +kernel, by decide +kernel⟩ ⟨Nat.le_of_ble_eq_true rfl, Nat.le_of_ble_eq_true rfl⟩), hts _ gm_644, hts _ gm_645⟩ (gs_preV hK hov hE hI hM hm hS hA 16 0 (by decide) rfl rfl) rfl rfl hl.1 rfl (lv_room (Nat.le_of_ble_eq_true rfl)) dX9_draw_43 ⟨Nat.le_of_ble_eq_true rfl, Nat.le_of_ble_eq_true rfl⟩) hm hS hA (fun r_14 st_14 H locs hw_14 hM hS => ?_)
        obtain ⟨n_14, hw_14⟩ := hw_14
        have n_14 := gBN.nil n_14
        subst n_14
        have hbhw_140 : (0 : Int) ≤ (st 0 0 10).toInt ∧ (st 0 0 10).toInt ≤ (199 : Int) := hB_st.1 0 0 10
        have hw_14_0 := hw_14
        refine lv_istore (lv' := [(5, .int r_14), (4, .int r_2), (0, .ref (ad 0 0)), (1, .int x), (2, .int y), (3, .int w)]) hx hb dX9_draw_46 hl (by decide) rfl (fun ls hl => ?_)
        refine lv_iload hx hb dX9_draw_48 (lv_at hl 0 rfl) ?_
        refine lv_iload_n hx hb dX9_draw_50 rfl (lv_at hl 5 rfl) ?_
        refine lv_iadd hx hb dX9_draw_51 ?_
        refine lv_topi (fun x_15 ex_15 => ?_)
        refine lv_aload_n hx hb dX9_draw_52 rfl (lv_at hl 2 rfl) ?_
        refine gs_get (C := RX9) (T := TX9) (N := 12) hx hb hts inX9 hown hK hM 0 0 4 (by decide) rfl rfl (by decide) (hts _ gm_295) (fun _ h9 => h9) rfl dX9_draw_53 ?_
        refine lv_aload_n hx hb dX9_draw_56 rfl (lv_at hl 2 rfl) ?_
        refine gs_get (C := RX9) (T := TX9) (N := 12) hx hb hts inX9 hown hK hM 0 0 7 (by decide) rfl rfl (by decide) (hts _ gm_298) (fun _ h9 => h9) rfl dX9_draw_57 ?_
        have h_16 : (0 : Int) ≤ (st 0 0 7).toInt ∧ (st 0 0 7).toInt ≤ (1 : Int) := hB_st.1 0 0 7
        refine lv_iload_n hx hb dX9_draw_60 rfl (lv_at hl 3 rfl) ?_
        refine lv_iload_n hx hb dX9_draw_61 rfl (lv_at hl 4 rfl) ?_
        refine gs_calli (va_runV (As := [.ref (ad 25 ((st 0 0 7).toNatClampNeg)), .int x, .int y]) (rest := [.int x_15]) ⟨hx, hb, hml, hown, hts⟩ (s_X1_guestMany l G cy sK sV ad H.size st hB_st.1 15 (st 0 0 7) x y x.toInt y.toInt rfl rfl (by decide) h_16 (by first | decide | omega) (by first | decide | omega) rs hLa.2.2.2.2) ⟨(gz_cb (n := 3) hts gm_618 gm_7 gm_621 ⟨by decide +kernel, by decide +kernel, by decide +kernel⟩ ⟨Nat.le_of_ble_eq_true rfl, Nat.le_of_ble_eq_true rfl⟩), hts _ gm_619, hts _ gm_620⟩ (gs_preV hK hov hE hI hM hm hS hA 12 15 (by decide) rfl rfl) rfl rfl hl.1 rfl (lv_room (Nat.le_of_ble_eq_true rfl)) dX9_draw_62 ⟨Nat.le_of_ble_eq_true rfl, Nat.le_of_ble_eq_true rfl⟩) hm hS hA (fun r_17 st_17 H locs hw_17 hM hS => ?_)
        obtain ⟨n_17, hw_17⟩ := hw_17
        have n_17 := gBN.nil n_17
        subst n_17
        have hw_17_0 := hw_17
        refine lv_icmp_le (tgt := 70) hx hb dX9_draw_65 (by decide) (fun c_18 => ?_) (fun c_18 => ?_)
        · have ic_18 := gz_le (rfl : x_15.toInt = x_15.toInt) (rfl : r_17.toInt = r_17.toInt) c_18
          refine lv_iload_n hx hb dX9_draw_70 rfl (lv_at hl 5 rfl) ?_
          refine lv_aload_n hx hb dX9_draw_71 rfl (lv_at hl 2 rfl) ?_
          refine gs_get (C := RX9) (T := TX9) (N := 12) hx hb hts inX9 hown hK hM 0 0 4 (by decide) rfl rfl (by decide) (hts _ gm_295) (fun _ h9 => h9) rfl dX9_draw_72 ?_
          refine gs_getN (host := "WellCourt") (C := RX1) (T := TX1) (N := 3) hx hb hts inX1 hown hK hM 12 15 0 (by decide) rfl rfl (by decide) (va_Nw.use rfl (hov.2.2 _ gn_121)) (fun _ h9 => h9) rfl dX9_draw_75 ?_
          refine lv_iload_n hx hb dX9_draw_78 rfl (lv_at hl 3 rfl) ?_
          refine gs_iald hx hb hK hM 13 15 (by decide) rfl (vp_in_iff.mpr ⟨by omega, by omega⟩) dX9_draw_79 ?_
          refine lv_topi (fun x_19 ex_19 => ?_)
          have qx_19 : x_19.toInt = (st 13 15 (x.toNatClampNeg)).toInt := congrArg Int32.toInt ex_19
          refine lv_icmp_le (tgt := 85) hx hb dX9_draw_80 (by decide) (fun c_20 => ?_) (fun c_20 => ?_)
          · have ic_20 := gz_le (rfl : w.toInt = w.toInt) (rfl : x_19.toInt = x_19.toInt) c_20
            refine lv_aload_n hx hb dX9_draw_85 rfl (lv_at hl 2 rfl) ?_
            refine gs_get (C := RX9) (T := TX9) (N := 12) hx hb hts inX9 hown hK hM 0 0 4 (by decide) rfl rfl (by decide) (hts _ gm_295) (fun _ h9 => h9) rfl dX9_draw_86 ?_
            refine gs_getN (host := "WellCourt") (C := RX1) (T := TX1) (N := 3) hx hb hts inX1 hown hK hM 12 15 0 (by decide) rfl rfl (by decide) (va_Nw.use rfl (hov.2.2 _ gn_121)) (fun _ h9 => h9) rfl dX9_draw_89 ?_
            refine lv_iload_n hx hb dX9_draw_92 rfl (lv_at hl 3 rfl) ?_
            refine lv_dup2_11 hx hb dX9_draw_93 rfl rfl ?_
            refine gs_iald hx hb hK hM 13 15 (by decide) rfl (vp_in_iff.mpr ⟨by omega, by omega⟩) dX9_draw_94 ?_
            refine lv_topi (fun x_21 ex_21 => ?_)
            have qx_21 : x_21.toInt = (st 13 15 (x.toNatClampNeg)).toInt := congrArg Int32.toInt ex_21
            refine lv_iload_n hx hb dX9_draw_95 rfl (lv_at hl 5 rfl) ?_
            refine lv_isub hx hb dX9_draw_96 ?_
            refine lv_topi (fun x_22 ex_22 => ?_)
            refine gs_iast hx hb hK hI hm hM hS 13 15 (by decide) (fun _ => rfl) (vp_in_iff.mpr ⟨by omega, by omega⟩) dX9_draw_97 (fun st_23 H locs est_23 hM hS => ?_)
            have hB_st_23 : gBN bX kX [1300, 1601, 1800] st st_23 := by rw [est_23]; exact hB_st.up (show (1300 : Nat) ∈ _ from by decide) (gi_lo _) (gi_hi _)
            refine lv_aload_n hx hb dX9_draw_98 rfl (lv_at hl 2 rfl) ?_
            refine gs_get (C := RX9) (T := TX9) (N := 12) hx hb hts inX9 hown hK hM 0 0 5 (by decide) rfl rfl (by decide) (hts _ gm_296) (fun _ h9 => h9) rfl dX9_draw_99 ?_
            refine lv_aload_n hx hb dX9_draw_102 rfl (lv_at hl 2 rfl) ?_
            refine gs_get (C := RX9) (T := TX9) (N := 12) hx hb hts inX9 hown hK hM 0 0 10 (by decide) rfl rfl (by decide) (hts _ gm_301) (fun _ h9 => h9) rfl dX9_draw_103 ?_
            refine lv_topi (fun x_24 ex_24 => ?_)
            have ex_24 : (st 0 0 10) = x_24 := Eq.symm (ex_24.trans ((congrFun (congrFun (congrFun est_23 0) 0) 10).trans (congrFun (congrFun (gU_k (by decide)) 0) 10)))
            subst ex_24
            have bf_25 : (0 : Int) ≤ (st 0 0 10).toInt ∧ (st 0 0 10).toInt ≤ (199 : Int) := hB_st.1 0 0 10
            refine lv_iload_n hx hb dX9_draw_106 rfl (lv_at hl 3 rfl) ?_
            refine lv_iload_n hx hb dX9_draw_107 rfl (lv_at hl 4 rfl) ?_
            refine lv_iload_n hx hb dX9_draw_108 rfl (lv_at hl 5 rfl) ?_
            refine lv_iconst (v := 1) hx hb dX9_draw_109 (by decide) ?_
            refine gs_callv (va_runV (As := [.int (st 0 0 10), .int x, .int y, .int w, .int 1]) (rest := []) ⟨hx, hb, hml, hown, hts⟩ (s_X5_enter1 l G cy sK sV ad H.size st_23 hB_st_23.1 (st 0 0 10) x y w (by have hq0 : (st_23 16 0 1).toInt = ((st 16 0 1) : Int32).toInt := congrArg Int32.toInt (((congrFun (congrFun (congrFun est_23 16) 0) 1).trans (congrFun (congrFun (gU_k (by decide)) 0) 1))); have hb1 : (0 : Int) ≤ (st_23 16 0 1).toInt ∧ (st_23 16 0 1).toInt ≤ (300 : Int) := hB_st_23.1 16 0 1; omega)) ⟨(gz_cb (n := 5) hts gm_651 gm_8 gm_654 ⟨by decide +kernel, by decide +kernel, by decide +kernel⟩ ⟨Nat.le_of_ble_eq_true rfl, Nat.le_of_ble_eq_true rfl⟩), hts _ gm_652, hts _ gm_653⟩ (gs_preV hK hov hE hI hM hm hS hA 16 0 (by decide) rfl rfl) rfl rfl hl.1 rfl (lv_room (Nat.le_of_ble_eq_true rfl)) dX9_draw_110 ⟨Nat.le_of_ble_eq_true rfl, Nat.le_of_ble_eq_true rfl⟩) hm hS hA (fun st_26 H locs hw_26 hM hS => ?_)
            obtain ⟨n_26, hw_26⟩ := hw_26
            have hB_st_26 : gBN bX kX [1300, 1601, 1800] st st_26 := hB_st_23.call n_26 (by decide)
            have hqhw_260 : (st_23 16 0 1).toInt = ((st 16 0 1) : Int32).toInt := congrArg Int32.toInt (((congrFun (congrFun (congrFun est_23 16) 0) 1).trans (congrFun (congrFun (gU_k (by decide)) 0) 1)))
            have hbhw_261 : (0 : Int) ≤ (st_23 16 0 1).toInt ∧ (st_23 16 0 1).toInt ≤ (300 : Int) := hB_st_23.1 16 0 1
            obtain ⟨hw_26_0, hw_26_1, hw_26_2, hw_26_3, hw_26_4, hw_26_5, hw_26_6⟩ := hw_26
            refine lv_iconst (v := 0) hx hb dX9_draw_113 (by decide) ?_
            exact gs_iret hx hb hr hlocks hM hS rfl ⟨hB_st_26, (by have hS9 : standI (rtC rs st 15 x.toNatClampNeg Xy) (gstT rs Xy Xx (st 15 15 x.toNatClampNeg).toInt) r_2.toInt := (by have h9 := hw_2_0; rw [kx, ky] at h9; exact h9); have h7 : x_15 = (sW (pGd (st 18 0) (st 18 1) (st 18 2) (st 18 4) (st 0 0 10).toInt Xx Xy) (st 18 3) (st 16 0 1).toNatClampNeg + w) := (by have h6 := hw_14_0; rw [kx, ky] at h6; rw [ex_15, h6]); have h8 := hw_17_0; rw [kx, ky] at h8; exact Or.inr (Or.inr (Or.inr (Or.inr (⟨⟨by omega, by omega, by omega, by omega, by omega, by omega, by omega, by omega⟩, Or.inr ⟨(standI.guest hS9 (by omega)).2, by rw [← h7]; omega⟩, by omega, by decide, ⟨(((funext (fun j9 => n_26.2 13 15 j9 (show (1300 : Nat) ∉ _ from by decide))).trans ((congrFun (congrFun est_23 13) 15).trans ((gU_at _ _ _ _ _).trans (congrArg (fun f9 => upd f9 (x.toNatClampNeg) (x_22 : Int32)) rfl)))).trans (by rw [ex_22, ex_21])), (by have h9 := hw_26_0; rw [show st_23 18 0 = st 18 0 from ((congrFun (congrFun est_23 18) 0).trans ((congrFun (gU_k (by decide)) 0).trans rfl)), show st_23 16 0 1 = st 16 0 1 from ((congrFun (congrFun (congrFun est_23 16) 0) 1).trans (congrFun (congrFun (gU_k (by decide)) 0) 1))] at h9; exact h9), (by have h9 := hw_26_1; rw [show st_23 18 1 = st 18 1 from ((congrFun (congrFun est_23 18) 1).trans ((congrFun (gU_k (by decide)) 1).trans rfl)), show st_23 16 0 1 = st 16 0 1 from ((congrFun (congrFun (congrFun est_23 16) 0) 1).trans (congrFun (congrFun (gU_k (by decide)) 0) 1))] at h9; exact h9), (by have h9 := hw_26_2; rw [show st_23 18 2 = st 18 2 from ((congrFun (congrFun est_23 18) 2).trans ((congrFun (gU_k (by decide)) 2).trans rfl)), show st_23 16 0 1 = st 16 0 1 from ((congrFun (congrFun (congrFun est_23 16) 0) 1).trans (congrFun (congrFun (gU_k (by decide)) 0) 1))] at h9; exact h9), (by have h9 := hw_26_3; rw [show st_23 18 3 = st 18 3 from ((congrFun (congrFun est_23 18) 3).trans ((congrFun (gU_k (by decide)) 3).trans rfl)), show st_23 16 0 1 = st 16 0 1 from ((congrFun (congrFun (congrFun est_23 16) 0) 1).trans (congrFun (congrFun (gU_k (by decide)) 0) 1))] at h9; exact h9), (by have h9 := hw_26_4; rw [show st_23 18 4 = st 18 4 from ((congrFun (congrFun est_23 18) 4).trans ((congrFun (gU_k (by decide)) 4).trans rfl)), show st_23 16 0 1 = st 16 0 1 from ((congrFun (congrFun (congrFun est_23 16) 0) 1).trans (congrFun (congrFun (gU_k (by decide)) 0) 1))] at h9; exact h9), (by have h9 := hw_26_5; rw [show st_23 18 5 = st 18 5 from ((congrFun (congrFun est_23 18) 5).trans ((congrFun (gU_k (by decide)) 5).trans rfl)), show st_23 16 0 1 = st 16 0 1 from ((congrFun (congrFun (congrFun est_23 16) 0) 1).trans (congrFun (congrFun (gU_k (by decide)) 0) 1))] at h9; exact h9), (by have h9 := hw_26_6; rw [show st_23 16 0 1 = st 16 0 1 from ((congrFun (congrFun (congrFun est_23 16) 0) 1).trans (congrFun (congrFun (gU_k (by decide)) 0) 1))] at h9; exact h9)⟩⟩)))))⟩ (by exact Nat.le_refl _) (by exact Nat.le_refl _) dX9_draw_114
          · have ic_20 := gz_nle (rfl : w.toInt = w.toInt) (rfl : x_19.toInt = x_19.toInt) c_20
            have lc_20 := gi_hi w
            refine lv_iconst (v := 4) hx hb dX9_draw_83 (by decide) ?_
            exact gs_iret hx hb hr hlocks hM hS rfl ⟨hB_st, (by have hS9 : standI (rtC rs st 15 x.toNatClampNeg Xy) (gstT rs Xy Xx (st 15 15 x.toNatClampNeg).toInt) r_2.toInt := (by have h9 := hw_2_0; rw [kx, ky] at h9; exact h9); have h7 : x_15 = (sW (pGd (st 18 0) (st 18 1) (st 18 2) (st 18 4) (st 0 0 10).toInt Xx Xy) (st 18 3) (st 16 0 1).toNatClampNeg + w) := (by have h6 := hw_14_0; rw [kx, ky] at h6; rw [ex_15, h6]); have h8 := hw_17_0; rw [kx, ky] at h8; exact Or.inr (Or.inr (Or.inr (Or.inl (⟨⟨by omega, by omega, by omega, by omega, by omega, by omega, by omega, by omega⟩, Or.inr ⟨(standI.guest hS9 (by omega)).2, by rw [← h7]; omega⟩, by omega, by decide, rfl⟩)))))⟩ (by exact Nat.le_refl _) (by exact Nat.le_refl _) dX9_draw_84
        · have ic_18 := gz_nle (rfl : x_15.toInt = x_15.toInt) (rfl : r_17.toInt = r_17.toInt) c_18
          have lc_18 := gi_hi x_15
          refine lv_iconst (v := 3) hx hb dX9_draw_68 (by decide) ?_
          exact gs_iret hx hb hr hlocks hM hS rfl ⟨hB_st, (by have hS9 : standI (rtC rs st 15 x.toNatClampNeg Xy) (gstT rs Xy Xx (st 15 15 x.toNatClampNeg).toInt) r_2.toInt := (by have h9 := hw_2_0; rw [kx, ky] at h9; exact h9); have h7 : x_15 = (sW (pGd (st 18 0) (st 18 1) (st 18 2) (st 18 4) (st 0 0 10).toInt Xx Xy) (st 18 3) (st 16 0 1).toNatClampNeg + w) := (by have h6 := hw_14_0; rw [kx, ky] at h6; rw [ex_15, h6]); have h8 := hw_17_0; rw [kx, ky] at h8; exact Or.inr (Or.inr (Or.inl (⟨⟨by omega, by omega, by omega, by omega, by omega, by omega, by omega, by omega⟩, (standI.guest hS9 (by omega)).1, (standI.guest hS9 (by omega)).2, by rw [← h7]; omega, by decide, rfl⟩))))⟩ (by exact Nat.le_refl _) (by exact Nat.le_refl _) dX9_draw_69
    · have ic_3 := gz_eqn (rfl : r_2.toInt = r_2.toInt) (by decide : (0 : Int32).toInt = 0) c_3
      refine lv_iconst (v := 2) hx hb dX9_draw_25 (by decide) ?_
      exact gs_iret hx hb hr hlocks hM hS rfl ⟨hB_st, (by have hS9 : standI (rtC rs st 15 x.toNatClampNeg Xy) (gstT rs Xy Xx (st 15 15 x.toNatClampNeg).toInt) r_2.toInt := (by have h9 := hw_2_0; rw [kx, ky] at h9; exact h9); exact Or.inr (Or.inl (⟨⟨by omega, by omega, by omega, by omega, by omega, by omega, by omega, by omega⟩, (standI.none hS9 (by omega)).1, (standI.none hS9 (by omega)).2, by decide, rfl⟩)))⟩ (by exact Nat.le_refl _) (by exact Nat.le_refl _) dX9_draw_26
  · skip
    refine lv_if_ne (tgt := 12) hx hb dX9_draw_7 (by decide) (fun h9 => absurd (by decide) h9) (fun _ => ?_)
    refine lv_iconst (v := 1) hx hb dX9_draw_10 (by decide) ?_
    exact gs_iret hx hb hr hlocks hM hS rfl ⟨hB_st, (Or.inl (⟨by omega, by decide, rfl⟩))⟩ (by exact Nat.le_refl _) (by exact Nat.le_refl _) dX9_draw_11

set_option maxHeartbeats 4000000 in
set_option maxRecDepth 100000 in
/-- WellCourt.take -/
theorem s_take (l : Launch) (G : va_G) (cy : Nat → ClassId) (sK sV : Nat → Nat) (ad : Nat → Nat → Nat) (sz : Nat) (st : gS) (hB : gBd bX st) (x : Int32) (y : Int32) (w : Int32) (Xx : Int) (Xy : Int) (Xw : Int) (kx : x.toInt = Xx) (ky : y.toInt = Xy) (kw : w.toInt = Xw) (rs : List Rl) (hLa : LXa rs st (st 0 0 7).toNatClampNeg) (hwf : ∀ r ∈ rs, wfR r) : gsMi l yX9_take cX9_take 4 (some .int) ({ frames := 4, cells := 0, slots := 0, locals := 88 } : Room) G cy sK sV (shX cy ad) cnX ad sz [.ref (ad 0 0), .int x, .int y, .int w] st (fun (r : Int32) (u : gS) => gBN bX kX [1300, 1601, 1800] st u ∧ (((¬ (0 ≤ Xx ∧ Xx ≤ 5 ∧ 0 < (st 5 0 x.toNatClampNeg).toInt ∧ 0 ≤ Xy ∧ Xy ≤ 5 ∧ 1 ≤ Xw ∧ Xw ≤ 1000 ∧ (st 16 0 1).toInt < 300) ∧ r.toInt = 1 ∧ u = st) ∨ ((0 ≤ Xx ∧ Xx ≤ 5 ∧ 0 < (st 5 0 x.toNatClampNeg).toInt ∧ 0 ≤ Xy ∧ Xy ≤ 5 ∧ 1 ≤ Xw ∧ Xw ≤ 1000 ∧ (st 16 0 1).toInt < 300) ∧ (rtC rs st 15 x.toNatClampNeg Xy) ∧ r.toInt = 5 ∧ u = st) ∨ ((0 ≤ Xx ∧ Xx ≤ 5 ∧ 0 < (st 5 0 x.toNatClampNeg).toInt ∧ 0 ≤ Xy ∧ Xy ≤ 5 ∧ 1 ≤ Xw ∧ Xw ≤ 1000 ∧ (st 16 0 1).toInt < 300) ∧ ¬ (rtC rs st 15 x.toNatClampNeg Xy) ∧ (st 13 15 x.toNatClampNeg).toInt < Xw ∧ r.toInt = 4 ∧ u = st) ∨ ((0 ≤ Xx ∧ Xx ≤ 5 ∧ 0 < (st 5 0 x.toNatClampNeg).toInt ∧ 0 ≤ Xy ∧ Xy ≤ 5 ∧ 1 ≤ Xw ∧ Xw ≤ 1000 ∧ (st 16 0 1).toInt < 300) ∧ ¬ (rtC rs st 15 x.toNatClampNeg Xy) ∧ Xw ≤ (st 13 15 x.toNatClampNeg).toInt ∧ r.toInt = 0 ∧ enX st u x y w 0 (-1))))) := by
  refine gs_start (fun A => gsQi G (shX cy ad) cnX ad _ A) (by decide) (Nat.le_of_ble_eq_true rfl) ?_
  intro p e s m below meth c A ls H hx hb hr hml hlocks hown hts hK hov hE hI hM hm hS hA hl
  have hl : lv_has ls 4 [(0, .ref (ad 0 0)), (1, .int x), (2, .int y), (3, .int w)] := hl
  have hB_st : gBN bX kX [1300, 1601, 1800] st st := gBN.rf hB
  refine lv_aload_n hx hb dX9_take_0 rfl (lv_at hl 0 rfl) ?_
  refine lv_iload_n hx hb dX9_take_1 rfl (lv_at hl 1 rfl) ?_
  refine lv_iload_n hx hb dX9_take_2 rfl (lv_at hl 2 rfl) ?_
  refine lv_iload_n hx hb dX9_take_3 rfl (lv_at hl 3 rfl) ?_
  refine gs_calli (va_runV (As := [.int x, .int y, .int w]) (rest := []) ⟨hx, hb, hml, hown, hts⟩ (s_canBeDrawn l G cy sK sV ad H.size st hB_st.1 x y w x.toInt y.toInt w.toInt rfl rfl rfl ) ⟨(gz_cb (n := 3) hts gm_639 gm_1 gm_642 ⟨by decide +kernel, by decide +kernel, by decide +kernel⟩ ⟨Nat.le_of_ble_eq_true rfl, Nat.le_of_ble_eq_true rfl⟩), hts _ gm_641, hts _ gs_19⟩ (gs_preV hK hov hE hI hM hm hS hA 0 0 (by decide) rfl rfl) rfl rfl hl.1 rfl (lv_room (Nat.le_of_ble_eq_true rfl)) dX9_take_4 ⟨Nat.le_of_ble_eq_true rfl, Nat.le_of_ble_eq_true rfl⟩) hm hS hA (fun r_1 st_1 H locs hw_1 hM hS => ?_)
  obtain ⟨n_1, hw_1⟩ := hw_1
  have n_1 := gBN.nil n_1
  subst n_1
  have hbhw_10 : (0 : Int) ≤ (st 16 0 1).toInt ∧ (st 16 0 1).toInt ≤ (300 : Int) := hB_st.1 16 0 1
  rcases hw_1 with ⟨rfl, hw_1_0, hw_1_1, hw_1_2, hw_1_3, hw_1_4, hw_1_5, hw_1_6, hw_1_7⟩ | ⟨rfl, hw_1_0⟩
  · skip
    refine lv_if_ne (tgt := 12) hx hb dX9_take_7 (by decide) (fun _ => ?_) (fun h9 => absurd h9 (by decide))
    refine lv_aload_n hx hb dX9_take_12 rfl (lv_at hl 0 rfl) ?_
    refine lv_iload_n hx hb dX9_take_13 rfl (lv_at hl 1 rfl) ?_
    refine lv_iload_n hx hb dX9_take_14 rfl (lv_at hl 2 rfl) ?_
    refine gs_calli (va_runV (As := [.int x, .int y]) (rest := []) ⟨hx, hb, hml, hown, hts⟩ (s_standing l G cy sK sV ad H.size st hB_st.1 x y x.toInt y.toInt rfl rfl (by first | decide | omega) (by first | decide | omega) rs hLa hwf) ⟨(gz_cb (n := 2) hts gm_601 gm_1 gm_604 ⟨by decide +kernel, by decide +kernel, by decide +kernel⟩ ⟨Nat.le_of_ble_eq_true rfl, Nat.le_of_ble_eq_true rfl⟩), hts _ gm_603, hts _ gs_18⟩ (gs_preV hK hov hE hI hM hm hS hA 0 0 (by decide) rfl rfl) rfl rfl hl.1 rfl (lv_room (Nat.le_of_ble_eq_true rfl)) dX9_take_15 ⟨Nat.le_of_ble_eq_true rfl, Nat.le_of_ble_eq_true rfl⟩) hm hS hA (fun r_2 st_2 H locs hw_2 hM hS => ?_)
    obtain ⟨n_2, hw_2⟩ := hw_2
    have n_2 := gBN.nil n_2
    subst n_2
    have hw_2_0 := hw_2
    refine lv_iconst (v := 1) hx hb dX9_take_18 (by decide) ?_
    refine lv_icmp_ne (tgt := 24) hx hb dX9_take_19 (by decide) (fun c_3 => ?_) (fun c_3 => ?_)
    · have ic_3 := gz_ne (rfl : r_2.toInt = r_2.toInt) (by decide : (1 : Int32).toInt = 1) c_3
      refine lv_iload_n hx hb dX9_take_24 rfl (lv_at hl 3 rfl) ?_
      refine lv_aload_n hx hb dX9_take_25 rfl (lv_at hl 0 rfl) ?_
      refine gs_get (C := RX9) (T := TX9) (N := 12) hx hb hts inX9 hown hK hM 0 0 4 (by decide) rfl rfl (by decide) (hts _ gm_295) (fun _ h9 => h9) rfl dX9_take_26 ?_
      refine gs_getN (host := "WellCourt") (C := RX1) (T := TX1) (N := 3) hx hb hts inX1 hown hK hM 12 15 0 (by decide) rfl rfl (by decide) (va_Nw.use rfl (hov.2.2 _ gn_121)) (fun _ h9 => h9) rfl dX9_take_29 ?_
      refine lv_iload_n hx hb dX9_take_32 rfl (lv_at hl 1 rfl) ?_
      refine gs_iald hx hb hK hM 13 15 (by decide) rfl (vp_in_iff.mpr ⟨by omega, by omega⟩) dX9_take_33 ?_
      refine lv_topi (fun x_4 ex_4 => ?_)
      have qx_4 : x_4.toInt = (st 13 15 (x.toNatClampNeg)).toInt := congrArg Int32.toInt ex_4
      refine lv_icmp_le (tgt := 39) hx hb dX9_take_34 (by decide) (fun c_5 => ?_) (fun c_5 => ?_)
      · have ic_5 := gz_le (rfl : w.toInt = w.toInt) (rfl : x_4.toInt = x_4.toInt) c_5
        refine lv_aload_n hx hb dX9_take_39 rfl (lv_at hl 0 rfl) ?_
        refine gs_get (C := RX9) (T := TX9) (N := 12) hx hb hts inX9 hown hK hM 0 0 4 (by decide) rfl rfl (by decide) (hts _ gm_295) (fun _ h9 => h9) rfl dX9_take_40 ?_
        refine gs_getN (host := "WellCourt") (C := RX1) (T := TX1) (N := 3) hx hb hts inX1 hown hK hM 12 15 0 (by decide) rfl rfl (by decide) (va_Nw.use rfl (hov.2.2 _ gn_121)) (fun _ h9 => h9) rfl dX9_take_43 ?_
        refine lv_iload_n hx hb dX9_take_46 rfl (lv_at hl 1 rfl) ?_
        refine lv_dup2_11 hx hb dX9_take_47 rfl rfl ?_
        refine gs_iald hx hb hK hM 13 15 (by decide) rfl (vp_in_iff.mpr ⟨by omega, by omega⟩) dX9_take_48 ?_
        refine lv_topi (fun x_6 ex_6 => ?_)
        have qx_6 : x_6.toInt = (st 13 15 (x.toNatClampNeg)).toInt := congrArg Int32.toInt ex_6
        refine lv_iload_n hx hb dX9_take_49 rfl (lv_at hl 3 rfl) ?_
        refine lv_isub hx hb dX9_take_50 ?_
        refine lv_topi (fun x_7 ex_7 => ?_)
        refine gs_iast hx hb hK hI hm hM hS 13 15 (by decide) (fun _ => rfl) (vp_in_iff.mpr ⟨by omega, by omega⟩) dX9_take_51 (fun st_8 H locs est_8 hM hS => ?_)
        have hB_st_8 : gBN bX kX [1300, 1601, 1800] st st_8 := by rw [est_8]; exact hB_st.up (show (1300 : Nat) ∈ _ from by decide) (gi_lo _) (gi_hi _)
        refine lv_aload_n hx hb dX9_take_52 rfl (lv_at hl 0 rfl) ?_
        refine gs_get (C := RX9) (T := TX9) (N := 12) hx hb hts inX9 hown hK hM 0 0 5 (by decide) rfl rfl (by decide) (hts _ gm_296) (fun _ h9 => h9) rfl dX9_take_53 ?_
        refine lv_aload_n hx hb dX9_take_56 rfl (lv_at hl 0 rfl) ?_
        refine gs_get (C := RX9) (T := TX9) (N := 12) hx hb hts inX9 hown hK hM 0 0 10 (by decide) rfl rfl (by decide) (hts _ gm_301) (fun _ h9 => h9) rfl dX9_take_57 ?_
        refine lv_topi (fun x_9 ex_9 => ?_)
        have ex_9 : (st 0 0 10) = x_9 := Eq.symm (ex_9.trans ((congrFun (congrFun (congrFun est_8 0) 0) 10).trans (congrFun (congrFun (gU_k (by decide)) 0) 10)))
        subst ex_9
        have bf_10 : (0 : Int) ≤ (st 0 0 10).toInt ∧ (st 0 0 10).toInt ≤ (199 : Int) := hB_st.1 0 0 10
        refine lv_iload_n hx hb dX9_take_60 rfl (lv_at hl 1 rfl) ?_
        refine lv_iload_n hx hb dX9_take_61 rfl (lv_at hl 2 rfl) ?_
        refine lv_iload_n hx hb dX9_take_62 rfl (lv_at hl 3 rfl) ?_
        refine lv_iconst (v := 0) hx hb dX9_take_63 (by decide) ?_
        refine gs_callv (va_runV (As := [.int (st 0 0 10), .int x, .int y, .int w, .int 0]) (rest := []) ⟨hx, hb, hml, hown, hts⟩ (s_X5_enter0 l G cy sK sV ad H.size st_8 hB_st_8.1 (st 0 0 10) x y w (by have hq0 : (st_8 16 0 1).toInt = ((st 16 0 1) : Int32).toInt := congrArg Int32.toInt (((congrFun (congrFun (congrFun est_8 16) 0) 1).trans (congrFun (congrFun (gU_k (by decide)) 0) 1))); have hb1 : (0 : Int) ≤ (st_8 16 0 1).toInt ∧ (st_8 16 0 1).toInt ≤ (300 : Int) := hB_st_8.1 16 0 1; omega)) ⟨(gz_cb (n := 5) hts gm_651 gm_8 gm_654 ⟨by decide +kernel, by decide +kernel, by decide +kernel⟩ ⟨Nat.le_of_ble_eq_true rfl, Nat.le_of_ble_eq_true rfl⟩), hts _ gm_652, hts _ gm_653⟩ (gs_preV hK hov hE hI hM hm hS hA 16 0 (by decide) rfl rfl) rfl rfl hl.1 rfl (lv_room (Nat.le_of_ble_eq_true rfl)) dX9_take_64 ⟨Nat.le_of_ble_eq_true rfl, Nat.le_of_ble_eq_true rfl⟩) hm hS hA (fun st_11 H locs hw_11 hM hS => ?_)
        obtain ⟨n_11, hw_11⟩ := hw_11
        have hB_st_11 : gBN bX kX [1300, 1601, 1800] st st_11 := hB_st_8.call n_11 (by decide)
        have hqhw_110 : (st_8 16 0 1).toInt = ((st 16 0 1) : Int32).toInt := congrArg Int32.toInt (((congrFun (congrFun (congrFun est_8 16) 0) 1).trans (congrFun (congrFun (gU_k (by decide)) 0) 1)))
        have hbhw_111 : (0 : Int) ≤ (st_8 16 0 1).toInt ∧ (st_8 16 0 1).toInt ≤ (300 : Int) := hB_st_8.1 16 0 1
        obtain ⟨hw_11_0, hw_11_1, hw_11_2, hw_11_3, hw_11_4, hw_11_5, hw_11_6⟩ := hw_11
        refine lv_iconst (v := 0) hx hb dX9_take_67 (by decide) ?_
        exact gs_iret hx hb hr hlocks hM hS rfl ⟨hB_st_11, (by have hS9 : standI (rtC rs st 15 x.toNatClampNeg Xy) (gstT rs Xy Xx (st 15 15 x.toNatClampNeg).toInt) r_2.toInt := (by have h9 := hw_2_0; rw [kx, ky] at h9; exact h9); exact Or.inr (Or.inr (Or.inr (⟨⟨by omega, by omega, by omega, by omega, by omega, by omega, by omega, by omega⟩, standI.not hS9 (by omega), by omega, by decide, ⟨(((funext (fun j9 => n_11.2 13 15 j9 (show (1300 : Nat) ∉ _ from by decide))).trans ((congrFun (congrFun est_8 13) 15).trans ((gU_at _ _ _ _ _).trans (congrArg (fun f9 => upd f9 (x.toNatClampNeg) (x_7 : Int32)) rfl)))).trans (by rw [ex_7, ex_6])), (by have h9 := hw_11_0; rw [show st_8 18 0 = st 18 0 from ((congrFun (congrFun est_8 18) 0).trans ((congrFun (gU_k (by decide)) 0).trans rfl)), show st_8 16 0 1 = st 16 0 1 from ((congrFun (congrFun (congrFun est_8 16) 0) 1).trans (congrFun (congrFun (gU_k (by decide)) 0) 1))] at h9; exact h9), (by have h9 := hw_11_1; rw [show st_8 18 1 = st 18 1 from ((congrFun (congrFun est_8 18) 1).trans ((congrFun (gU_k (by decide)) 1).trans rfl)), show st_8 16 0 1 = st 16 0 1 from ((congrFun (congrFun (congrFun est_8 16) 0) 1).trans (congrFun (congrFun (gU_k (by decide)) 0) 1))] at h9; exact h9), (by have h9 := hw_11_2; rw [show st_8 18 2 = st 18 2 from ((congrFun (congrFun est_8 18) 2).trans ((congrFun (gU_k (by decide)) 2).trans rfl)), show st_8 16 0 1 = st 16 0 1 from ((congrFun (congrFun (congrFun est_8 16) 0) 1).trans (congrFun (congrFun (gU_k (by decide)) 0) 1))] at h9; exact h9), (by have h9 := hw_11_3; rw [show st_8 18 3 = st 18 3 from ((congrFun (congrFun est_8 18) 3).trans ((congrFun (gU_k (by decide)) 3).trans rfl)), show st_8 16 0 1 = st 16 0 1 from ((congrFun (congrFun (congrFun est_8 16) 0) 1).trans (congrFun (congrFun (gU_k (by decide)) 0) 1))] at h9; exact h9), (by have h9 := hw_11_4; rw [show st_8 18 4 = st 18 4 from ((congrFun (congrFun est_8 18) 4).trans ((congrFun (gU_k (by decide)) 4).trans rfl)), show st_8 16 0 1 = st 16 0 1 from ((congrFun (congrFun (congrFun est_8 16) 0) 1).trans (congrFun (congrFun (gU_k (by decide)) 0) 1))] at h9; exact h9), (by have h9 := hw_11_5; rw [show st_8 18 5 = st 18 5 from ((congrFun (congrFun est_8 18) 5).trans ((congrFun (gU_k (by decide)) 5).trans rfl)), show st_8 16 0 1 = st 16 0 1 from ((congrFun (congrFun (congrFun est_8 16) 0) 1).trans (congrFun (congrFun (gU_k (by decide)) 0) 1))] at h9; exact h9), (by have h9 := hw_11_6; rw [show st_8 16 0 1 = st 16 0 1 from ((congrFun (congrFun (congrFun est_8 16) 0) 1).trans (congrFun (congrFun (gU_k (by decide)) 0) 1))] at h9; exact h9)⟩⟩))))⟩ (by exact Nat.le_refl _) (by exact Nat.le_refl _) dX9_take_68
      · have ic_5 := gz_nle (rfl : w.toInt = w.toInt) (rfl : x_4.toInt = x_4.toInt) c_5
        have lc_5 := gi_hi w
        refine lv_iconst (v := 4) hx hb dX9_take_37 (by decide) ?_
        exact gs_iret hx hb hr hlocks hM hS rfl ⟨hB_st, (by have hS9 : standI (rtC rs st 15 x.toNatClampNeg Xy) (gstT rs Xy Xx (st 15 15 x.toNatClampNeg).toInt) r_2.toInt := (by have h9 := hw_2_0; rw [kx, ky] at h9; exact h9); exact Or.inr (Or.inr (Or.inl (⟨⟨by omega, by omega, by omega, by omega, by omega, by omega, by omega, by omega⟩, standI.not hS9 (by omega), by omega, by decide, rfl⟩))))⟩ (by exact Nat.le_refl _) (by exact Nat.le_refl _) dX9_take_38
    · have ic_3 := gz_eqn (rfl : r_2.toInt = r_2.toInt) (by decide : (1 : Int32).toInt = 1) c_3
      refine lv_iconst (v := 5) hx hb dX9_take_22 (by decide) ?_
      exact gs_iret hx hb hr hlocks hM hS rfl ⟨hB_st, (by have hS9 : standI (rtC rs st 15 x.toNatClampNeg Xy) (gstT rs Xy Xx (st 15 15 x.toNatClampNeg).toInt) r_2.toInt := (by have h9 := hw_2_0; rw [kx, ky] at h9; exact h9); exact Or.inr (Or.inl (⟨⟨by omega, by omega, by omega, by omega, by omega, by omega, by omega, by omega⟩, standI.yes hS9 (by omega), by decide, rfl⟩)))⟩ (by exact Nat.le_refl _) (by exact Nat.le_refl _) dX9_take_23
  · skip
    refine lv_if_ne (tgt := 12) hx hb dX9_take_7 (by decide) (fun h9 => absurd (by decide) h9) (fun _ => ?_)
    refine lv_iconst (v := 1) hx hb dX9_take_10 (by decide) ?_
    exact gs_iret hx hb hr hlocks hM hS rfl ⟨hB_st, (Or.inl (⟨by omega, by decide, rfl⟩))⟩ (by exact Nat.le_refl _) (by exact Nat.le_refl _) dX9_take_11

set_option maxHeartbeats 4000000 in
set_option maxRecDepth 100000 in
/-- WellCourt.report -/
theorem s_report (l : Launch) (G : va_G) (cy : Nat → ClassId) (sK sV : Nat → Nat) (ad : Nat → Nat → Nat) (sz : Nat) (st : gS) (hB : gBd bX st) (x : Int32) (Xx : Int) (kx : x.toInt = Xx) : gsMi l yX9_report cX9_report 2 (some .boolean) ({ frames := 1, cells := 0, slots := 0, locals := 21 } : Room) G cy sK sV (shX cy ad) cnX ad sz [.ref (ad 0 0), .int x] st (fun (r : Int32) (u : gS) => gBN bX kX [1800] st u ∧ ((r = 1 ∧ (0 ≤ Xx) ∧ (Xx < (st 16 0 1).toInt) ∧ ((st 18 5 x.toNatClampNeg).toInt = -1) ∧ (u 18 5 = upd (st 18 5) x.toNatClampNeg (st 0 0 10)) ∧ (u 18 0 = st 18 0) ∧ (u 18 1 = st 18 1) ∧ (u 18 2 = st 18 2) ∧ (u 18 3 = st 18 3) ∧ (u 18 4 = st 18 4)) ∨ (r = 0 ∧ (Xx < 0 ∨ (st 16 0 1).toInt ≤ Xx ∨ ¬ (st 18 5 x.toNatClampNeg).toInt = -1) ∧ (u = st)))) := by
  refine gs_start (fun A => gsQi G (shX cy ad) cnX ad _ A) (by decide) (Nat.le_of_ble_eq_true rfl) ?_
  intro p e s m below meth c A ls H hx hb hr hml hlocks hown hts hK hov hE hI hM hm hS hA hl
  have hl : lv_has ls 2 [(0, .ref (ad 0 0)), (1, .int x)] := hl
  have hB_st : gBN bX kX [1800] st st := gBN.rf hB
  have b9 : (0 : Int) ≤ (st 16 0 1).toInt ∧ (st 16 0 1).toInt ≤ (300 : Int) := hB 16 0 1
  refine lv_aload_n hx hb dX9_report_0 rfl (lv_at hl 0 rfl) ?_
  refine gs_get (C := RX9) (T := TX9) (N := 12) hx hb hts inX9 hown hK hM 0 0 5 (by decide) rfl rfl (by decide) (hts _ gm_296) (fun _ h9 => h9) rfl dX9_report_1 ?_
  refine lv_iload_n hx hb dX9_report_4 rfl (lv_at hl 1 rfl) ?_
  refine gs_calli (va_runV (As := [.int x]) (rest := []) ⟨hx, hb, hml, hown, hts⟩ (s_X5_has l G cy sK sV ad H.size st hB_st.1 x x.toInt rfl ) ⟨(gz_cb (n := 1) hts gm_663 gm_8 gm_666 ⟨by decide +kernel, by decide +kernel, by decide +kernel⟩ ⟨Nat.le_of_ble_eq_true rfl, Nat.le_of_ble_eq_true rfl⟩), hts _ gm_664, hts _ gm_665⟩ (gs_preV hK hov hE hI hM hm hS hA 16 0 (by decide) rfl rfl) rfl rfl hl.1 rfl (lv_room (Nat.le_of_ble_eq_true rfl)) dX9_report_5 ⟨Nat.le_of_ble_eq_true rfl, Nat.le_of_ble_eq_true rfl⟩) hm hS hA (fun r_1 st_1 H locs hw_1 hM hS => ?_)
  obtain ⟨n_1, hw_1⟩ := hw_1
  have n_1 := gBN.nil n_1
  subst n_1
  have hbhw_10 : (0 : Int) ≤ (st 16 0 1).toInt ∧ (st 16 0 1).toInt ≤ (300 : Int) := hB_st.1 16 0 1
  rcases hw_1 with ⟨rfl, hw_1_0, hw_1_1⟩ | ⟨rfl, hw_1_0⟩
  · skip
    refine lv_if_eq (tgt := 26) hx hb dX9_report_8 (by decide) (fun h9 => absurd h9 (by decide)) (fun _ => ?_)
    refine lv_aload_n hx hb dX9_report_11 rfl (lv_at hl 0 rfl) ?_
    refine gs_get (C := RX9) (T := TX9) (N := 12) hx hb hts inX9 hown hK hM 0 0 5 (by decide) rfl rfl (by decide) (hts _ gm_296) (fun _ h9 => h9) rfl dX9_report_12 ?_
    refine gs_getN (host := "WellCourt") (C := RX5) (T := TX5) (N := 2) hx hb hts inX5 hown hK hM 16 0 0 (by decide) rfl rfl (by decide) (va_Nw.use rfl (hov.2.2 _ gn_142)) (fun _ h9 => h9) rfl dX9_report_15 ?_
    refine lv_iconst (v := 5) hx hb dX9_report_18 (by decide) ?_
    refine gs_alda hx hb hK hM 17 0 (by decide) rfl (vp_in_iff.mpr (by decide)) (a := ad 18 5) rfl dX9_report_19 ?_
    refine lv_iload_n hx hb dX9_report_20 rfl (lv_at hl 1 rfl) ?_
    refine gs_iald hx hb hK hM 18 5 (by decide) rfl (vp_in_iff.mpr ⟨by omega, by omega⟩) dX9_report_21 ?_
    refine lv_topi (fun x_2 ex_2 => ?_)
    have qx_2 : x_2.toInt = (st 18 5 (x.toNatClampNeg)).toInt := congrArg Int32.toInt ex_2
    refine lv_iconst (v := (-1)) hx hb dX9_report_22 (by decide) ?_
    refine lv_icmp_eq (tgt := 28) hx hb dX9_report_23 (by decide) (fun c_3 => ?_) (fun c_3 => ?_)
    · have ic_3 := gz_eq (rfl : x_2.toInt = x_2.toInt) (by decide : ((-1) : Int32).toInt = -1) c_3
      refine lv_aload_n hx hb dX9_report_28 rfl (lv_at hl 0 rfl) ?_
      refine gs_get (C := RX9) (T := TX9) (N := 12) hx hb hts inX9 hown hK hM 0 0 5 (by decide) rfl rfl (by decide) (hts _ gm_296) (fun _ h9 => h9) rfl dX9_report_29 ?_
      refine gs_getN (host := "WellCourt") (C := RX5) (T := TX5) (N := 2) hx hb hts inX5 hown hK hM 16 0 0 (by decide) rfl rfl (by decide) (va_Nw.use rfl (hov.2.2 _ gn_142)) (fun _ h9 => h9) rfl dX9_report_32 ?_
      refine lv_iconst (v := 5) hx hb dX9_report_35 (by decide) ?_
      refine gs_alda hx hb hK hM 17 0 (by decide) rfl (vp_in_iff.mpr (by decide)) (a := ad 18 5) rfl dX9_report_36 ?_
      refine lv_iload_n hx hb dX9_report_37 rfl (lv_at hl 1 rfl) ?_
      refine lv_aload_n hx hb dX9_report_38 rfl (lv_at hl 0 rfl) ?_
      refine gs_get (C := RX9) (T := TX9) (N := 12) hx hb hts inX9 hown hK hM 0 0 10 (by decide) rfl rfl (by decide) (hts _ gm_301) (fun _ h9 => h9) rfl dX9_report_39 ?_
      have bf_4 : (0 : Int) ≤ (st 0 0 10).toInt ∧ (st 0 0 10).toInt ≤ (199 : Int) := hB_st.1 0 0 10
      refine gs_iast hx hb hK hI hm hM hS 18 5 (by decide) (fun _ => rfl) (vp_in_iff.mpr ⟨by omega, by omega⟩) dX9_report_42 (fun st_5 H locs est_5 hM hS => ?_)
      have hB_st_5 : gBN bX kX [1800] st st_5 := by rw [est_5]; exact hB_st.up (show (1800 : Nat) ∈ _ from by decide) (gi_lo _) (gi_hi _)
      refine lv_iconst (v := 1) hx hb dX9_report_43 (by decide) ?_
      exact gs_iret hx hb hr hlocks hM hS (by decide) ⟨hB_st_5, (Or.inl ⟨rfl, by omega, by omega, by omega, ((congrFun (congrFun est_5 18) 5).trans ((gU_at _ _ _ _ _).trans (congrArg (fun f9 => upd f9 (x.toNatClampNeg) ((st 0 0 10) : Int32)) rfl))), ((congrFun (congrFun est_5 18) 0).trans ((gU_ne (by decide)).trans rfl)), ((congrFun (congrFun est_5 18) 1).trans ((gU_ne (by decide)).trans rfl)), ((congrFun (congrFun est_5 18) 2).trans ((gU_ne (by decide)).trans rfl)), ((congrFun (congrFun est_5 18) 3).trans ((gU_ne (by decide)).trans rfl)), ((congrFun (congrFun est_5 18) 4).trans ((gU_ne (by decide)).trans rfl))⟩)⟩ (by exact Nat.le_refl _) (by exact Nat.le_refl _) dX9_report_44
    · have ic_3 := gz_ne (rfl : x_2.toInt = x_2.toInt) (by decide : ((-1) : Int32).toInt = -1) c_3
      refine lv_iconst (v := 0) hx hb dX9_report_26 (by decide) ?_
      exact gs_iret hx hb hr hlocks hM hS (by decide) ⟨hB_st, (Or.inr ⟨rfl, by omega, rfl⟩)⟩ (by exact Nat.le_refl _) (by exact Nat.le_refl _) dX9_report_27
  · skip
    refine lv_if_eq (tgt := 26) hx hb dX9_report_8 (by decide) (fun _ => ?_) (fun h9 => absurd (by decide) h9)
    refine lv_iconst (v := 0) hx hb dX9_report_26 (by decide) ?_
    exact gs_iret hx hb hr hlocks hM hS (by decide) ⟨hB_st, (Or.inr ⟨rfl, by omega, rfl⟩)⟩ (by exact Nat.le_refl _) (by exact Nat.le_refl _) dX9_report_27
