theorem gm_297 : (Jvm.Cond.fieldLink "WellCourt" (56 : Nat) "WellCourt" "flock" "LWellCourt$Flock;") ∈ gz_T := gz_at 297 (by decide +kernel) rfl
theorem gm_300 : (Jvm.Cond.fieldLink "WellCourt" (75 : Nat) "WellCourt" "planner" "LWellCourt$Planner;") ∈ gz_T := gz_at 300 (by decide +kernel) rfl
theorem gm_693 : (Jvm.Cond.methodLink "WellCourt" (203 : Nat) ({ cls := "WellCourt", name := "isHerd", desc := "(I)Z" } : Jvm.MethodName)) ∈ gz_T := gz_at 693 (by decide +kernel) rfl
theorem gm_696 : (Jvm.Cond.methodLink "WellCourt" (206 : Nat) ({ cls := "WellCourt$Flock", name := "put", desc := "(IIII)V" } : Jvm.MethodName)) ∈ gz_T := gz_at 696 (by decide +kernel) rfl
theorem gm_697 : (Jvm.Cond.instanceMethod ({ cls := "WellCourt$Flock", name := "put", desc := "(IIII)V" } : Jvm.MethodName)) ∈ gz_T := gz_at 697 (by decide +kernel) rfl
theorem gm_698 : (Jvm.Cond.selects "WellCourt$Flock" ({ cls := "WellCourt$Flock", name := "put", desc := "(IIII)V" } : Jvm.MethodName) ({ cls := "WellCourt$Flock", name := "put", desc := "(IIII)V" } : Jvm.MethodName)) ∈ gz_T := gz_at 698 (by decide +kernel) rfl
theorem gm_699 : (Jvm.Cond.code ({ cls := "WellCourt$Flock", name := "put", desc := "(IIII)V" } : Jvm.MethodName) prog_4_method_2_code (5 : Nat) (Option.none : Option Jvm.ClassFile.FieldType)) ∈ gz_T := gz_at 699 (by decide +kernel) rfl
theorem gm_704 : (Jvm.Cond.methodLink "WellCourt" (216 : Nat) ({ cls := "WellCourt$Flock", name := "isThere", desc := "(I)Z" } : Jvm.MethodName)) ∈ gz_T := gz_at 704 (by decide +kernel) rfl
theorem gm_716 : (Jvm.Cond.methodLink "WellCourt" (242 : Nat) ({ cls := "WellCourt$Planner", name := "actOf", desc := "(II)I" } : Jvm.MethodName)) ∈ gz_T := gz_at 716 (by decide +kernel) rfl
theorem gm_717 : (Jvm.Cond.instanceMethod ({ cls := "WellCourt$Planner", name := "actOf", desc := "(II)I" } : Jvm.MethodName)) ∈ gz_T := gz_at 717 (by decide +kernel) rfl
theorem gm_718 : (Jvm.Cond.selects "WellCourt$Planner" ({ cls := "WellCourt$Planner", name := "actOf", desc := "(II)I" } : Jvm.MethodName) ({ cls := "WellCourt$Planner", name := "actOf", desc := "(II)I" } : Jvm.MethodName)) ∈ gz_T := gz_at 718 (by decide +kernel) rfl
theorem gm_719 : (Jvm.Cond.code ({ cls := "WellCourt$Planner", name := "actOf", desc := "(II)I" } : Jvm.MethodName) prog_8_method_4_code (3 : Nat) (Option.some Jvm.ClassFile.FieldType.int)) ∈ gz_T := gz_at 719 (by decide +kernel) rfl
theorem gm_729 : (Jvm.Cond.methodLink "WellCourt" (248 : Nat) ({ cls := "WellCourt$Land", name := "size", desc := "()I" } : Jvm.MethodName)) ∈ gz_T := gz_at 729 (by decide +kernel) rfl
theorem gm_730 : (Jvm.Cond.instanceMethod ({ cls := "WellCourt$Land", name := "size", desc := "()I" } : Jvm.MethodName)) ∈ gz_T := gz_at 730 (by decide +kernel) rfl
theorem gm_731 : (Jvm.Cond.selects "WellCourt$Land" ({ cls := "WellCourt$Land", name := "size", desc := "()I" } : Jvm.MethodName) ({ cls := "WellCourt$Land", name := "size", desc := "()I" } : Jvm.MethodName)) ∈ gz_T := gz_at 731 (by decide +kernel) rfl
theorem gm_732 : (Jvm.Cond.code ({ cls := "WellCourt$Land", name := "size", desc := "()I" } : Jvm.MethodName) prog_5_method_3_code (3 : Nat) (Option.some Jvm.ClassFile.FieldType.int)) ∈ gz_T := gz_at 732 (by decide +kernel) rfl
theorem gm_734 : (Jvm.Cond.methodLink "WellCourt" (229 : Nat) ({ cls := "WellCourt$Flock", name := "size", desc := "()I" } : Jvm.MethodName)) ∈ gz_T := gz_at 734 (by decide +kernel) rfl
theorem gm_735 : (Jvm.Cond.instanceMethod ({ cls := "WellCourt$Flock", name := "size", desc := "()I" } : Jvm.MethodName)) ∈ gz_T := gz_at 735 (by decide +kernel) rfl
theorem gm_736 : (Jvm.Cond.selects "WellCourt$Flock" ({ cls := "WellCourt$Flock", name := "size", desc := "()I" } : Jvm.MethodName) ({ cls := "WellCourt$Flock", name := "size", desc := "()I" } : Jvm.MethodName)) ∈ gz_T := gz_at 736 (by decide +kernel) rfl
theorem gm_737 : (Jvm.Cond.code ({ cls := "WellCourt$Flock", name := "size", desc := "()I" } : Jvm.MethodName) prog_4_method_4_code (3 : Nat) (Option.some Jvm.ClassFile.FieldType.int)) ∈ gz_T := gz_at 737 (by decide +kernel) rfl
theorem gn_90 : (Jvm.Cond.fieldLinkNest "WellCourt" (220 : Nat) "WellCourt$Land" "wayDays" "[[I" "WellCourt") ∈ gzN := gz_nest 90 (by decide +kernel) rfl
theorem gn_159 : (Jvm.Cond.fieldLinkNest "WellCourt" (217 : Nat) "WellCourt$Flock" "clan" "[I" "WellCourt") ∈ gzN := gz_nest 159 (by decide +kernel) rfl
theorem gn_166 : (Jvm.Cond.fieldLinkNest "WellCourt" (210 : Nat) "WellCourt$Flock" "place" "[I" "WellCourt") ∈ gzN := gz_nest 166 (by decide +kernel) rfl
theorem gn_169 : (Jvm.Cond.fieldLinkNest "WellCourt" (213 : Nat) "WellCourt$Flock" "drank" "[I" "WellCourt") ∈ gzN := gz_nest 169 (by decide +kernel) rfl
theorem gn_254 : (Jvm.Cond.fieldLinkNest "WellCourt" (232 : Nat) "WellCourt$Planner" "looks" "I" "WellCourt") ∈ gzN := gz_nest 254 (by decide +kernel) rfl
theorem gn_256 : (Jvm.Cond.fieldLinkNest "WellCourt" (245 : Nat) "WellCourt$Planner" "reach" "I" "WellCourt") ∈ gzN := gz_nest 256 (by decide +kernel) rfl
theorem dX9_count_0 : decode cX9_count 0 = .ok (.iload_n 1, 1) := by decide +kernel
theorem dX9_count_1 : decode cX9_count 1 = .ok (.tableswitch 96 0 6 #[43, 48, 56, 64, 72, 80, 88], 43) := by decide +kernel
theorem dX9_count_44 : decode cX9_count 44 = .ok (.aload_n 0, 1) := by decide +kernel
theorem dX9_count_45 : decode cX9_count 45 = .ok (.getfield 79, 3) := by decide +kernel
theorem dX9_count_48 : decode cX9_count 48 = .ok (.ireturn, 1) := by decide +kernel
theorem dX9_count_49 : decode cX9_count 49 = .ok (.aload_n 0, 1) := by decide +kernel
theorem dX9_count_50 : decode cX9_count 50 = .ok (.getfield 28, 3) := by decide +kernel
theorem dX9_count_53 : decode cX9_count 53 = .ok (.invokevirtual 248, 3) := by decide +kernel
theorem dX9_count_56 : decode cX9_count 56 = .ok (.ireturn, 1) := by decide +kernel
theorem dX9_count_57 : decode cX9_count 57 = .ok (.aload_n 0, 1) := by decide +kernel
theorem dX9_count_58 : decode cX9_count 58 = .ok (.getfield 63, 3) := by decide +kernel
theorem dX9_count_61 : decode cX9_count 61 = .ok (.getfield 137, 3) := by decide +kernel
theorem dX9_count_64 : decode cX9_count 64 = .ok (.ireturn, 1) := by decide +kernel
theorem dX9_count_65 : decode cX9_count 65 = .ok (.aload_n 0, 1) := by decide +kernel
theorem dX9_count_66 : decode cX9_count 66 = .ok (.getfield 56, 3) := by decide +kernel
theorem dX9_count_69 : decode cX9_count 69 = .ok (.invokevirtual 229, 3) := by decide +kernel
theorem dX9_count_72 : decode cX9_count 72 = .ok (.ireturn, 1) := by decide +kernel
theorem dX9_count_73 : decode cX9_count 73 = .ok (.aload_n 0, 1) := by decide +kernel
theorem dX9_count_74 : decode cX9_count 74 = .ok (.getfield 49, 3) := by decide +kernel
theorem dX9_count_77 : decode cX9_count 77 = .ok (.getfield 249, 3) := by decide +kernel
theorem dX9_count_80 : decode cX9_count 80 = .ok (.ireturn, 1) := by decide +kernel
theorem dX9_count_81 : decode cX9_count 81 = .ok (.aload_n 0, 1) := by decide +kernel
theorem dX9_count_82 : decode cX9_count 82 = .ok (.getfield 10, 3) := by decide +kernel
theorem dX9_count_85 : decode cX9_count 85 = .ok (.getfield 86, 3) := by decide +kernel
theorem dX9_count_88 : decode cX9_count 88 = .ok (.ireturn, 1) := by decide +kernel
theorem dX9_count_89 : decode cX9_count 89 = .ok (.aload_n 0, 1) := by decide +kernel
theorem dX9_count_90 : decode cX9_count 90 = .ok (.getfield 75, 3) := by decide +kernel
theorem dX9_count_93 : decode cX9_count 93 = .ok (.getfield 232, 3) := by decide +kernel
theorem dX9_count_96 : decode cX9_count 96 = .ok (.ireturn, 1) := by decide +kernel
theorem dX9_count_97 : decode cX9_count 97 = .ok (.iconst (-1), 1) := by decide +kernel
theorem dX9_count_98 : decode cX9_count 98 = .ok (.ireturn, 1) := by decide +kernel
theorem dX9_drop_0 : decode cX9_drop 0 = .ok (.iload_n 1, 1) := by decide +kernel
theorem dX9_drop_1 : decode cX9_drop 1 = .ok (.invokestatic 203, 3) := by decide +kernel
theorem dX9_drop_4 : decode cX9_drop 4 = .ok (.ifCond .eq 14, 3) := by decide +kernel
theorem dX9_drop_7 : decode cX9_drop 7 = .ok (.aload_n 0, 1) := by decide +kernel
theorem dX9_drop_8 : decode cX9_drop 8 = .ok (.getfield 56, 3) := by decide +kernel
theorem dX9_drop_11 : decode cX9_drop 11 = .ok (.iload_n 1, 1) := by decide +kernel
theorem dX9_drop_12 : decode cX9_drop 12 = .ok (.invokevirtual 216, 3) := by decide +kernel
theorem dX9_drop_15 : decode cX9_drop 15 = .ok (.ifCond .ne 5, 3) := by decide +kernel
theorem dX9_drop_18 : decode cX9_drop 18 = .ok (.iconst 0, 1) := by decide +kernel
theorem dX9_drop_19 : decode cX9_drop 19 = .ok (.ireturn, 1) := by decide +kernel
theorem dX9_drop_20 : decode cX9_drop 20 = .ok (.aload_n 0, 1) := by decide +kernel
theorem dX9_drop_21 : decode cX9_drop 21 = .ok (.getfield 56, 3) := by decide +kernel
theorem dX9_drop_24 : decode cX9_drop 24 = .ok (.getfield 217, 3) := by decide +kernel
theorem dX9_drop_27 : decode cX9_drop 27 = .ok (.iload_n 1, 1) := by decide +kernel
theorem dX9_drop_28 : decode cX9_drop 28 = .ok (.iconst (-1), 1) := by decide +kernel
theorem dX9_drop_29 : decode cX9_drop 29 = .ok (.iastore, 1) := by decide +kernel
theorem dX9_drop_30 : decode cX9_drop 30 = .ok (.iconst 1, 1) := by decide +kernel
theorem dX9_drop_31 : decode cX9_drop 31 = .ok (.ireturn, 1) := by decide +kernel
theorem dX9_far_0 : decode cX9_far 0 = .ok (.aload_n 0, 1) := by decide +kernel
theorem dX9_far_1 : decode cX9_far 1 = .ok (.getfield 75, 3) := by decide +kernel
theorem dX9_far_4 : decode cX9_far 4 = .ok (.getfield 245, 3) := by decide +kernel
theorem dX9_far_7 : decode cX9_far 7 = .ok (.ireturn, 1) := by decide +kernel
theorem dX9_herd_0 : decode cX9_herd 0 = .ok (.iload_n 1, 1) := by decide +kernel
theorem dX9_herd_1 : decode cX9_herd 1 = .ok (.invokestatic 203, 3) := by decide +kernel
theorem dX9_herd_4 : decode cX9_herd 4 = .ok (.ifCond .eq 19, 3) := by decide +kernel
theorem dX9_herd_7 : decode cX9_herd 7 = .ok (.iload_n 2, 1) := by decide +kernel
theorem dX9_herd_8 : decode cX9_herd 8 = .ok (.invokestatic 151, 3) := by decide +kernel
theorem dX9_herd_11 : decode cX9_herd 11 = .ok (.ifCond .eq 12, 3) := by decide +kernel
theorem dX9_herd_14 : decode cX9_herd 14 = .ok (.aload_n 0, 1) := by decide +kernel
theorem dX9_herd_15 : decode cX9_herd 15 = .ok (.iload 5, 2) := by decide +kernel
theorem dX9_herd_17 : decode cX9_herd 17 = .ok (.invokevirtual 144, 3) := by decide +kernel
theorem dX9_herd_20 : decode cX9_herd 20 = .ok (.ifCond .ne 5, 3) := by decide +kernel
theorem dX9_herd_23 : decode cX9_herd 23 = .ok (.iconst 0, 1) := by decide +kernel
theorem dX9_herd_24 : decode cX9_herd 24 = .ok (.ireturn, 1) := by decide +kernel
theorem dX9_herd_25 : decode cX9_herd 25 = .ok (.iload_n 3, 1) := by decide +kernel
theorem dX9_herd_26 : decode cX9_herd 26 = .ok (.iconst 1, 1) := by decide +kernel
theorem dX9_herd_27 : decode cX9_herd 27 = .ok (.bipush 100, 2) := by decide +kernel
theorem dX9_herd_29 : decode cX9_herd 29 = .ok (.invokestatic 100, 3) := by decide +kernel
theorem dX9_herd_32 : decode cX9_herd 32 = .ok (.ifCond .eq 14, 3) := by decide +kernel
theorem dX9_herd_35 : decode cX9_herd 35 = .ok (.iload 4, 2) := by decide +kernel
theorem dX9_herd_37 : decode cX9_herd 37 = .ok (.iconst 1, 1) := by decide +kernel
theorem dX9_herd_38 : decode cX9_herd 38 = .ok (.bipush 9, 2) := by decide +kernel
theorem dX9_herd_40 : decode cX9_herd 40 = .ok (.invokestatic 100, 3) := by decide +kernel
theorem dX9_herd_43 : decode cX9_herd 43 = .ok (.ifCond .ne 5, 3) := by decide +kernel
theorem dX9_herd_46 : decode cX9_herd 46 = .ok (.iconst 0, 1) := by decide +kernel
theorem dX9_herd_47 : decode cX9_herd 47 = .ok (.ireturn, 1) := by decide +kernel
theorem dX9_herd_48 : decode cX9_herd 48 = .ok (.aload_n 0, 1) := by decide +kernel
theorem dX9_herd_49 : decode cX9_herd 49 = .ok (.getfield 56, 3) := by decide +kernel
theorem dX9_herd_52 : decode cX9_herd 52 = .ok (.iload_n 1, 1) := by decide +kernel
theorem dX9_herd_53 : decode cX9_herd 53 = .ok (.iload_n 2, 1) := by decide +kernel
theorem dX9_herd_54 : decode cX9_herd 54 = .ok (.iload_n 3, 1) := by decide +kernel
theorem dX9_herd_55 : decode cX9_herd 55 = .ok (.iload 4, 2) := by decide +kernel
theorem dX9_herd_57 : decode cX9_herd 57 = .ok (.invokevirtual 206, 3) := by decide +kernel
theorem dX9_herd_60 : decode cX9_herd 60 = .ok (.aload_n 0, 1) := by decide +kernel
theorem dX9_herd_61 : decode cX9_herd 61 = .ok (.getfield 56, 3) := by decide +kernel
theorem dX9_herd_64 : decode cX9_herd 64 = .ok (.getfield 210, 3) := by decide +kernel
theorem dX9_herd_67 : decode cX9_herd 67 = .ok (.iload_n 1, 1) := by decide +kernel
theorem dX9_herd_68 : decode cX9_herd 68 = .ok (.iload 5, 2) := by decide +kernel
theorem dX9_herd_70 : decode cX9_herd 70 = .ok (.iastore, 1) := by decide +kernel
theorem dX9_herd_71 : decode cX9_herd 71 = .ok (.aload_n 0, 1) := by decide +kernel
theorem dX9_herd_72 : decode cX9_herd 72 = .ok (.getfield 56, 3) := by decide +kernel
theorem dX9_herd_75 : decode cX9_herd 75 = .ok (.getfield 213, 3) := by decide +kernel
theorem dX9_herd_78 : decode cX9_herd 78 = .ok (.iload_n 1, 1) := by decide +kernel
theorem dX9_herd_79 : decode cX9_herd 79 = .ok (.aload_n 0, 1) := by decide +kernel
theorem dX9_herd_80 : decode cX9_herd 80 = .ok (.getfield 79, 3) := by decide +kernel
theorem dX9_herd_83 : decode cX9_herd 83 = .ok (.iastore, 1) := by decide +kernel
theorem dX9_herd_84 : decode cX9_herd 84 = .ok (.iconst 1, 1) := by decide +kernel
theorem dX9_herd_85 : decode cX9_herd 85 = .ok (.ireturn, 1) := by decide +kernel
theorem dX9_step_0 : decode cX9_step 0 = .ok (.aload_n 0, 1) := by decide +kernel
theorem dX9_step_1 : decode cX9_step 1 = .ok (.getfield 75, 3) := by decide +kernel
theorem dX9_step_4 : decode cX9_step 4 = .ok (.iload_n 1, 1) := by decide +kernel
theorem dX9_step_5 : decode cX9_step 5 = .ok (.iload_n 2, 1) := by decide +kernel
theorem dX9_step_6 : decode cX9_step 6 = .ok (.invokevirtual 242, 3) := by decide +kernel
theorem dX9_step_9 : decode cX9_step 9 = .ok (.ireturn, 1) := by decide +kernel
theorem dX9_way_0 : decode cX9_way 0 = .ok (.iload_n 1, 1) := by decide +kernel
theorem dX9_way_1 : decode cX9_way 1 = .ok (.invokestatic 93, 3) := by decide +kernel
theorem dX9_way_4 : decode cX9_way 4 = .ok (.ifCond .eq 25, 3) := by decide +kernel
theorem dX9_way_7 : decode cX9_way 7 = .ok (.iload_n 2, 1) := by decide +kernel
theorem dX9_way_8 : decode cX9_way 8 = .ok (.invokestatic 93, 3) := by decide +kernel
theorem dX9_way_11 : decode cX9_way 11 = .ok (.ifCond .eq 18, 3) := by decide +kernel
theorem dX9_way_14 : decode cX9_way 14 = .ok (.iload_n 1, 1) := by decide +kernel
theorem dX9_way_15 : decode cX9_way 15 = .ok (.iload_n 2, 1) := by decide +kernel
theorem dX9_way_16 : decode cX9_way 16 = .ok (.if_icmp .eq 13, 3) := by decide +kernel
theorem dX9_way_19 : decode cX9_way 19 = .ok (.iload_n 3, 1) := by decide +kernel
theorem dX9_way_20 : decode cX9_way 20 = .ok (.iconst 0, 1) := by decide +kernel
theorem dX9_way_21 : decode cX9_way 21 = .ok (.bipush 9, 2) := by decide +kernel
theorem dX9_way_23 : decode cX9_way 23 = .ok (.invokestatic 100, 3) := by decide +kernel
theorem dX9_way_26 : decode cX9_way 26 = .ok (.ifCond .ne 5, 3) := by decide +kernel
theorem dX9_way_29 : decode cX9_way 29 = .ok (.iconst 0, 1) := by decide +kernel
theorem dX9_way_30 : decode cX9_way 30 = .ok (.ireturn, 1) := by decide +kernel
theorem dX9_way_31 : decode cX9_way 31 = .ok (.aload_n 0, 1) := by decide +kernel
theorem dX9_way_32 : decode cX9_way 32 = .ok (.getfield 28, 3) := by decide +kernel
theorem dX9_way_35 : decode cX9_way 35 = .ok (.getfield 220, 3) := by decide +kernel
theorem dX9_way_38 : decode cX9_way 38 = .ok (.iload_n 1, 1) := by decide +kernel
theorem dX9_way_39 : decode cX9_way 39 = .ok (.aaload, 1) := by decide +kernel
theorem dX9_way_40 : decode cX9_way 40 = .ok (.iload_n 2, 1) := by decide +kernel
theorem dX9_way_41 : decode cX9_way 41 = .ok (.iload_n 3, 1) := by decide +kernel
theorem dX9_way_42 : decode cX9_way 42 = .ok (.iastore, 1) := by decide +kernel
theorem dX9_way_43 : decode cX9_way 43 = .ok (.iconst 1, 1) := by decide +kernel
theorem dX9_way_44 : decode cX9_way 44 = .ok (.ireturn, 1) := by decide +kernel
set_option maxHeartbeats 4000000 in
set_option maxRecDepth 100000 in
/-- WellCourt.herd -/
theorem s_herd (l : Launch) (G : va_G) (cy : Nat → ClassId) (sK sV : Nat → Nat) (ad : Nat → Nat → Nat) (sz : Nat) (st : gS) (hB : gBd bX st) (x : Int32) (y : Int32) (w : Int32) (v : Int32) (t : Int32) (Xx : Int) (Xy : Int) (Xw : Int) (Xv : Int) (Xt : Int) (kx : x.toInt = Xx) (ky : y.toInt = Xy) (kw : w.toInt = Xw) (kv : v.toInt = Xv) (kt : t.toInt = Xt) : gsMi l yX9_herd cX9_herd 6 (some .boolean) ({ frames := 2, cells := 0, slots := 0, locals := 42 } : Room) G cy sK sV (shX cy ad) cnX ad sz [.ref (ad 0 0), .int x, .int y, .int w, .int v, .int t] st (fun (r : Int32) (u : gS) => gBN bX kX [2000, 2100, 2200, 2300, 2400] st u ∧ ((r = 1 ∧ (0 ≤ Xx) ∧ (Xx ≤ 3) ∧ (0 ≤ Xy) ∧ (Xy ≤ 5) ∧ (0 ≤ Xt) ∧ (Xt ≤ 5) ∧ (0 < (st 5 0 t.toNatClampNeg).toInt) ∧ (1 ≤ Xw) ∧ (Xw ≤ 100) ∧ (1 ≤ Xv) ∧ (Xv ≤ 9) ∧ (u 20 0 = upd (st 20 0) x.toNatClampNeg y)) ∨ (r = 0 ∧ (Xx < 0 ∨ 3 < Xx ∨ Xy < 0 ∨ 5 < Xy ∨ Xt < 0 ∨ 5 < Xt ∨ (st 5 0 t.toNatClampNeg).toInt ≤ 0 ∨ Xw < 1 ∨ 100 < Xw ∨ Xv < 1 ∨ 9 < Xv) ∧ (u 20 0 = st 20 0)))) := by
  refine gs_start (fun A => gsQi G (shX cy ad) cnX ad _ A) (by decide) (Nat.le_of_ble_eq_true rfl) ?_
  intro p e s m below meth c A ls H hx hb hr hml hlocks hown hts hK hov hE hI hM hm hS hA hl
  have hl : lv_has ls 6 [(0, .ref (ad 0 0)), (1, .int x), (2, .int y), (3, .int w), (4, .int v), (5, .int t)] := hl
  have hB_st : gBN bX kX [2000, 2100, 2200, 2300, 2400] st st := gBN.rf hB
  refine lv_iload_n hx hb dX9_herd_0 rfl (lv_at hl 1 rfl) ?_
  refine gs_calli (va_runS (As := [.int x]) (rest := []) ⟨hx, hb, hml, hown, hts⟩ (s_isHerd l G cy sK sV ad H.size st hB_st.1 x x.toInt rfl ) ⟨(gz_cb (n := 1) hts gm_693 gm_1 gm_695 ⟨by decide +kernel, by decide +kernel, by decide +kernel⟩ ⟨Nat.le_of_ble_eq_true rfl, Nat.le_of_ble_eq_true rfl⟩), hts _ gm_694⟩ (gs_preS hK hov hE hI hM hm hS hA) rfl rfl hl.1 rfl (lv_room (Nat.le_of_ble_eq_true rfl)) dX9_herd_1 ⟨Nat.le_of_ble_eq_true rfl, Nat.le_of_ble_eq_true rfl⟩) hm hS hA (fun r_1 st_1 H locs hw_1 hM hS => ?_)
  obtain ⟨n_1, hw_1⟩ := hw_1
  have n_1 := gBN.nil n_1
  subst n_1
  rcases hw_1 with ⟨rfl, hw_1_0, hw_1_1⟩ | ⟨rfl, hw_1_0⟩
  · skip
    refine lv_if_eq (tgt := 23) hx hb dX9_herd_4 (by decide) (fun h9 => absurd h9 (by decide)) (fun _ => ?_)
    refine lv_iload_n hx hb dX9_herd_7 rfl (lv_at hl 2 rfl) ?_
    refine gs_calli (va_runS (As := [.int y]) (rest := []) ⟨hx, hb, hml, hown, hts⟩ (s_isClan l G cy sK sV ad H.size st hB_st.1 y y.toInt rfl ) ⟨(gz_cb (n := 1) hts gm_600 gm_1 gm_487 ⟨by decide +kernel, by decide +kernel, by decide +kernel⟩ ⟨Nat.le_of_ble_eq_true rfl, Nat.le_of_ble_eq_true rfl⟩), hts _ gm_486⟩ (gs_preS hK hov hE hI hM hm hS hA) rfl rfl hl.1 rfl (lv_room (Nat.le_of_ble_eq_true rfl)) dX9_herd_8 ⟨Nat.le_of_ble_eq_true rfl, Nat.le_of_ble_eq_true rfl⟩) hm hS hA (fun r_2 st_2 H locs hw_2 hM hS => ?_)
    obtain ⟨n_2, hw_2⟩ := hw_2
    have n_2 := gBN.nil n_2
    subst n_2
    rcases hw_2 with ⟨rfl, hw_2_0, hw_2_1⟩ | ⟨rfl, hw_2_0⟩
    · skip
      refine lv_if_eq (tgt := 23) hx hb dX9_herd_11 (by decide) (fun h9 => absurd h9 (by decide)) (fun _ => ?_)
      refine lv_aload_n hx hb dX9_herd_14 rfl (lv_at hl 0 rfl) ?_
      refine lv_iload hx hb dX9_herd_15 (lv_at hl 5 rfl) ?_
      refine gs_calli (va_runV (As := [.int t]) (rest := []) ⟨hx, hb, hml, hown, hts⟩ (s_isWellThere l G cy sK sV ad H.size st hB_st.1 t t.toInt rfl ) ⟨(gz_cb (n := 1) hts gm_587 gm_1 gm_590 ⟨by decide +kernel, by decide +kernel, by decide +kernel⟩ ⟨Nat.le_of_ble_eq_true rfl, Nat.le_of_ble_eq_true rfl⟩), hts _ gm_589, hts _ gs_17⟩ (gs_preV hK hov hE hI hM hm hS hA 0 0 (by decide) rfl rfl) rfl rfl hl.1 rfl (lv_room (Nat.le_of_ble_eq_true rfl)) dX9_herd_17 ⟨Nat.le_of_ble_eq_true rfl, Nat.le_of_ble_eq_true rfl⟩) hm hS hA (fun r_3 st_3 H locs hw_3 hM hS => ?_)
      obtain ⟨n_3, hw_3⟩ := hw_3
      have n_3 := gBN.nil n_3
      subst n_3
      rcases hw_3 with ⟨rfl, hw_3_0, hw_3_1, hw_3_2⟩ | ⟨rfl, hw_3_0⟩
      · skip
        refine lv_if_ne (tgt := 25) hx hb dX9_herd_20 (by decide) (fun _ => ?_) (fun h9 => absurd h9 (by decide))
        refine lv_iload_n hx hb dX9_herd_25 rfl (lv_at hl 3 rfl) ?_
        refine lv_iconst (v := 1) hx hb dX9_herd_26 (by decide) ?_
        refine lv_bipush (v := 100) hx hb dX9_herd_27 (by decide) ?_
        refine gs_calli (va_runS (As := [.int w, .int 1, .int 100]) (rest := []) ⟨hx, hb, hml, hown, hts⟩ (s_isWithin l G cy sK sV ad H.size st hB_st.1 w (1 : Int32) (100 : Int32) w.toInt 1 100 rfl (by decide) (by decide) ) ⟨(gz_cb (n := 3) hts gm_351 gm_1 gm_353 ⟨by decide +kernel, by decide +kernel, by decide +kernel⟩ ⟨Nat.le_of_ble_eq_true rfl, Nat.le_of_ble_eq_true rfl⟩), hts _ gm_352⟩ (gs_preS hK hov hE hI hM hm hS hA) rfl rfl hl.1 rfl (lv_room (Nat.le_of_ble_eq_true rfl)) dX9_herd_29 ⟨Nat.le_of_ble_eq_true rfl, Nat.le_of_ble_eq_true rfl⟩) hm hS hA (fun r_4 st_4 H locs hw_4 hM hS => ?_)
        obtain ⟨n_4, hw_4⟩ := hw_4
        have n_4 := gBN.nil n_4
        subst n_4
        rcases hw_4 with ⟨rfl, hw_4_0, hw_4_1⟩ | ⟨rfl, hw_4_0⟩
        · skip
          refine lv_if_eq (tgt := 46) hx hb dX9_herd_32 (by decide) (fun h9 => absurd h9 (by decide)) (fun _ => ?_)
          refine lv_iload hx hb dX9_herd_35 (lv_at hl 4 rfl) ?_
          refine lv_iconst (v := 1) hx hb dX9_herd_37 (by decide) ?_
          refine lv_bipush (v := 9) hx hb dX9_herd_38 (by decide) ?_
          refine gs_calli (va_runS (As := [.int v, .int 1, .int 9]) (rest := []) ⟨hx, hb, hml, hown, hts⟩ (s_isWithin l G cy sK sV ad H.size st hB_st.1 v (1 : Int32) (9 : Int32) v.toInt 1 9 rfl (by decide) (by decide) ) ⟨(gz_cb (n := 3) hts gm_351 gm_1 gm_353 ⟨by decide +kernel, by decide +kernel, by decide +kernel⟩ ⟨Nat.le_of_ble_eq_true rfl, Nat.le_of_ble_eq_true rfl⟩), hts _ gm_352⟩ (gs_preS hK hov hE hI hM hm hS hA) rfl rfl hl.1 rfl (lv_room (Nat.le_of_ble_eq_true rfl)) dX9_herd_40 ⟨Nat.le_of_ble_eq_true rfl, Nat.le_of_ble_eq_true rfl⟩) hm hS hA (fun r_5 st_5 H locs hw_5 hM hS => ?_)
          obtain ⟨n_5, hw_5⟩ := hw_5
          have n_5 := gBN.nil n_5
          subst n_5
          rcases hw_5 with ⟨rfl, hw_5_0, hw_5_1⟩ | ⟨rfl, hw_5_0⟩
          · skip
            refine lv_if_ne (tgt := 48) hx hb dX9_herd_43 (by decide) (fun _ => ?_) (fun h9 => absurd h9 (by decide))
            refine lv_aload_n hx hb dX9_herd_48 rfl (lv_at hl 0 rfl) ?_
            refine gs_get (C := RX9) (T := TX9) (N := 12) hx hb hts inX9 hown hK hM 0 0 6 (by decide) rfl rfl (by decide) (hts _ gm_297) (fun _ h9 => h9) rfl dX9_herd_49 ?_
            refine lv_iload_n hx hb dX9_herd_52 rfl (lv_at hl 1 rfl) ?_
            refine lv_iload_n hx hb dX9_herd_53 rfl (lv_at hl 2 rfl) ?_
            refine lv_iload_n hx hb dX9_herd_54 rfl (lv_at hl 3 rfl) ?_
            refine lv_iload hx hb dX9_herd_55 (lv_at hl 4 rfl) ?_
            refine gs_callv (va_runV (As := [.int x, .int y, .int w, .int v]) (rest := []) ⟨hx, hb, hml, hown, hts⟩ (s_X2_put l G cy sK sV ad H.size st hB_st.1 x y w v x.toInt y.toInt w.toInt v.toInt rfl rfl rfl rfl (by first | decide | omega) (by first | decide | omega)) ⟨(gz_cb (n := 4) hts gm_696 gm_9 gm_699 ⟨by decide +kernel, by decide +kernel, by decide +kernel⟩ ⟨Nat.le_of_ble_eq_true rfl, Nat.le_of_ble_eq_true rfl⟩), hts _ gm_697, hts _ gm_698⟩ (gs_preV hK hov hE hI hM hm hS hA 19 0 (by decide) rfl rfl) rfl rfl hl.1 rfl (lv_room (Nat.le_of_ble_eq_true rfl)) dX9_herd_57 ⟨Nat.le_of_ble_eq_true rfl, Nat.le_of_ble_eq_true rfl⟩) hm hS hA (fun st_6 H locs hw_6 hM hS => ?_)
            obtain ⟨n_6, hw_6⟩ := hw_6
            have hB_st_6 : gBN bX kX [2000, 2100, 2200, 2300, 2400] st st_6 := hB_st.call n_6 (by decide)
            obtain ⟨hw_6_0, hw_6_1, hw_6_2⟩ := hw_6
            refine lv_aload_n hx hb dX9_herd_60 rfl (lv_at hl 0 rfl) ?_
            refine gs_get (C := RX9) (T := TX9) (N := 12) hx hb hts inX9 hown hK hM 0 0 6 (by decide) rfl rfl (by decide) (hts _ gm_297) (fun _ h9 => h9) rfl dX9_herd_61 ?_
            refine gs_getN (host := "WellCourt") (C := RX2) (T := TX2) (N := 5) hx hb hts inX2 hown hK hM 19 0 3 (by decide) rfl rfl (by decide) (va_Nw.use rfl (hov.2.2 _ gn_166)) (fun _ h9 => h9) rfl dX9_herd_64 ?_
            refine lv_iload_n hx hb dX9_herd_67 rfl (lv_at hl 1 rfl) ?_
            refine lv_iload hx hb dX9_herd_68 (lv_at hl 5 rfl) ?_
            refine gs_iast hx hb hK hI hm hM hS 23 0 (by decide) (fun _ => rfl) (vp_in_iff.mpr ⟨by omega, by omega⟩) dX9_herd_70 (fun st_7 H locs est_7 hM hS => ?_)
            have hB_st_7 : gBN bX kX [2000, 2100, 2200, 2300, 2400] st st_7 := by rw [est_7]; exact hB_st_6.up (show (2300 : Nat) ∈ _ from by decide) (show (0 : Int) ≤ t.toInt from by omega) (show t.toInt ≤ (5 : Int) from by omega)
            refine lv_aload_n hx hb dX9_herd_71 rfl (lv_at hl 0 rfl) ?_
            refine gs_get (C := RX9) (T := TX9) (N := 12) hx hb hts inX9 hown hK hM 0 0 6 (by decide) rfl rfl (by decide) (hts _ gm_297) (fun _ h9 => h9) rfl dX9_herd_72 ?_
            refine gs_getN (host := "WellCourt") (C := RX2) (T := TX2) (N := 5) hx hb hts inX2 hown hK hM 19 0 4 (by decide) rfl rfl (by decide) (va_Nw.use rfl (hov.2.2 _ gn_169)) (fun _ h9 => h9) rfl dX9_herd_75 ?_
            refine lv_iload_n hx hb dX9_herd_78 rfl (lv_at hl 1 rfl) ?_
            refine lv_aload_n hx hb dX9_herd_79 rfl (lv_at hl 0 rfl) ?_
            refine gs_get (C := RX9) (T := TX9) (N := 12) hx hb hts inX9 hown hK hM 0 0 10 (by decide) rfl rfl (by decide) (hts _ gm_301) (fun _ h9 => h9) rfl dX9_herd_80 ?_
            refine lv_topi (fun x_8 ex_8 => ?_)
            have ex_8 : (st 0 0 10) = x_8 := Eq.symm (ex_8.trans (((congrFun (congrFun (congrFun est_7 0) 0) 10).trans (congrFun (congrFun (gU_k (by decide)) 0) 10)).trans (n_6.2 0 0 10 (show (10 : Nat) ∉ _ from by decide))))
            subst ex_8
            have bf_9 : (0 : Int) ≤ (st 0 0 10).toInt ∧ (st 0 0 10).toInt ≤ (199 : Int) := hB_st.1 0 0 10
            refine gs_iast hx hb hK hI hm hM hS 24 0 (by decide) (fun _ => rfl) (vp_in_iff.mpr ⟨by omega, by omega⟩) dX9_herd_83 (fun st_10 H locs est_10 hM hS => ?_)
            have hB_st_10 : gBN bX kX [2000, 2100, 2200, 2300, 2400] st st_10 := by rw [est_10]; exact hB_st_7.up (show (2400 : Nat) ∈ _ from by decide) (gi_lo _) (gi_hi _)
            refine lv_iconst (v := 1) hx hb dX9_herd_84 (by decide) ?_
            exact gs_iret hx hb hr hlocks hM hS (by decide) ⟨hB_st_10, (Or.inl (⟨rfl, (by have hl0 : (1 : Int32).toInt = 1 := (by decide); omega), (by have hl0 : (1 : Int32).toInt = 1 := (by decide); omega), (by have hl0 : (1 : Int32).toInt = 1 := (by decide); omega), (by have hl0 : (1 : Int32).toInt = 1 := (by decide); omega), (by have hl0 : (1 : Int32).toInt = 1 := (by decide); omega), (by have hl0 : (1 : Int32).toInt = 1 := (by decide); omega), (by have hl0 : (1 : Int32).toInt = 1 := (by decide); omega), (by have hl0 : (1 : Int32).toInt = 1 := (by decide); omega), (by have hl0 : (1 : Int32).toInt = 1 := (by decide); omega), (by have hl0 : (1 : Int32).toInt = 1 := (by decide); omega), (by have hl0 : (1 : Int32).toInt = 1 := (by decide); omega), (((congrFun (congrFun est_10 20) 0).trans ((congrFun (gU_k (by decide)) 0).trans ((congrFun (congrFun est_7 20) 0).trans ((congrFun (gU_k (by decide)) 0).trans rfl)))).trans hw_6_0)⟩))⟩ (by exact Nat.le_refl _) (by exact Nat.le_refl _) dX9_herd_85
          · skip
            refine lv_if_ne (tgt := 48) hx hb dX9_herd_43 (by decide) (fun h9 => absurd (by decide) h9) (fun _ => ?_)
            refine lv_iconst (v := 0) hx hb dX9_herd_46 (by decide) ?_
            exact gs_iret hx hb hr hlocks hM hS (by decide) ⟨hB_st, (Or.inr (⟨rfl, (by have hl0 : (0 : Int32).toInt = 0 := (by decide); omega), (rfl)⟩))⟩ (by exact Nat.le_refl _) (by exact Nat.le_refl _) dX9_herd_47
        · skip
          refine lv_if_eq (tgt := 46) hx hb dX9_herd_32 (by decide) (fun _ => ?_) (fun h9 => absurd (by decide) h9)
          refine lv_iconst (v := 0) hx hb dX9_herd_46 (by decide) ?_
          exact gs_iret hx hb hr hlocks hM hS (by decide) ⟨hB_st, (Or.inr (⟨rfl, (by have hl0 : (0 : Int32).toInt = 0 := (by decide); omega), (rfl)⟩))⟩ (by exact Nat.le_refl _) (by exact Nat.le_refl _) dX9_herd_47
      · skip
        refine lv_if_ne (tgt := 25) hx hb dX9_herd_20 (by decide) (fun h9 => absurd (by decide) h9) (fun _ => ?_)
        refine lv_iconst (v := 0) hx hb dX9_herd_23 (by decide) ?_
        exact gs_iret hx hb hr hlocks hM hS (by decide) ⟨hB_st, (Or.inr (⟨rfl, (by have hl0 : (0 : Int32).toInt = 0 := (by decide); omega), (rfl)⟩))⟩ (by exact Nat.le_refl _) (by exact Nat.le_refl _) dX9_herd_24
    · skip
      refine lv_if_eq (tgt := 23) hx hb dX9_herd_11 (by decide) (fun _ => ?_) (fun h9 => absurd (by decide) h9)
      refine lv_iconst (v := 0) hx hb dX9_herd_23 (by decide) ?_
      exact gs_iret hx hb hr hlocks hM hS (by decide) ⟨hB_st, (Or.inr (⟨rfl, (by have hl0 : (0 : Int32).toInt = 0 := (by decide); omega), (rfl)⟩))⟩ (by exact Nat.le_refl _) (by exact Nat.le_refl _) dX9_herd_24
  · skip
    refine lv_if_eq (tgt := 23) hx hb dX9_herd_4 (by decide) (fun _ => ?_) (fun h9 => absurd (by decide) h9)
    refine lv_iconst (v := 0) hx hb dX9_herd_23 (by decide) ?_
    exact gs_iret hx hb hr hlocks hM hS (by decide) ⟨hB_st, (Or.inr (⟨rfl, (by have hl0 : (0 : Int32).toInt = 0 := (by decide); omega), (rfl)⟩))⟩ (by exact Nat.le_refl _) (by exact Nat.le_refl _) dX9_herd_24

set_option maxHeartbeats 4000000 in
set_option maxRecDepth 100000 in
/-- WellCourt.drop -/
theorem s_drop (l : Launch) (G : va_G) (cy : Nat → ClassId) (sK sV : Nat → Nat) (ad : Nat → Nat → Nat) (sz : Nat) (st : gS) (hB : gBd bX st) (x : Int32) (Xx : Int) (kx : x.toInt = Xx) : gsMi l yX9_drop cX9_drop 2 (some .boolean) ({ frames := 1, cells := 0, slots := 0, locals := 21 } : Room) G cy sK sV (shX cy ad) cnX ad sz [.ref (ad 0 0), .int x] st (fun (r : Int32) (u : gS) => gBN bX kX [2000] st u ∧ ((r = 1 ∧ (0 ≤ Xx) ∧ (Xx ≤ 3) ∧ (¬ (st 20 0 x.toNatClampNeg).toInt = -1) ∧ (u 20 0 = upd (st 20 0) x.toNatClampNeg (-1))) ∨ (r = 0 ∧ (Xx < 0 ∨ 3 < Xx ∨ (st 20 0 x.toNatClampNeg).toInt = -1) ∧ (u 20 0 = st 20 0)))) := by
  refine gs_start (fun A => gsQi G (shX cy ad) cnX ad _ A) (by decide) (Nat.le_of_ble_eq_true rfl) ?_
  intro p e s m below meth c A ls H hx hb hr hml hlocks hown hts hK hov hE hI hM hm hS hA hl
  have hl : lv_has ls 2 [(0, .ref (ad 0 0)), (1, .int x)] := hl
  have hB_st : gBN bX kX [2000] st st := gBN.rf hB
  refine lv_iload_n hx hb dX9_drop_0 rfl (lv_at hl 1 rfl) ?_
  refine gs_calli (va_runS (As := [.int x]) (rest := []) ⟨hx, hb, hml, hown, hts⟩ (s_isHerd l G cy sK sV ad H.size st hB_st.1 x x.toInt rfl ) ⟨(gz_cb (n := 1) hts gm_693 gm_1 gm_695 ⟨by decide +kernel, by decide +kernel, by decide +kernel⟩ ⟨Nat.le_of_ble_eq_true rfl, Nat.le_of_ble_eq_true rfl⟩), hts _ gm_694⟩ (gs_preS hK hov hE hI hM hm hS hA) rfl rfl hl.1 rfl (lv_room (Nat.le_of_ble_eq_true rfl)) dX9_drop_1 ⟨Nat.le_of_ble_eq_true rfl, Nat.le_of_ble_eq_true rfl⟩) hm hS hA (fun r_1 st_1 H locs hw_1 hM hS => ?_)
  obtain ⟨n_1, hw_1⟩ := hw_1
  have n_1 := gBN.nil n_1
  subst n_1
  rcases hw_1 with ⟨rfl, hw_1_0, hw_1_1⟩ | ⟨rfl, hw_1_0⟩
  · skip
    refine lv_if_eq (tgt := 18) hx hb dX9_drop_4 (by decide) (fun h9 => absurd h9 (by decide)) (fun _ => ?_)
    refine lv_aload_n hx hb dX9_drop_7 rfl (lv_at hl 0 rfl) ?_
    refine gs_get (C := RX9) (T := TX9) (N := 12) hx hb hts inX9 hown hK hM 0 0 6 (by decide) rfl rfl (by decide) (hts _ gm_297) (fun _ h9 => h9) rfl dX9_drop_8 ?_
    refine lv_iload_n hx hb dX9_drop_11 rfl (lv_at hl 1 rfl) ?_
    refine gs_calli (va_runV (As := [.int x]) (rest := []) ⟨hx, hb, hml, hown, hts⟩ (s_X2_isThere l G cy sK sV ad H.size st hB_st.1 x x.toInt rfl (by first | decide | omega) (by first | decide | omega)) ⟨(gz_cb (n := 1) hts gm_704 gm_9 gm_707 ⟨by decide +kernel, by decide +kernel, by decide +kernel⟩ ⟨Nat.le_of_ble_eq_true rfl, Nat.le_of_ble_eq_true rfl⟩), hts _ gm_705, hts _ gm_706⟩ (gs_preV hK hov hE hI hM hm hS hA 19 0 (by decide) rfl rfl) rfl rfl hl.1 rfl (lv_room (Nat.le_of_ble_eq_true rfl)) dX9_drop_12 ⟨Nat.le_of_ble_eq_true rfl, Nat.le_of_ble_eq_true rfl⟩) hm hS hA (fun r_2 st_2 H locs hw_2 hM hS => ?_)
    obtain ⟨n_2, hw_2⟩ := hw_2
    have n_2 := gBN.nil n_2
    subst n_2
    rcases hw_2 with ⟨rfl, hw_2_0⟩ | ⟨rfl, hw_2_0⟩
    · skip
      refine lv_if_ne (tgt := 20) hx hb dX9_drop_15 (by decide) (fun _ => ?_) (fun h9 => absurd h9 (by decide))
      refine lv_aload_n hx hb dX9_drop_20 rfl (lv_at hl 0 rfl) ?_
      refine gs_get (C := RX9) (T := TX9) (N := 12) hx hb hts inX9 hown hK hM 0 0 6 (by decide) rfl rfl (by decide) (hts _ gm_297) (fun _ h9 => h9) rfl dX9_drop_21 ?_
      refine gs_getN (host := "WellCourt") (C := RX2) (T := TX2) (N := 5) hx hb hts inX2 hown hK hM 19 0 0 (by decide) rfl rfl (by decide) (va_Nw.use rfl (hov.2.2 _ gn_159)) (fun _ h9 => h9) rfl dX9_drop_24 ?_
      refine lv_iload_n hx hb dX9_drop_27 rfl (lv_at hl 1 rfl) ?_
      refine lv_iconst (v := (-1)) hx hb dX9_drop_28 (by decide) ?_
      refine gs_iast hx hb hK hI hm hM hS 20 0 (by decide) (fun _ => rfl) (vp_in_iff.mpr ⟨by omega, by omega⟩) dX9_drop_29 (fun st_3 H locs est_3 hM hS => ?_)
      have hB_st_3 : gBN bX kX [2000] st st_3 := by rw [est_3]; exact hB_st.up (show (2000 : Nat) ∈ _ from by decide) (gi_lo _) (gi_hi _)
      refine lv_iconst (v := 1) hx hb dX9_drop_30 (by decide) ?_
      exact gs_iret hx hb hr hlocks hM hS (by decide) ⟨hB_st_3, (Or.inl (⟨rfl, (by have hl0 : (1 : Int32).toInt = 1 := (by decide); omega), (by have hl0 : (1 : Int32).toInt = 1 := (by decide); omega), (by have hl0 : (1 : Int32).toInt = 1 := (by decide); omega), (((congrFun (congrFun est_3 20) 0).trans ((gU_at _ _ _ _ _).trans (congrArg (fun f9 => upd f9 (x.toNatClampNeg) ((-1) : Int32)) rfl))))⟩))⟩ (by exact Nat.le_refl _) (by exact Nat.le_refl _) dX9_drop_31
    · skip
      refine lv_if_ne (tgt := 20) hx hb dX9_drop_15 (by decide) (fun h9 => absurd (by decide) h9) (fun _ => ?_)
      refine lv_iconst (v := 0) hx hb dX9_drop_18 (by decide) ?_
      exact gs_iret hx hb hr hlocks hM hS (by decide) ⟨hB_st, (Or.inr (⟨rfl, (by have hl0 : (0 : Int32).toInt = 0 := (by decide); omega), (rfl)⟩))⟩ (by exact Nat.le_refl _) (by exact Nat.le_refl _) dX9_drop_19
  · skip
    refine lv_if_eq (tgt := 18) hx hb dX9_drop_4 (by decide) (fun _ => ?_) (fun h9 => absurd (by decide) h9)
    refine lv_iconst (v := 0) hx hb dX9_drop_18 (by decide) ?_
    exact gs_iret hx hb hr hlocks hM hS (by decide) ⟨hB_st, (Or.inr (⟨rfl, (by have hl0 : (0 : Int32).toInt = 0 := (by decide); omega), (rfl)⟩))⟩ (by exact Nat.le_refl _) (by exact Nat.le_refl _) dX9_drop_19

set_option maxHeartbeats 4000000 in
set_option maxRecDepth 100000 in
/-- WellCourt.way -/
theorem s_way (l : Launch) (G : va_G) (cy : Nat → ClassId) (sK sV : Nat → Nat) (ad : Nat → Nat → Nat) (sz : Nat) (st : gS) (hB : gBd bX st) (x : Int32) (y : Int32) (w : Int32) (Xx : Int) (Xy : Int) (Xw : Int) (kx : x.toInt = Xx) (ky : y.toInt = Xy) (kw : w.toInt = Xw) : gsMi l yX9_way cX9_way 4 (some .boolean) ({ frames := 1, cells := 0, slots := 0, locals := 22 } : Room) G cy sK sV (shX cy ad) cnX ad sz [.ref (ad 0 0), .int x, .int y, .int w] st (fun (r : Int32) (u : gS) => gBN bX kX [800] st u ∧ ((r = 1 ∧ (0 ≤ Xx ∧ Xx ≤ 5 ∧ 0 ≤ Xy ∧ Xy ≤ 5 ∧ ¬ Xx = Xy ∧ 0 ≤ Xw ∧ Xw ≤ 9)) ∨ (r = 0 ∧ (¬ (0 ≤ Xx ∧ Xx ≤ 5 ∧ 0 ≤ Xy ∧ Xy ≤ 5 ∧ ¬ Xx = Xy ∧ 0 ≤ Xw ∧ Xw ≤ 9))))) := by
  refine gs_start (fun A => gsQi G (shX cy ad) cnX ad _ A) (by decide) (Nat.le_of_ble_eq_true rfl) ?_
  intro p e s m below meth c A ls H hx hb hr hml hlocks hown hts hK hov hE hI hM hm hS hA hl
  have hl : lv_has ls 4 [(0, .ref (ad 0 0)), (1, .int x), (2, .int y), (3, .int w)] := hl
  have hB_st : gBN bX kX [800] st st := gBN.rf hB
  refine lv_iload_n hx hb dX9_way_0 rfl (lv_at hl 1 rfl) ?_
  refine gs_calli (va_runS (As := [.int x]) (rest := []) ⟨hx, hb, hml, hown, hts⟩ (s_isWell l G cy sK sV ad H.size st hB_st.1 x x.toInt rfl ) ⟨(gz_cb (n := 1) hts gm_344 gm_1 gm_346 ⟨by decide +kernel, by decide +kernel, by decide +kernel⟩ ⟨Nat.le_of_ble_eq_true rfl, Nat.le_of_ble_eq_true rfl⟩), hts _ gm_345⟩ (gs_preS hK hov hE hI hM hm hS hA) rfl rfl hl.1 rfl (lv_room (Nat.le_of_ble_eq_true rfl)) dX9_way_1 ⟨Nat.le_of_ble_eq_true rfl, Nat.le_of_ble_eq_true rfl⟩) hm hS hA (fun r_1 st_1 H locs hw_1 hM hS => ?_)
  obtain ⟨n_1, hw_1⟩ := hw_1
  have n_1 := gBN.nil n_1
  subst n_1
  rcases hw_1 with ⟨rfl, hw_1_0, hw_1_1⟩ | ⟨rfl, hw_1_0⟩
  · skip
    refine lv_if_eq (tgt := 29) hx hb dX9_way_4 (by decide) (fun h9 => absurd h9 (by decide)) (fun _ => ?_)
    refine lv_iload_n hx hb dX9_way_7 rfl (lv_at hl 2 rfl) ?_
    refine gs_calli (va_runS (As := [.int y]) (rest := []) ⟨hx, hb, hml, hown, hts⟩ (s_isWell l G cy sK sV ad H.size st hB_st.1 y y.toInt rfl ) ⟨(gz_cb (n := 1) hts gm_344 gm_1 gm_346 ⟨by decide +kernel, by decide +kernel, by decide +kernel⟩ ⟨Nat.le_of_ble_eq_true rfl, Nat.le_of_ble_eq_true rfl⟩), hts _ gm_345⟩ (gs_preS hK hov hE hI hM hm hS hA) rfl rfl hl.1 rfl (lv_room (Nat.le_of_ble_eq_true rfl)) dX9_way_8 ⟨Nat.le_of_ble_eq_true rfl, Nat.le_of_ble_eq_true rfl⟩) hm hS hA (fun r_2 st_2 H locs hw_2 hM hS => ?_)
    obtain ⟨n_2, hw_2⟩ := hw_2
    have n_2 := gBN.nil n_2
    subst n_2
    rcases hw_2 with ⟨rfl, hw_2_0, hw_2_1⟩ | ⟨rfl, hw_2_0⟩
    · skip
      refine lv_if_eq (tgt := 29) hx hb dX9_way_11 (by decide) (fun h9 => absurd h9 (by decide)) (fun _ => ?_)
      refine lv_iload_n hx hb dX9_way_14 rfl (lv_at hl 1 rfl) ?_
      refine lv_iload_n hx hb dX9_way_15 rfl (lv_at hl 2 rfl) ?_
      refine lv_icmp_eq (tgt := 29) hx hb dX9_way_16 (by decide) (fun c_3 => ?_) (fun c_3 => ?_)
      · have ic_3 := gz_eq (rfl : x.toInt = x.toInt) (rfl : y.toInt = y.toInt) c_3
        refine lv_iconst (v := 0) hx hb dX9_way_29 (by decide) ?_
        exact gs_iret hx hb hr hlocks hM hS (by decide) ⟨hB_st, (Or.inr (⟨rfl, (by have hl0 : (0 : Int32).toInt = 0 := (by decide); omega)⟩))⟩ (by exact Nat.le_refl _) (by exact Nat.le_refl _) dX9_way_30
      · have ic_3 := gz_ne (rfl : x.toInt = x.toInt) (rfl : y.toInt = y.toInt) c_3
        refine lv_iload_n hx hb dX9_way_19 rfl (lv_at hl 3 rfl) ?_
        refine lv_iconst (v := 0) hx hb dX9_way_20 (by decide) ?_
        refine lv_bipush (v := 9) hx hb dX9_way_21 (by decide) ?_
        refine gs_calli (va_runS (As := [.int w, .int 0, .int 9]) (rest := []) ⟨hx, hb, hml, hown, hts⟩ (s_isWithin l G cy sK sV ad H.size st hB_st.1 w (0 : Int32) (9 : Int32) w.toInt 0 9 rfl (by decide) (by decide) ) ⟨(gz_cb (n := 3) hts gm_351 gm_1 gm_353 ⟨by decide +kernel, by decide +kernel, by decide +kernel⟩ ⟨Nat.le_of_ble_eq_true rfl, Nat.le_of_ble_eq_true rfl⟩), hts _ gm_352⟩ (gs_preS hK hov hE hI hM hm hS hA) rfl rfl hl.1 rfl (lv_room (Nat.le_of_ble_eq_true rfl)) dX9_way_23 ⟨Nat.le_of_ble_eq_true rfl, Nat.le_of_ble_eq_true rfl⟩) hm hS hA (fun r_4 st_4 H locs hw_4 hM hS => ?_)
        obtain ⟨n_4, hw_4⟩ := hw_4
        have n_4 := gBN.nil n_4
        subst n_4
        rcases hw_4 with ⟨rfl, hw_4_0, hw_4_1⟩ | ⟨rfl, hw_4_0⟩
        · skip
          refine lv_if_ne (tgt := 31) hx hb dX9_way_26 (by decide) (fun _ => ?_) (fun h9 => absurd h9 (by decide))
          refine lv_aload_n hx hb dX9_way_31 rfl (lv_at hl 0 rfl) ?_
          refine gs_get (C := RX9) (T := TX9) (N := 12) hx hb hts inX9 hown hK hM 0 0 2 (by decide) rfl rfl (by decide) (hts _ gm_293) (fun _ h9 => h9) rfl dX9_way_32 ?_
          refine gs_getN (host := "WellCourt") (C := RX3) (T := TX3) (N := 3) hx hb hts inX3 hown hK hM 4 0 2 (by decide) rfl rfl (by decide) (va_Nw.use rfl (hov.2.2 _ gn_90)) (fun _ h9 => h9) rfl dX9_way_35 ?_
          refine lv_iload_n hx hb dX9_way_38 rfl (lv_at hl 1 rfl) ?_
          have h_5 : x.toNatClampNeg < 6 := gs_lt (vp_in_iff.mpr ⟨by omega, by omega⟩)
          refine gs_alda hx hb hK hM 7 0 (by decide) rfl (vp_in_iff.mpr ⟨by omega, by omega⟩) (a := ad 8 x.toNatClampNeg) (if_pos h_5) dX9_way_39 ?_
          refine lv_iload_n hx hb dX9_way_40 rfl (lv_at hl 2 rfl) ?_
          refine lv_iload_n hx hb dX9_way_41 rfl (lv_at hl 3 rfl) ?_
          refine gs_iast hx hb hK hI hm hM hS 8 x.toNatClampNeg h_5 (fun _ => rfl) (vp_in_iff.mpr ⟨by omega, by omega⟩) dX9_way_42 (fun st_6 H locs est_6 hM hS => ?_)
          have hB_st_6 : gBN bX kX [800] st st_6 := by rw [est_6]; exact hB_st.up (show (800 : Nat) ∈ _ from by decide) (gi_lo _) (gi_hi _)
          refine lv_iconst (v := 1) hx hb dX9_way_43 (by decide) ?_
          exact gs_iret hx hb hr hlocks hM hS (by decide) ⟨hB_st_6, (Or.inl (⟨rfl, (by have hl0 : (1 : Int32).toInt = 1 := (by decide); omega)⟩))⟩ (by exact Nat.le_refl _) (by exact Nat.le_refl _) dX9_way_44
        · skip
          refine lv_if_ne (tgt := 31) hx hb dX9_way_26 (by decide) (fun h9 => absurd (by decide) h9) (fun _ => ?_)
          refine lv_iconst (v := 0) hx hb dX9_way_29 (by decide) ?_
          exact gs_iret hx hb hr hlocks hM hS (by decide) ⟨hB_st, (Or.inr (⟨rfl, (by have hl0 : (0 : Int32).toInt = 0 := (by decide); omega)⟩))⟩ (by exact Nat.le_refl _) (by exact Nat.le_refl _) dX9_way_30
    · skip
      refine lv_if_eq (tgt := 29) hx hb dX9_way_11 (by decide) (fun _ => ?_) (fun h9 => absurd (by decide) h9)
      refine lv_iconst (v := 0) hx hb dX9_way_29 (by decide) ?_
      exact gs_iret hx hb hr hlocks hM hS (by decide) ⟨hB_st, (Or.inr (⟨rfl, (by have hl0 : (0 : Int32).toInt = 0 := (by decide); omega)⟩))⟩ (by exact Nat.le_refl _) (by exact Nat.le_refl _) dX9_way_30
  · skip
    refine lv_if_eq (tgt := 29) hx hb dX9_way_4 (by decide) (fun _ => ?_) (fun h9 => absurd (by decide) h9)
    refine lv_iconst (v := 0) hx hb dX9_way_29 (by decide) ?_
    exact gs_iret hx hb hr hlocks hM hS (by decide) ⟨hB_st, (Or.inr (⟨rfl, (by have hl0 : (0 : Int32).toInt = 0 := (by decide); omega)⟩))⟩ (by exact Nat.le_refl _) (by exact Nat.le_refl _) dX9_way_30

set_option maxHeartbeats 4000000 in
set_option maxRecDepth 100000 in
/-- WellCourt.step -/
theorem s_step (l : Launch) (G : va_G) (cy : Nat → ClassId) (sK sV : Nat → Nat) (ad : Nat → Nat → Nat) (sz : Nat) (st : gS) (hB : gBd bX st) (x : Int32) (y : Int32) (Xx : Int) (Xy : Int) (kx : x.toInt = Xx) (ky : y.toInt = Xy) : gsMi l yX9_step cX9_step 3 (some .int) ({ frames := 2, cells := 0, slots := 0, locals := 42 } : Room) G cy sK sV (shX cy ad) cnX ad sz [.ref (ad 0 0), .int x, .int y] st (fun (r : Int32) (u : gS) => gBN bX kX [] st u ∧ (True)) := by
  refine gs_start (fun A => gsQi G (shX cy ad) cnX ad _ A) (by decide) (Nat.le_of_ble_eq_true rfl) ?_
  intro p e s m below meth c A ls H hx hb hr hml hlocks hown hts hK hov hE hI hM hm hS hA hl
  have hl : lv_has ls 3 [(0, .ref (ad 0 0)), (1, .int x), (2, .int y)] := hl
  have hB_st : gBN bX kX [] st st := gBN.rf hB
  refine lv_aload_n hx hb dX9_step_0 rfl (lv_at hl 0 rfl) ?_
  refine gs_get (C := RX9) (T := TX9) (N := 12) hx hb hts inX9 hown hK hM 0 0 9 (by decide) rfl rfl (by decide) (hts _ gm_300) (fun _ h9 => h9) rfl dX9_step_1 ?_
  refine lv_iload_n hx hb dX9_step_4 rfl (lv_at hl 1 rfl) ?_
  refine lv_iload_n hx hb dX9_step_5 rfl (lv_at hl 2 rfl) ?_
  refine gs_calli (va_runV (As := [.int x, .int y]) (rest := []) ⟨hx, hb, hml, hown, hts⟩ (s_X6_actOf l G cy sK sV ad H.size st hB_st.1 x y x.toInt y.toInt rfl rfl ) ⟨(gz_cb (n := 2) hts gm_716 gm_11 gm_719 ⟨by decide +kernel, by decide +kernel, by decide +kernel⟩ ⟨Nat.le_of_ble_eq_true rfl, Nat.le_of_ble_eq_true rfl⟩), hts _ gm_717, hts _ gm_718⟩ (gs_preV hK hov hE hI hM hm hS hA 38 0 (by decide) rfl rfl) rfl rfl hl.1 rfl (lv_room (Nat.le_of_ble_eq_true rfl)) dX9_step_6 ⟨Nat.le_of_ble_eq_true rfl, Nat.le_of_ble_eq_true rfl⟩) hm hS hA (fun r_1 st_1 H locs hw_1 hM hS => ?_)
  obtain ⟨n_1, hw_1⟩ := hw_1
  have n_1 := gBN.nil n_1
  subst n_1
  exact gs_iret hx hb hr hlocks hM hS rfl ⟨hB_st, trivial⟩ (by exact Nat.le_refl _) (by exact Nat.le_refl _) dX9_step_9

set_option maxHeartbeats 4000000 in
set_option maxRecDepth 100000 in
/-- WellCourt.far -/
theorem s_far (l : Launch) (G : va_G) (cy : Nat → ClassId) (sK sV : Nat → Nat) (ad : Nat → Nat → Nat) (sz : Nat) (st : gS) (hB : gBd bX st) : gsMi l yX9_far cX9_far 1 (some .int) ({ frames := 0, cells := 0, slots := 0, locals := 0 } : Room) G cy sK sV (shX cy ad) cnX ad sz [.ref (ad 0 0)] st (fun (r : Int32) (u : gS) => gBN bX kX [] st u ∧ (True)) := by
  refine gs_start (fun A => gsQi G (shX cy ad) cnX ad _ A) (by decide) (Nat.le_of_ble_eq_true rfl) ?_
  intro p e s m below meth c A ls H hx hb hr hml hlocks hown hts hK hov hE hI hM hm hS hA hl
  have hl : lv_has ls 1 [(0, .ref (ad 0 0))] := hl
  have hB_st : gBN bX kX [] st st := gBN.rf hB
  refine lv_aload_n hx hb dX9_far_0 rfl (lv_at hl 0 rfl) ?_
  refine gs_get (C := RX9) (T := TX9) (N := 12) hx hb hts inX9 hown hK hM 0 0 9 (by decide) rfl rfl (by decide) (hts _ gm_300) (fun _ h9 => h9) rfl dX9_far_1 ?_
  refine gs_getN (host := "WellCourt") (C := RX6) (T := TX6) (N := 15) hx hb hts inX6 hown hK hM 38 0 11 (by decide) rfl rfl (by decide) (va_Nw.use rfl (hov.2.2 _ gn_256)) (fun _ h9 => h9) rfl dX9_far_4 ?_
  exact gs_iret hx hb hr hlocks hM hS rfl ⟨hB_st, trivial⟩ (by exact Nat.le_refl _) (by exact Nat.le_refl _) dX9_far_7

set_option maxHeartbeats 4000000 in
set_option maxRecDepth 100000 in
/-- WellCourt.count -/
theorem s_count (l : Launch) (G : va_G) (cy : Nat → ClassId) (sK sV : Nat → Nat) (ad : Nat → Nat → Nat) (sz : Nat) (st : gS) (hB : gBd bX st) (x : Int32) (Xx : Int) (kx : x.toInt = Xx) : gsMi l yX9_count cX9_count 2 (some .int) ({ frames := 2, cells := 0, slots := 0, locals := 43 } : Room) G cy sK sV (shX cy ad) cnX ad sz [.ref (ad 0 0), .int x] st (fun (r : Int32) (u : gS) => gBN bX kX [] st u ∧ (True)) := by
  refine gs_start (fun A => gsQi G (shX cy ad) cnX ad _ A) (by decide) (Nat.le_of_ble_eq_true rfl) ?_
  intro p e s m below meth c A ls H hx hb hr hml hlocks hown hts hK hov hE hI hM hm hS hA hl
  have hl : lv_has ls 2 [(0, .ref (ad 0 0)), (1, .int x)] := hl
  have hB_st : gBN bX kX [] st st := gBN.rf hB
  refine lv_iload_n hx hb dX9_count_0 rfl (lv_at hl 1 rfl) ?_
  rcases (show x.toInt < 0 ∨ 6 < x.toInt ∨ x.toInt = 0 ∨ x.toInt = 1 ∨ x.toInt = 2 ∨ x.toInt = 3 ∨ x.toInt = 4 ∨ x.toInt = 5 ∨ x.toInt = 6 by omega) with h_1 | h_1 | h_1 | h_1 | h_1 | h_1 | h_1 | h_1 | h_1
  · refine lv_tableOut (tgt := 97) hx hb dX9_count_1 (Or.inl h_1) (by decide) ?_
    refine lv_iconst (v := (-1)) hx hb dX9_count_97 (by decide) ?_
    exact gs_iret hx hb hr hlocks hM hS rfl ⟨hB_st, trivial⟩ (by exact Nat.le_refl _) (by exact Nat.le_refl _) dX9_count_98
  · refine lv_tableOut (tgt := 97) hx hb dX9_count_1 (Or.inr h_1) (by decide) ?_
    refine lv_iconst (v := (-1)) hx hb dX9_count_97 (by decide) ?_
    exact gs_iret hx hb hr hlocks hM hS rfl ⟨hB_st, trivial⟩ (by exact Nat.le_refl _) (by exact Nat.le_refl _) dX9_count_98
  · refine lv_tableIn (tgt := 44) hx hb dX9_count_1 (by omega) (by omega) (by rw [h_1]; rfl) (by decide) ?_
    refine lv_aload_n hx hb dX9_count_44 rfl (lv_at hl 0 rfl) ?_
    refine gs_get (C := RX9) (T := TX9) (N := 12) hx hb hts inX9 hown hK hM 0 0 10 (by decide) rfl rfl (by decide) (hts _ gm_301) (fun _ h9 => h9) rfl dX9_count_45 ?_
    have bf_2 : (0 : Int) ≤ (st 0 0 10).toInt ∧ (st 0 0 10).toInt ≤ (199 : Int) := hB_st.1 0 0 10
    exact gs_iret hx hb hr hlocks hM hS rfl ⟨hB_st, trivial⟩ (by exact Nat.le_refl _) (by exact Nat.le_refl _) dX9_count_48
  · refine lv_tableIn (tgt := 49) hx hb dX9_count_1 (by omega) (by omega) (by rw [h_1]; rfl) (by decide) ?_
    refine lv_aload_n hx hb dX9_count_49 rfl (lv_at hl 0 rfl) ?_
    refine gs_get (C := RX9) (T := TX9) (N := 12) hx hb hts inX9 hown hK hM 0 0 2 (by decide) rfl rfl (by decide) (hts _ gm_293) (fun _ h9 => h9) rfl dX9_count_50 ?_
    refine gs_calli (va_runV (As := []) (rest := []) ⟨hx, hb, hml, hown, hts⟩ (s_X3_size l G cy sK sV ad H.size st hB_st.1  ) ⟨(gz_cb (n := 0) hts gm_729 gm_4 gm_732 ⟨by decide +kernel, by decide +kernel, by decide +kernel⟩ ⟨Nat.le_of_ble_eq_true rfl, Nat.le_of_ble_eq_true rfl⟩), hts _ gm_730, hts _ gm_731⟩ (gs_preV hK hov hE hI hM hm hS hA 4 0 (by decide) rfl rfl) rfl rfl hl.1 rfl (lv_room (Nat.le_of_ble_eq_true rfl)) dX9_count_53 ⟨Nat.le_of_ble_eq_true rfl, Nat.le_of_ble_eq_true rfl⟩) hm hS hA (fun r_3 st_3 H locs hw_3 hM hS => ?_)
    obtain ⟨n_3, hw_3⟩ := hw_3
    have n_3 := gBN.nil n_3
    subst n_3
    exact gs_iret hx hb hr hlocks hM hS rfl ⟨hB_st, trivial⟩ (by exact Nat.le_refl _) (by exact Nat.le_refl _) dX9_count_56
  · refine lv_tableIn (tgt := 57) hx hb dX9_count_1 (by omega) (by omega) (by rw [h_1]; rfl) (by decide) ?_
    refine lv_aload_n hx hb dX9_count_57 rfl (lv_at hl 0 rfl) ?_
    refine gs_get (C := RX9) (T := TX9) (N := 12) hx hb hts inX9 hown hK hM 0 0 7 (by decide) rfl rfl (by decide) (hts _ gm_298) (fun _ h9 => h9) rfl dX9_count_58 ?_
    have h_4 : (0 : Int) ≤ (st 0 0 7).toInt ∧ (st 0 0 7).toInt ≤ (1 : Int) := hB_st.1 0 0 7
    refine gs_getN (host := "WellCourt") (C := RX4) (T := TX4) (N := 14) hx hb hts inX4 hown hK hM 25 ((st 0 0 7).toNatClampNeg) 0 (gs_sel h_4) rfl rfl (by decide) (va_Nw.use rfl (hov.2.2 _ gn_190)) (fun _ h9 => h9) rfl dX9_count_61 ?_
    exact gs_iret hx hb hr hlocks hM hS rfl ⟨hB_st, trivial⟩ (by exact Nat.le_refl _) (by exact Nat.le_refl _) dX9_count_64
  · refine lv_tableIn (tgt := 65) hx hb dX9_count_1 (by omega) (by omega) (by rw [h_1]; rfl) (by decide) ?_
    refine lv_aload_n hx hb dX9_count_65 rfl (lv_at hl 0 rfl) ?_
    refine gs_get (C := RX9) (T := TX9) (N := 12) hx hb hts inX9 hown hK hM 0 0 6 (by decide) rfl rfl (by decide) (hts _ gm_297) (fun _ h9 => h9) rfl dX9_count_66 ?_
    refine gs_calli (va_runV (As := []) (rest := []) ⟨hx, hb, hml, hown, hts⟩ (s_X2_size l G cy sK sV ad H.size st hB_st.1  ) ⟨(gz_cb (n := 0) hts gm_734 gm_9 gm_737 ⟨by decide +kernel, by decide +kernel, by decide +kernel⟩ ⟨Nat.le_of_ble_eq_true rfl, Nat.le_of_ble_eq_true rfl⟩), hts _ gm_735, hts _ gm_736⟩ (gs_preV hK hov hE hI hM hm hS hA 19 0 (by decide) rfl rfl) rfl rfl hl.1 rfl (lv_room (Nat.le_of_ble_eq_true rfl)) dX9_count_69 ⟨Nat.le_of_ble_eq_true rfl, Nat.le_of_ble_eq_true rfl⟩) hm hS hA (fun r_6 st_6 H locs hw_6 hM hS => ?_)
    obtain ⟨n_6, hw_6⟩ := hw_6
    have n_6 := gBN.nil n_6
    subst n_6
    exact gs_iret hx hb hr hlocks hM hS rfl ⟨hB_st, trivial⟩ (by exact Nat.le_refl _) (by exact Nat.le_refl _) dX9_count_72
  · refine lv_tableIn (tgt := 73) hx hb dX9_count_1 (by omega) (by omega) (by rw [h_1]; rfl) (by decide) ?_
    refine lv_aload_n hx hb dX9_count_73 rfl (lv_at hl 0 rfl) ?_
    refine gs_get (C := RX9) (T := TX9) (N := 12) hx hb hts inX9 hown hK hM 0 0 5 (by decide) rfl rfl (by decide) (hts _ gm_296) (fun _ h9 => h9) rfl dX9_count_74 ?_
    refine gs_getN (host := "WellCourt") (C := RX5) (T := TX5) (N := 2) hx hb hts inX5 hown hK hM 16 0 1 (by decide) rfl rfl (by decide) (va_Nw.use rfl (hov.2.2 _ gn_144)) (fun _ h9 => h9) rfl dX9_count_77 ?_
    have bf_7 : (0 : Int) ≤ (st 16 0 1).toInt ∧ (st 16 0 1).toInt ≤ (300 : Int) := hB_st.1 16 0 1
    exact gs_iret hx hb hr hlocks hM hS rfl ⟨hB_st, trivial⟩ (by exact Nat.le_refl _) (by exact Nat.le_refl _) dX9_count_80
  · refine lv_tableIn (tgt := 81) hx hb dX9_count_1 (by omega) (by omega) (by rw [h_1]; rfl) (by decide) ?_
    refine lv_aload_n hx hb dX9_count_81 rfl (lv_at hl 0 rfl) ?_
    refine gs_get (C := RX9) (T := TX9) (N := 12) hx hb hts inX9 hown hK hM 0 0 0 (by decide) rfl rfl (by decide) (hts _ gm_291) (fun _ h9 => h9) rfl dX9_count_82 ?_
    refine gs_getN (host := "WellCourt") (C := RX8) (T := TX8) (N := 2) hx hb hts inX8 hown hK hM 1 0 1 (by decide) rfl rfl (by decide) (va_Nw.use rfl (hov.2.2 _ gn_40)) (fun _ h9 => h9) rfl dX9_count_85 ?_
    have bf_8 : (0 : Int) ≤ (st 1 0 1).toInt ∧ (st 1 0 1).toInt ≤ (800 : Int) := hB_st.1 1 0 1
    exact gs_iret hx hb hr hlocks hM hS rfl ⟨hB_st, trivial⟩ (by exact Nat.le_refl _) (by exact Nat.le_refl _) dX9_count_88
  · refine lv_tableIn (tgt := 89) hx hb dX9_count_1 (by omega) (by omega) (by rw [h_1]; rfl) (by decide) ?_
    refine lv_aload_n hx hb dX9_count_89 rfl (lv_at hl 0 rfl) ?_
    refine gs_get (C := RX9) (T := TX9) (N := 12) hx hb hts inX9 hown hK hM 0 0 9 (by decide) rfl rfl (by decide) (hts _ gm_300) (fun _ h9 => h9) rfl dX9_count_90 ?_
    refine gs_getN (host := "WellCourt") (C := RX6) (T := TX6) (N := 15) hx hb hts inX6 hown hK hM 38 0 10 (by decide) rfl rfl (by decide) (va_Nw.use rfl (hov.2.2 _ gn_254)) (fun _ h9 => h9) rfl dX9_count_93 ?_
    exact gs_iret hx hb hr hlocks hM hS rfl ⟨hB_st, trivial⟩ (by exact Nat.le_refl _) (by exact Nat.le_refl _) dX9_count_96
