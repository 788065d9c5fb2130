theorem gm_291 : (Jvm.Cond.fieldLink "WellCourt" (10 : Nat) "WellCourt" "tape" "LWellCourt$Tape;") ∈ gz_T := gz_at 291 (by decide +kernel) rfl
theorem gm_294 : (Jvm.Cond.fieldLink "WellCourt" (35 : Nat) "WellCourt" "calendar" "LWellCourt$Calendar;") ∈ gz_T := gz_at 294 (by decide +kernel) rfl
theorem gm_332 : (Jvm.Cond.methodLink "WellCourt" (89 : Nat) ({ cls := "WellCourt$Tape", name := "append", desc := "(I)V" } : Jvm.MethodName)) ∈ gz_T := gz_at 332 (by decide +kernel) rfl
theorem gm_333 : (Jvm.Cond.instanceMethod ({ cls := "WellCourt$Tape", name := "append", desc := "(I)V" } : Jvm.MethodName)) ∈ gz_T := gz_at 333 (by decide +kernel) rfl
theorem gm_334 : (Jvm.Cond.selects "WellCourt$Tape" ({ cls := "WellCourt$Tape", name := "append", desc := "(I)V" } : Jvm.MethodName) ({ cls := "WellCourt$Tape", name := "append", desc := "(I)V" } : Jvm.MethodName)) ∈ gz_T := gz_at 334 (by decide +kernel) rfl
theorem gm_335 : (Jvm.Cond.code ({ cls := "WellCourt$Tape", name := "append", desc := "(I)V" } : Jvm.MethodName) prog_10_method_2_code (3 : Nat) (Option.none : Option Jvm.ClassFile.FieldType)) ∈ gz_T := gz_at 335 (by decide +kernel) rfl
theorem gm_595 : (Jvm.Cond.methodLink "WellCourt" (147 : Nat) ({ cls := "WellCourt$Calendar", name := "ownerOn", desc := "(II)I" } : Jvm.MethodName)) ∈ gz_T := gz_at 595 (by decide +kernel) rfl
theorem gm_630 : (Jvm.Cond.methodLink "WellCourt" (157 : Nat) ({ cls := "WellCourt$Calendar", name := "exchange", desc := "(III)I" } : Jvm.MethodName)) ∈ gz_T := gz_at 630 (by decide +kernel) rfl
theorem gm_631 : (Jvm.Cond.instanceMethod ({ cls := "WellCourt$Calendar", name := "exchange", desc := "(III)I" } : Jvm.MethodName)) ∈ gz_T := gz_at 631 (by decide +kernel) rfl
theorem gm_632 : (Jvm.Cond.selects "WellCourt$Calendar" ({ cls := "WellCourt$Calendar", name := "exchange", desc := "(III)I" } : Jvm.MethodName) ({ cls := "WellCourt$Calendar", name := "exchange", desc := "(III)I" } : Jvm.MethodName)) ∈ gz_T := gz_at 632 (by decide +kernel) rfl
theorem gm_633 : (Jvm.Cond.code ({ cls := "WellCourt$Calendar", name := "exchange", desc := "(III)I" } : Jvm.MethodName) prog_2_method_5_code (6 : Nat) (Option.some Jvm.ClassFile.FieldType.int)) ∈ gz_T := gz_at 633 (by decide +kernel) rfl
theorem gn_40 : (Jvm.Cond.fieldLinkNest "WellCourt" (86 : Nat) "WellCourt$Tape" "size" "I" "WellCourt") ∈ gzN := gz_nest 40 (by decide +kernel) rfl
theorem gn_84 : (Jvm.Cond.fieldLinkNest "WellCourt" (104 : Nat) "WellCourt$Land" "cap" "[I" "WellCourt") ∈ gzN := gz_nest 84 (by decide +kernel) rfl
theorem gn_87 : (Jvm.Cond.fieldLinkNest "WellCourt" (108 : Nat) "WellCourt$Land" "rate" "[I" "WellCourt") ∈ gzN := gz_nest 87 (by decide +kernel) rfl
theorem gn_124 : (Jvm.Cond.fieldLinkNest "WellCourt" (114 : Nat) "WellCourt$Day" "morning" "[I" "WellCourt") ∈ gzN := gz_nest 124 (by decide +kernel) rfl
theorem dX9_end_0 : decode cX9_end 0 = .ok (.iload_n 1, 1) := by decide +kernel
theorem dX9_end_1 : decode cX9_end 1 = .ok (.ifCond .lt 14, 3) := by decide +kernel
theorem dX9_end_4 : decode cX9_end 4 = .ok (.iload_n 1, 1) := by decide +kernel
theorem dX9_end_5 : decode cX9_end 5 = .ok (.aload_n 0, 1) := by decide +kernel
theorem dX9_end_6 : decode cX9_end 6 = .ok (.getfield 10, 3) := by decide +kernel
theorem dX9_end_9 : decode cX9_end 9 = .ok (.getfield 86, 3) := by decide +kernel
theorem dX9_end_12 : decode cX9_end 12 = .ok (.if_icmp .le 5, 3) := by decide +kernel
theorem dX9_end_15 : decode cX9_end 15 = .ok (.iconst 0, 1) := by decide +kernel
theorem dX9_end_16 : decode cX9_end 16 = .ok (.ireturn, 1) := by decide +kernel
theorem dX9_end_17 : decode cX9_end 17 = .ok (.aload_n 0, 1) := by decide +kernel
theorem dX9_end_18 : decode cX9_end 18 = .ok (.getfield 10, 3) := by decide +kernel
theorem dX9_end_21 : decode cX9_end 21 = .ok (.iload_n 1, 1) := by decide +kernel
theorem dX9_end_22 : decode cX9_end 22 = .ok (.putfield 86, 3) := by decide +kernel
theorem dX9_end_25 : decode cX9_end 25 = .ok (.iconst 1, 1) := by decide +kernel
theorem dX9_end_26 : decode cX9_end 26 = .ok (.ireturn, 1) := by decide +kernel
theorem dX9_feed_0 : decode cX9_feed 0 = .ok (.aload_n 0, 1) := by decide +kernel
theorem dX9_feed_1 : decode cX9_feed 1 = .ok (.getfield 10, 3) := by decide +kernel
theorem dX9_feed_4 : decode cX9_feed 4 = .ok (.getfield 86, 3) := by decide +kernel
theorem dX9_feed_7 : decode cX9_feed 7 = .ok (.bipush 20, 2) := by decide +kernel
theorem dX9_feed_9 : decode cX9_feed 9 = .ok (.iadd, 1) := by decide +kernel
theorem dX9_feed_10 : decode cX9_feed 10 = .ok (.sipush 800, 3) := by decide +kernel
theorem dX9_feed_13 : decode cX9_feed 13 = .ok (.if_icmp .le 5, 3) := by decide +kernel
theorem dX9_feed_16 : decode cX9_feed 16 = .ok (.iconst (-1), 1) := by decide +kernel
theorem dX9_feed_17 : decode cX9_feed 17 = .ok (.ireturn, 1) := by decide +kernel
theorem dX9_feed_18 : decode cX9_feed 18 = .ok (.aload_n 0, 1) := by decide +kernel
theorem dX9_feed_19 : decode cX9_feed 19 = .ok (.getfield 10, 3) := by decide +kernel
theorem dX9_feed_22 : decode cX9_feed 22 = .ok (.iload_n 1, 1) := by decide +kernel
theorem dX9_feed_23 : decode cX9_feed 23 = .ok (.invokevirtual 89, 3) := by decide +kernel
theorem dX9_feed_26 : decode cX9_feed 26 = .ok (.aload_n 0, 1) := by decide +kernel
theorem dX9_feed_27 : decode cX9_feed 27 = .ok (.getfield 10, 3) := by decide +kernel
theorem dX9_feed_30 : decode cX9_feed 30 = .ok (.iload_n 2, 1) := by decide +kernel
theorem dX9_feed_31 : decode cX9_feed 31 = .ok (.invokevirtual 89, 3) := by decide +kernel
theorem dX9_feed_34 : decode cX9_feed 34 = .ok (.aload_n 0, 1) := by decide +kernel
theorem dX9_feed_35 : decode cX9_feed 35 = .ok (.getfield 10, 3) := by decide +kernel
theorem dX9_feed_38 : decode cX9_feed 38 = .ok (.iload_n 3, 1) := by decide +kernel
theorem dX9_feed_39 : decode cX9_feed 39 = .ok (.invokevirtual 89, 3) := by decide +kernel
theorem dX9_feed_42 : decode cX9_feed 42 = .ok (.aload_n 0, 1) := by decide +kernel
theorem dX9_feed_43 : decode cX9_feed 43 = .ok (.getfield 10, 3) := by decide +kernel
theorem dX9_feed_46 : decode cX9_feed 46 = .ok (.iload 4, 2) := by decide +kernel
theorem dX9_feed_48 : decode cX9_feed 48 = .ok (.invokevirtual 89, 3) := by decide +kernel
theorem dX9_feed_51 : decode cX9_feed 51 = .ok (.aload_n 0, 1) := by decide +kernel
theorem dX9_feed_52 : decode cX9_feed 52 = .ok (.getfield 10, 3) := by decide +kernel
theorem dX9_feed_55 : decode cX9_feed 55 = .ok (.iload 5, 2) := by decide +kernel
theorem dX9_feed_57 : decode cX9_feed 57 = .ok (.invokevirtual 89, 3) := by decide +kernel
theorem dX9_feed_60 : decode cX9_feed 60 = .ok (.aload_n 0, 1) := by decide +kernel
theorem dX9_feed_61 : decode cX9_feed 61 = .ok (.getfield 10, 3) := by decide +kernel
theorem dX9_feed_64 : decode cX9_feed 64 = .ok (.getfield 86, 3) := by decide +kernel
theorem dX9_feed_67 : decode cX9_feed 67 = .ok (.ireturn, 1) := by decide +kernel
theorem dX9_lend_0 : decode cX9_lend 0 = .ok (.iload_n 3, 1) := by decide +kernel
theorem dX9_lend_1 : decode cX9_lend 1 = .ok (.invokestatic 151, 3) := by decide +kernel
theorem dX9_lend_4 : decode cX9_lend 4 = .ok (.ifCond .eq 11, 3) := by decide +kernel
theorem dX9_lend_7 : decode cX9_lend 7 = .ok (.iload_n 2, 1) := by decide +kernel
theorem dX9_lend_8 : decode cX9_lend 8 = .ok (.aload_n 0, 1) := by decide +kernel
theorem dX9_lend_9 : decode cX9_lend 9 = .ok (.getfield 79, 3) := by decide +kernel
theorem dX9_lend_12 : decode cX9_lend 12 = .ok (.if_icmp .gt 5, 3) := by decide +kernel
theorem dX9_lend_15 : decode cX9_lend 15 = .ok (.iconst (-1), 1) := by decide +kernel
theorem dX9_lend_16 : decode cX9_lend 16 = .ok (.ireturn, 1) := by decide +kernel
theorem dX9_lend_17 : decode cX9_lend 17 = .ok (.aload_n 0, 1) := by decide +kernel
theorem dX9_lend_18 : decode cX9_lend 18 = .ok (.getfield 35, 3) := by decide +kernel
theorem dX9_lend_21 : decode cX9_lend 21 = .ok (.iload_n 1, 1) := by decide +kernel
theorem dX9_lend_22 : decode cX9_lend 22 = .ok (.iload_n 2, 1) := by decide +kernel
theorem dX9_lend_23 : decode cX9_lend 23 = .ok (.iload_n 3, 1) := by decide +kernel
theorem dX9_lend_24 : decode cX9_lend 24 = .ok (.invokevirtual 157, 3) := by decide +kernel
theorem dX9_lend_27 : decode cX9_lend 27 = .ok (.ireturn, 1) := by decide +kernel
theorem dX9_owner_0 : decode cX9_owner 0 = .ok (.aload_n 0, 1) := by decide +kernel
theorem dX9_owner_1 : decode cX9_owner 1 = .ok (.getfield 35, 3) := by decide +kernel
theorem dX9_owner_4 : decode cX9_owner 4 = .ok (.iload_n 1, 1) := by decide +kernel
theorem dX9_owner_5 : decode cX9_owner 5 = .ok (.iload_n 2, 1) := by decide +kernel
theorem dX9_owner_6 : decode cX9_owner 6 = .ok (.invokevirtual 147, 3) := by decide +kernel
theorem dX9_owner_9 : decode cX9_owner 9 = .ok (.ireturn, 1) := by decide +kernel
theorem dX9_water_0 : decode cX9_water 0 = .ok (.aload_n 0, 1) := by decide +kernel
theorem dX9_water_1 : decode cX9_water 1 = .ok (.iload_n 1, 1) := by decide +kernel
theorem dX9_water_2 : decode cX9_water 2 = .ok (.invokevirtual 144, 3) := by decide +kernel
theorem dX9_water_5 : decode cX9_water 5 = .ok (.ifCond .ne 5, 3) := by decide +kernel
theorem dX9_water_8 : decode cX9_water 8 = .ok (.iconst (-1), 1) := by decide +kernel
theorem dX9_water_9 : decode cX9_water 9 = .ok (.ireturn, 1) := by decide +kernel
theorem dX9_water_10 : decode cX9_water 10 = .ok (.iload_n 2, 1) := by decide +kernel
theorem dX9_water_11 : decode cX9_water 11 = .ok (.tableswitch 69 0 3 #[29, 39, 49, 59], 29) := by decide +kernel
theorem dX9_water_40 : decode cX9_water 40 = .ok (.aload_n 0, 1) := by decide +kernel
theorem dX9_water_41 : decode cX9_water 41 = .ok (.getfield 42, 3) := by decide +kernel
theorem dX9_water_44 : decode cX9_water 44 = .ok (.getfield 111, 3) := by decide +kernel
theorem dX9_water_47 : decode cX9_water 47 = .ok (.iload_n 1, 1) := by decide +kernel
theorem dX9_water_48 : decode cX9_water 48 = .ok (.iaload, 1) := by decide +kernel
theorem dX9_water_49 : decode cX9_water 49 = .ok (.ireturn, 1) := by decide +kernel
theorem dX9_water_50 : decode cX9_water 50 = .ok (.aload_n 0, 1) := by decide +kernel
theorem dX9_water_51 : decode cX9_water 51 = .ok (.getfield 42, 3) := by decide +kernel
theorem dX9_water_54 : decode cX9_water 54 = .ok (.getfield 114, 3) := by decide +kernel
theorem dX9_water_57 : decode cX9_water 57 = .ok (.iload_n 1, 1) := by decide +kernel
theorem dX9_water_58 : decode cX9_water 58 = .ok (.iaload, 1) := by decide +kernel
theorem dX9_water_59 : decode cX9_water 59 = .ok (.ireturn, 1) := by decide +kernel
theorem dX9_water_60 : decode cX9_water 60 = .ok (.aload_n 0, 1) := by decide +kernel
theorem dX9_water_61 : decode cX9_water 61 = .ok (.getfield 28, 3) := by decide +kernel
theorem dX9_water_64 : decode cX9_water 64 = .ok (.getfield 104, 3) := by decide +kernel
theorem dX9_water_67 : decode cX9_water 67 = .ok (.iload_n 1, 1) := by decide +kernel
theorem dX9_water_68 : decode cX9_water 68 = .ok (.iaload, 1) := by decide +kernel
theorem dX9_water_69 : decode cX9_water 69 = .ok (.ireturn, 1) := by decide +kernel
theorem dX9_water_70 : decode cX9_water 70 = .ok (.aload_n 0, 1) := by decide +kernel
theorem dX9_water_71 : decode cX9_water 71 = .ok (.getfield 28, 3) := by decide +kernel
theorem dX9_water_74 : decode cX9_water 74 = .ok (.getfield 108, 3) := by decide +kernel
theorem dX9_water_77 : decode cX9_water 77 = .ok (.iload_n 1, 1) := by decide +kernel
theorem dX9_water_78 : decode cX9_water 78 = .ok (.iaload, 1) := by decide +kernel
theorem dX9_water_79 : decode cX9_water 79 = .ok (.ireturn, 1) := by decide +kernel
theorem dX9_water_80 : decode cX9_water 80 = .ok (.iconst (-1), 1) := by decide +kernel
theorem dX9_water_81 : decode cX9_water 81 = .ok (.ireturn, 1) := by decide +kernel
theorem dX9_well_0 : decode cX9_well 0 = .ok (.iload_n 1, 1) := by decide +kernel
theorem dX9_well_1 : decode cX9_well 1 = .ok (.invokestatic 93, 3) := by decide +kernel
theorem dX9_well_4 : decode cX9_well 4 = .ok (.ifCond .eq 14, 3) := by decide +kernel
theorem dX9_well_7 : decode cX9_well 7 = .ok (.aload_n 0, 1) := by decide +kernel
theorem dX9_well_8 : decode cX9_well 8 = .ok (.getfield 28, 3) := by decide +kernel
theorem dX9_well_11 : decode cX9_well 11 = .ok (.iload_n 1, 1) := by decide +kernel
theorem dX9_well_12 : decode cX9_well 12 = .ok (.invokevirtual 97, 3) := by decide +kernel
theorem dX9_well_15 : decode cX9_well 15 = .ok (.ifCond .eq 5, 3) := by decide +kernel
theorem dX9_well_18 : decode cX9_well 18 = .ok (.iconst 0, 1) := by decide +kernel
theorem dX9_well_19 : decode cX9_well 19 = .ok (.ireturn, 1) := by decide +kernel
theorem dX9_well_20 : decode cX9_well 20 = .ok (.iload_n 2, 1) := by decide +kernel
theorem dX9_well_21 : decode cX9_well 21 = .ok (.iconst 1, 1) := by decide +kernel
theorem dX9_well_22 : decode cX9_well 22 = .ok (.sipush 1000, 3) := by decide +kernel
theorem dX9_well_25 : decode cX9_well 25 = .ok (.invokestatic 100, 3) := by decide +kernel
theorem dX9_well_28 : decode cX9_well 28 = .ok (.ifCond .eq 24, 3) := by decide +kernel
theorem dX9_well_31 : decode cX9_well 31 = .ok (.iload_n 3, 1) := by decide +kernel
theorem dX9_well_32 : decode cX9_well 32 = .ok (.iconst 0, 1) := by decide +kernel
theorem dX9_well_33 : decode cX9_well 33 = .ok (.sipush 200, 3) := by decide +kernel
theorem dX9_well_36 : decode cX9_well 36 = .ok (.invokestatic 100, 3) := by decide +kernel
theorem dX9_well_39 : decode cX9_well 39 = .ok (.ifCond .eq 13, 3) := by decide +kernel
theorem dX9_well_42 : decode cX9_well 42 = .ok (.iload 4, 2) := by decide +kernel
theorem dX9_well_44 : decode cX9_well 44 = .ok (.iconst 0, 1) := by decide +kernel
theorem dX9_well_45 : decode cX9_well 45 = .ok (.iload_n 2, 1) := by decide +kernel
theorem dX9_well_46 : decode cX9_well 46 = .ok (.invokestatic 100, 3) := by decide +kernel
theorem dX9_well_49 : decode cX9_well 49 = .ok (.ifCond .ne 5, 3) := by decide +kernel
theorem dX9_well_52 : decode cX9_well 52 = .ok (.iconst 0, 1) := by decide +kernel
theorem dX9_well_53 : decode cX9_well 53 = .ok (.ireturn, 1) := by decide +kernel
theorem dX9_well_54 : decode cX9_well 54 = .ok (.aload_n 0, 1) := by decide +kernel
theorem dX9_well_55 : decode cX9_well 55 = .ok (.getfield 28, 3) := by decide +kernel
theorem dX9_well_58 : decode cX9_well 58 = .ok (.getfield 104, 3) := by decide +kernel
theorem dX9_well_61 : decode cX9_well 61 = .ok (.iload_n 1, 1) := by decide +kernel
theorem dX9_well_62 : decode cX9_well 62 = .ok (.iload_n 2, 1) := by decide +kernel
theorem dX9_well_63 : decode cX9_well 63 = .ok (.iastore, 1) := by decide +kernel
theorem dX9_well_64 : decode cX9_well 64 = .ok (.aload_n 0, 1) := by decide +kernel
theorem dX9_well_65 : decode cX9_well 65 = .ok (.getfield 28, 3) := by decide +kernel
theorem dX9_well_68 : decode cX9_well 68 = .ok (.getfield 108, 3) := by decide +kernel
theorem dX9_well_71 : decode cX9_well 71 = .ok (.iload_n 1, 1) := by decide +kernel
theorem dX9_well_72 : decode cX9_well 72 = .ok (.iload_n 3, 1) := by decide +kernel
theorem dX9_well_73 : decode cX9_well 73 = .ok (.iastore, 1) := by decide +kernel
theorem dX9_well_74 : decode cX9_well 74 = .ok (.aload_n 0, 1) := by decide +kernel
theorem dX9_well_75 : decode cX9_well 75 = .ok (.getfield 42, 3) := by decide +kernel
theorem dX9_well_78 : decode cX9_well 78 = .ok (.getfield 111, 3) := by decide +kernel
theorem dX9_well_81 : decode cX9_well 81 = .ok (.iload_n 1, 1) := by decide +kernel
theorem dX9_well_82 : decode cX9_well 82 = .ok (.iload 4, 2) := by decide +kernel
theorem dX9_well_84 : decode cX9_well 84 = .ok (.iastore, 1) := by decide +kernel
theorem dX9_well_85 : decode cX9_well 85 = .ok (.aload_n 0, 1) := by decide +kernel
theorem dX9_well_86 : decode cX9_well 86 = .ok (.getfield 42, 3) := by decide +kernel
theorem dX9_well_89 : decode cX9_well 89 = .ok (.getfield 114, 3) := by decide +kernel
theorem dX9_well_92 : decode cX9_well 92 = .ok (.iload_n 1, 1) := by decide +kernel
theorem dX9_well_93 : decode cX9_well 93 = .ok (.iload 4, 2) := by decide +kernel
theorem dX9_well_95 : decode cX9_well 95 = .ok (.iastore, 1) := by decide +kernel
theorem dX9_well_96 : decode cX9_well 96 = .ok (.iconst 1, 1) := by decide +kernel
theorem dX9_well_97 : decode cX9_well 97 = .ok (.ireturn, 1) := by decide +kernel
set_option maxHeartbeats 4000000 in
set_option maxRecDepth 100000 in
/-- WellCourt.water -/
theorem s_water (l : Launch) (G : va_G) (cy : Nat → ClassId) (sK sV : Nat → Nat) (ad : Nat → Nat → Nat) (sz : Nat) (st : gS) (hB : gBd bX st) (x : Int32) (y : Int32) (Xx : Int) (Xy : Int) (kx : x.toInt = Xx) (ky : y.toInt = Xy) : gsMi l yX9_water cX9_water 3 (some .int) ({ frames := 2, cells := 0, slots := 0, locals := 42 } : Room) G cy sK sV (shX cy ad) cnX ad sz [.ref (ad 0 0), .int x, .int y] st (fun (r : Int32) (u : gS) => gBN bX kX [] st u ∧ ((((0 ≤ Xx ∧ Xx ≤ 5 ∧ 0 < (st 5 0 x.toNatClampNeg).toInt) ∧ ((Xy = 0 ∧ r = st 13 15 x.toNatClampNeg) ∨ (Xy = 1 ∧ r = st 14 15 x.toNatClampNeg) ∨ (Xy = 2 ∧ r = st 5 0 x.toNatClampNeg) ∨ (Xy = 3 ∧ r = st 6 0 x.toNatClampNeg) ∨ (¬ (0 ≤ Xy ∧ Xy ≤ 3) ∧ r.toInt = -1))) ∨ (¬ (0 ≤ Xx ∧ Xx ≤ 5 ∧ 0 < (st 5 0 x.toNatClampNeg).toInt) ∧ r.toInt = -1)))) := by
  refine gs_start (fun A => gsQi G (shX cy ad) cnX ad _ A) (by decide) (Nat.le_of_ble_eq_true rfl) ?_
  intro p e s m below meth c A ls H hx hb hr hml hlocks hown hts hK hov hE hI hM hm hS hA hl
  have hl : lv_has ls 3 [(0, .ref (ad 0 0)), (1, .int x), (2, .int y)] := hl
  have hB_st : gBN bX kX [] st st := gBN.rf hB
  refine lv_aload_n hx hb dX9_water_0 rfl (lv_at hl 0 rfl) ?_
  refine lv_iload_n hx hb dX9_water_1 rfl (lv_at hl 1 rfl) ?_
  refine gs_calli (va_runV (As := [.int x]) (rest := []) ⟨hx, hb, hml, hown, hts⟩ (s_isWellThere l G cy sK sV ad H.size st hB_st.1 x x.toInt rfl ) ⟨(gz_cb (n := 1) hts gm_587 gm_1 gm_590 ⟨by decide +kernel, by decide +kernel, by decide +kernel⟩ ⟨Nat.le_of_ble_eq_true rfl, Nat.le_of_ble_eq_true rfl⟩), hts _ gm_589, hts _ gs_17⟩ (gs_preV hK hov hE hI hM hm hS hA 0 0 (by decide) rfl rfl) rfl rfl hl.1 rfl (lv_room (Nat.le_of_ble_eq_true rfl)) dX9_water_2 ⟨Nat.le_of_ble_eq_true rfl, Nat.le_of_ble_eq_true rfl⟩) hm hS hA (fun r_1 st_1 H locs hw_1 hM hS => ?_)
  obtain ⟨n_1, hw_1⟩ := hw_1
  have n_1 := gBN.nil n_1
  subst n_1
  rcases hw_1 with ⟨rfl, hw_1_0, hw_1_1, hw_1_2⟩ | ⟨rfl, hw_1_0⟩
  · skip
    refine lv_if_ne (tgt := 10) hx hb dX9_water_5 (by decide) (fun _ => ?_) (fun h9 => absurd h9 (by decide))
    refine lv_iload_n hx hb dX9_water_10 rfl (lv_at hl 2 rfl) ?_
    rcases (show y.toInt < 0 ∨ 3 < y.toInt ∨ y.toInt = 0 ∨ y.toInt = 1 ∨ y.toInt = 2 ∨ y.toInt = 3 by omega) with h_2 | h_2 | h_2 | h_2 | h_2 | h_2
    · refine lv_tableOut (tgt := 80) hx hb dX9_water_11 (Or.inl h_2) (by decide) ?_
      refine lv_iconst (v := (-1)) hx hb dX9_water_80 (by decide) ?_
      exact gs_iret hx hb hr hlocks hM hS rfl ⟨hB_st, (Or.inl ⟨⟨by omega, by omega, by omega⟩, Or.inr (Or.inr (Or.inr (Or.inr (⟨by omega, by decide⟩))))⟩)⟩ (by exact Nat.le_refl _) (by exact Nat.le_refl _) dX9_water_81
    · refine lv_tableOut (tgt := 80) hx hb dX9_water_11 (Or.inr h_2) (by decide) ?_
      refine lv_iconst (v := (-1)) hx hb dX9_water_80 (by decide) ?_
      exact gs_iret hx hb hr hlocks hM hS rfl ⟨hB_st, (Or.inl ⟨⟨by omega, by omega, by omega⟩, Or.inr (Or.inr (Or.inr (Or.inr (⟨by omega, by decide⟩))))⟩)⟩ (by exact Nat.le_refl _) (by exact Nat.le_refl _) dX9_water_81
    · refine lv_tableIn (tgt := 40) hx hb dX9_water_11 (by omega) (by omega) (by rw [h_2]; rfl) (by decide) ?_
      refine lv_aload_n hx hb dX9_water_40 rfl (lv_at hl 0 rfl) ?_
      refine gs_get (C := RX9) (T := TX9) (N := 12) hx hb hts inX9 hown hK hM 0 0 4 (by decide) rfl rfl (by decide) (hts _ gm_295) (fun _ h9 => h9) rfl dX9_water_41 ?_
      refine gs_getN (host := "WellCourt") (C := RX1) (T := TX1) (N := 3) hx hb hts inX1 hown hK hM 12 15 0 (by decide) rfl rfl (by decide) (va_Nw.use rfl (hov.2.2 _ gn_121)) (fun _ h9 => h9) rfl dX9_water_44 ?_
      refine lv_iload_n hx hb dX9_water_47 rfl (lv_at hl 1 rfl) ?_
      refine gs_iald hx hb hK hM 13 15 (by decide) rfl (vp_in_iff.mpr ⟨by omega, by omega⟩) dX9_water_48 ?_
      refine lv_topi (fun x_3 ex_3 => ?_)
      have qx_3 : x_3.toInt = (st 13 15 (x.toNatClampNeg)).toInt := congrArg Int32.toInt ex_3
      exact gs_iret hx hb hr hlocks hM hS rfl ⟨hB_st, (Or.inl ⟨⟨by omega, by omega, by omega⟩, Or.inl (⟨by omega, ex_3⟩)⟩)⟩ (by exact Nat.le_refl _) (by exact Nat.le_refl _) dX9_water_49
    · refine lv_tableIn (tgt := 50) hx hb dX9_water_11 (by omega) (by omega) (by rw [h_2]; rfl) (by decide) ?_
      refine lv_aload_n hx hb dX9_water_50 rfl (lv_at hl 0 rfl) ?_
      refine gs_get (C := RX9) (T := TX9) (N := 12) hx hb hts inX9 hown hK hM 0 0 4 (by decide) rfl rfl (by decide) (hts _ gm_295) (fun _ h9 => h9) rfl dX9_water_51 ?_
      refine gs_getN (host := "WellCourt") (C := RX1) (T := TX1) (N := 3) hx hb hts inX1 hown hK hM 12 15 1 (by decide) rfl rfl (by decide) (va_Nw.use rfl (hov.2.2 _ gn_124)) (fun _ h9 => h9) rfl dX9_water_54 ?_
      refine lv_iload_n hx hb dX9_water_57 rfl (lv_at hl 1 rfl) ?_
      refine gs_iald hx hb hK hM 14 15 (by decide) rfl (vp_in_iff.mpr ⟨by omega, by omega⟩) dX9_water_58 ?_
      refine lv_topi (fun x_4 ex_4 => ?_)
      have qx_4 : x_4.toInt = (st 14 15 (x.toNatClampNeg)).toInt := congrArg Int32.toInt ex_4
      exact gs_iret hx hb hr hlocks hM hS rfl ⟨hB_st, (Or.inl ⟨⟨by omega, by omega, by omega⟩, Or.inr (Or.inl (⟨by omega, ex_4⟩))⟩)⟩ (by exact Nat.le_refl _) (by exact Nat.le_refl _) dX9_water_59
    · refine lv_tableIn (tgt := 60) hx hb dX9_water_11 (by omega) (by omega) (by rw [h_2]; rfl) (by decide) ?_
      refine lv_aload_n hx hb dX9_water_60 rfl (lv_at hl 0 rfl) ?_
      refine gs_get (C := RX9) (T := TX9) (N := 12) hx hb hts inX9 hown hK hM 0 0 2 (by decide) rfl rfl (by decide) (hts _ gm_293) (fun _ h9 => h9) rfl dX9_water_61 ?_
      refine gs_getN (host := "WellCourt") (C := RX3) (T := TX3) (N := 3) hx hb hts inX3 hown hK hM 4 0 0 (by decide) rfl rfl (by decide) (va_Nw.use rfl (hov.2.2 _ gn_84)) (fun _ h9 => h9) rfl dX9_water_64 ?_
      refine lv_iload_n hx hb dX9_water_67 rfl (lv_at hl 1 rfl) ?_
      refine gs_iald hx hb hK hM 5 0 (by decide) rfl (vp_in_iff.mpr ⟨by omega, by omega⟩) dX9_water_68 ?_
      refine lv_topi (fun x_5 ex_5 => ?_)
      have qx_5 : x_5.toInt = (st 5 0 (x.toNatClampNeg)).toInt := congrArg Int32.toInt ex_5
      exact gs_iret hx hb hr hlocks hM hS rfl ⟨hB_st, (Or.inl ⟨⟨by omega, by omega, by omega⟩, Or.inr (Or.inr (Or.inl (⟨by omega, ex_5⟩)))⟩)⟩ (by exact Nat.le_refl _) (by exact Nat.le_refl _) dX9_water_69
    · refine lv_tableIn (tgt := 70) hx hb dX9_water_11 (by omega) (by omega) (by rw [h_2]; rfl) (by decide) ?_
      refine lv_aload_n hx hb dX9_water_70 rfl (lv_at hl 0 rfl) ?_
      refine gs_get (C := RX9) (T := TX9) (N := 12) hx hb hts inX9 hown hK hM 0 0 2 (by decide) rfl rfl (by decide) (hts _ gm_293) (fun _ h9 => h9) rfl dX9_water_71 ?_
      refine gs_getN (host := "WellCourt") (C := RX3) (T := TX3) (N := 3) hx hb hts inX3 hown hK hM 4 0 1 (by decide) rfl rfl (by decide) (va_Nw.use rfl (hov.2.2 _ gn_87)) (fun _ h9 => h9) rfl dX9_water_74 ?_
      refine lv_iload_n hx hb dX9_water_77 rfl (lv_at hl 1 rfl) ?_
      refine gs_iald hx hb hK hM 6 0 (by decide) rfl (vp_in_iff.mpr ⟨by omega, by omega⟩) dX9_water_78 ?_
      refine lv_topi (fun x_6 ex_6 => ?_)
      have qx_6 : x_6.toInt = (st 6 0 (x.toNatClampNeg)).toInt := congrArg Int32.toInt ex_6
      exact gs_iret hx hb hr hlocks hM hS rfl ⟨hB_st, (Or.inl ⟨⟨by omega, by omega, by omega⟩, Or.inr (Or.inr (Or.inr (Or.inl (⟨by omega, ex_6⟩))))⟩)⟩ (by exact Nat.le_refl _) (by exact Nat.le_refl _) dX9_water_79
  · skip
    refine lv_if_ne (tgt := 10) hx hb dX9_water_5 (by decide) (fun h9 => absurd (by decide) h9) (fun _ => ?_)
    refine lv_iconst (v := (-1)) hx hb dX9_water_8 (by decide) ?_
    exact gs_iret hx hb hr hlocks hM hS rfl ⟨hB_st, (Or.inr ⟨by omega, by decide⟩)⟩ (by exact Nat.le_refl _) (by exact Nat.le_refl _) dX9_water_9

set_option maxHeartbeats 4000000 in
set_option maxRecDepth 100000 in
/-- WellCourt.owner -/
theorem s_owner (l : Launch) (G : va_G) (cy : Nat → ClassId) (sK sV : Nat → Nat) (ad : Nat → Nat → Nat) (sz : Nat) (st : gS) (hB : gBd bX st) (x : Int32) (y : Int32) (Xx : Int) (Xy : Int) (kx : x.toInt = Xx) (ky : y.toInt = Xy) : gsMi l yX9_owner cX9_owner 3 (some .int) ({ frames := 2, cells := 0, slots := 0, locals := 42 } : Room) G cy sK sV (shX cy ad) cnX ad sz [.ref (ad 0 0), .int x, .int y] st (fun (r : Int32) (u : gS) => gBN bX kX [] st u ∧ (((0 ≤ Xx ∧ Xx ≤ 5 ∧ 0 ≤ Xy ∧ Xy ≤ 199 ∧ r.toInt = (st 11 x.toNatClampNeg y.toNatClampNeg).toInt) ∨ (¬ (0 ≤ Xx ∧ Xx ≤ 5 ∧ 0 ≤ Xy ∧ Xy ≤ 199) ∧ r.toInt = -1)))) := by
  refine gs_start (fun A => gsQi G (shX cy ad) cnX ad _ A) (by decide) (Nat.le_of_ble_eq_true rfl) ?_
  intro p e s m below meth c A ls H hx hb hr hml hlocks hown hts hK hov hE hI hM hm hS hA hl
  have hl : lv_has ls 3 [(0, .ref (ad 0 0)), (1, .int x), (2, .int y)] := hl
  have hB_st : gBN bX kX [] st st := gBN.rf hB
  refine lv_aload_n hx hb dX9_owner_0 rfl (lv_at hl 0 rfl) ?_
  refine gs_get (C := RX9) (T := TX9) (N := 12) hx hb hts inX9 hown hK hM 0 0 3 (by decide) rfl rfl (by decide) (hts _ gm_294) (fun _ h9 => h9) rfl dX9_owner_1 ?_
  refine lv_iload_n hx hb dX9_owner_4 rfl (lv_at hl 1 rfl) ?_
  refine lv_iload_n hx hb dX9_owner_5 rfl (lv_at hl 2 rfl) ?_
  refine gs_calli (va_runV (As := [.int x, .int y]) (rest := []) ⟨hx, hb, hml, hown, hts⟩ (s_X0_ownerOn l G cy sK sV ad H.size st hB_st.1 x y x.toInt y.toInt rfl rfl ) ⟨(gz_cb (n := 2) hts gm_595 gm_5 gm_558 ⟨by decide +kernel, by decide +kernel, by decide +kernel⟩ ⟨Nat.le_of_ble_eq_true rfl, Nat.le_of_ble_eq_true rfl⟩), hts _ gm_556, hts _ gm_557⟩ (gs_preV hK hov hE hI hM hm hS hA 9 0 (by decide) rfl rfl) rfl rfl hl.1 rfl (lv_room (Nat.le_of_ble_eq_true rfl)) dX9_owner_6 ⟨Nat.le_of_ble_eq_true rfl, Nat.le_of_ble_eq_true rfl⟩) hm hS hA (fun r_1 st_1 H locs hw_1 hM hS => ?_)
  obtain ⟨n_1, hw_1⟩ := hw_1
  have n_1 := gBN.nil n_1
  subst n_1
  have hw_1_0 := hw_1
  exact gs_iret hx hb hr hlocks hM hS rfl ⟨hB_st, (by have h9 := hw_1_0; rw [kx, ky] at h9; exact h9)⟩ (by exact Nat.le_refl _) (by exact Nat.le_refl _) dX9_owner_9

set_option maxHeartbeats 4000000 in
set_option maxRecDepth 100000 in
/-- WellCourt.lend -/
theorem s_lend (l : Launch) (G : va_G) (cy : Nat → ClassId) (sK sV : Nat → Nat) (ad : Nat → Nat → Nat) (sz : Nat) (st : gS) (hB : gBd bX st) (x : Int32) (y : Int32) (w : Int32) (Xx : Int) (Xy : Int) (Xw : Int) (kx : x.toInt = Xx) (ky : y.toInt = Xy) (kw : w.toInt = Xw) : gsMi l yX9_lend cX9_lend 4 (some .int) ({ frames := 3, cells := 0, slots := 0, locals := 67 } : Room) G cy sK sV (shX cy ad) cnX ad sz [.ref (ad 0 0), .int x, .int y, .int w] st (fun (r : Int32) (u : gS) => gBN bX kX [1100] st u ∧ (((¬ (0 ≤ Xw ∧ Xw ≤ 5 ∧ (st 0 0 10).toInt < Xy ∧ (0 ≤ Xx ∧ Xx ≤ 5 ∧ 0 ≤ Xy ∧ Xy ≤ 199 ∧ ¬ (st 11 x.toNatClampNeg y.toNatClampNeg).toInt = -1 ∧ ¬ (st 11 x.toNatClampNeg y.toNatClampNeg).toInt = Xw)) ∧ r.toInt = -1 ∧ u = st) ∨ ((0 ≤ Xw ∧ Xw ≤ 5 ∧ (st 0 0 10).toInt < Xy ∧ (0 ≤ Xx ∧ Xx ≤ 5 ∧ 0 ≤ Xy ∧ Xy ≤ 199 ∧ ¬ (st 11 x.toNatClampNeg y.toNatClampNeg).toInt = -1 ∧ ¬ (st 11 x.toNatClampNeg y.toNatClampNeg).toInt = Xw)) ∧ noBk (st 11 x.toNatClampNeg) Xw Xy 200 ∧ r.toInt = -1 ∧ u = st) ∨ ((0 ≤ Xw ∧ Xw ≤ 5 ∧ (st 0 0 10).toInt < Xy ∧ (0 ≤ Xx ∧ Xx ≤ 5 ∧ 0 ≤ Xy ∧ Xy ≤ 199 ∧ ¬ (st 11 x.toNatClampNeg y.toNatClampNeg).toInt = -1 ∧ ¬ (st 11 x.toNatClampNeg y.toNatClampNeg).toInt = Xw)) ∧ (Xy < r.toInt ∧ r.toInt ≤ 199 ∧ (st 11 x.toNatClampNeg r.toNatClampNeg).toInt = Xw) ∧ noBk (st 11 x.toNatClampNeg) Xw Xy r.toInt ∧ ∃ v9 : Int32, v9.toInt = (st 11 x.toNatClampNeg y.toNatClampNeg).toInt ∧ u = gU (gU st 11 x.toNatClampNeg y.toNatClampNeg w) 11 x.toNatClampNeg r.toNatClampNeg v9)))) := by
  refine gs_start (fun A => gsQi G (shX cy ad) cnX ad _ A) (by decide) (Nat.le_of_ble_eq_true rfl) ?_
  intro p e s m below meth c A ls H hx hb hr hml hlocks hown hts hK hov hE hI hM hm hS hA hl
  have hl : lv_has ls 4 [(0, .ref (ad 0 0)), (1, .int x), (2, .int y), (3, .int w)] := hl
  have hB_st : gBN bX kX [1100] st st := gBN.rf hB
  refine lv_iload_n hx hb dX9_lend_0 rfl (lv_at hl 3 rfl) ?_
  refine gs_calli (va_runS (As := [.int w]) (rest := []) ⟨hx, hb, hml, hown, hts⟩ (s_isClan l G cy sK sV ad H.size st hB_st.1 w w.toInt rfl ) ⟨(gz_cb (n := 1) hts gm_600 gm_1 gm_487 ⟨by decide +kernel, by decide +kernel, by decide +kernel⟩ ⟨Nat.le_of_ble_eq_true rfl, Nat.le_of_ble_eq_true rfl⟩), hts _ gm_486⟩ (gs_preS hK hov hE hI hM hm hS hA) rfl rfl hl.1 rfl (lv_room (Nat.le_of_ble_eq_true rfl)) dX9_lend_1 ⟨Nat.le_of_ble_eq_true rfl, Nat.le_of_ble_eq_true rfl⟩) hm hS hA (fun r_1 st_1 H locs hw_1 hM hS => ?_)
  obtain ⟨n_1, hw_1⟩ := hw_1
  have n_1 := gBN.nil n_1
  subst n_1
  rcases hw_1 with ⟨rfl, hw_1_0, hw_1_1⟩ | ⟨rfl, hw_1_0⟩
  · skip
    refine lv_if_eq (tgt := 15) hx hb dX9_lend_4 (by decide) (fun h9 => absurd h9 (by decide)) (fun _ => ?_)
    refine lv_iload_n hx hb dX9_lend_7 rfl (lv_at hl 2 rfl) ?_
    refine lv_aload_n hx hb dX9_lend_8 rfl (lv_at hl 0 rfl) ?_
    refine gs_get (C := RX9) (T := TX9) (N := 12) hx hb hts inX9 hown hK hM 0 0 10 (by decide) rfl rfl (by decide) (hts _ gm_301) (fun _ h9 => h9) rfl dX9_lend_9 ?_
    have bf_2 : (0 : Int) ≤ (st 0 0 10).toInt ∧ (st 0 0 10).toInt ≤ (199 : Int) := hB_st.1 0 0 10
    refine lv_icmp_gt (tgt := 17) hx hb dX9_lend_12 (by decide) (fun c_3 => ?_) (fun c_3 => ?_)
    · have ic_3 := gz_lt (rfl : (st 0 0 10).toInt = (st 0 0 10).toInt) (rfl : y.toInt = y.toInt) c_3
      have lc_3 := gi_hi y
      refine lv_aload_n hx hb dX9_lend_17 rfl (lv_at hl 0 rfl) ?_
      refine gs_get (C := RX9) (T := TX9) (N := 12) hx hb hts inX9 hown hK hM 0 0 3 (by decide) rfl rfl (by decide) (hts _ gm_294) (fun _ h9 => h9) rfl dX9_lend_18 ?_
      refine lv_iload_n hx hb dX9_lend_21 rfl (lv_at hl 1 rfl) ?_
      refine lv_iload_n hx hb dX9_lend_22 rfl (lv_at hl 2 rfl) ?_
      refine lv_iload_n hx hb dX9_lend_23 rfl (lv_at hl 3 rfl) ?_
      refine gs_calli (va_runV (As := [.int x, .int y, .int w]) (rest := []) ⟨hx, hb, hml, hown, hts⟩ (s_X0_exchange l G cy sK sV ad H.size st hB_st.1 x y w x.toInt y.toInt w.toInt rfl rfl rfl ) ⟨(gz_cb (n := 3) hts gm_630 gm_5 gm_633 ⟨by decide +kernel, by decide +kernel, by decide +kernel⟩ ⟨Nat.le_of_ble_eq_true rfl, Nat.le_of_ble_eq_true rfl⟩), hts _ gm_631, hts _ gm_632⟩ (gs_preV hK hov hE hI hM hm hS hA 9 0 (by decide) rfl rfl) rfl rfl hl.1 rfl (lv_room (Nat.le_of_ble_eq_true rfl)) dX9_lend_24 ⟨Nat.le_of_ble_eq_true rfl, Nat.le_of_ble_eq_true rfl⟩) hm hS hA (fun r_4 st_4 H locs hw_4 hM hS => ?_)
      obtain ⟨n_4, hw_4⟩ := hw_4
      have hB_st_4 : gBN bX kX [1100] st st_4 := hB_st.call n_4 (by decide)
      have hw_4_0 := hw_4
      exact gs_iret hx hb hr hlocks hM hS rfl ⟨hB_st_4, (by have h9 := hw_4_0; rw [kx, ky, kw] at h9; rcases h9 with ⟨h1, h2, h3⟩ | ⟨h1, h2, h3, h4⟩ | ⟨h1, h2, h3, h4⟩; exact Or.inl ⟨fun h8 => h1 h8.2.2.2, h2, h3⟩; exact Or.inr (Or.inl ⟨⟨by omega, by omega, by omega, h1⟩, h2, h3, h4⟩); exact Or.inr (Or.inr ⟨⟨by omega, by omega, by omega, h1⟩, h2, h3, h4⟩))⟩ (by exact Nat.le_refl _) (by exact Nat.le_refl _) dX9_lend_27
    · have ic_3 := gz_nlt (rfl : (st 0 0 10).toInt = (st 0 0 10).toInt) (rfl : y.toInt = y.toInt) c_3
      refine lv_iconst (v := (-1)) hx hb dX9_lend_15 (by decide) ?_
      exact gs_iret hx hb hr hlocks hM hS rfl ⟨hB_st, (Or.inl ⟨fun h9 => by omega, by decide, rfl⟩)⟩ (by exact Nat.le_refl _) (by exact Nat.le_refl _) dX9_lend_16
  · skip
    refine lv_if_eq (tgt := 15) hx hb dX9_lend_4 (by decide) (fun _ => ?_) (fun h9 => absurd (by decide) h9)
    refine lv_iconst (v := (-1)) hx hb dX9_lend_15 (by decide) ?_
    exact gs_iret hx hb hr hlocks hM hS rfl ⟨hB_st, (Or.inl ⟨fun h9 => by omega, by decide, rfl⟩)⟩ (by exact Nat.le_refl _) (by exact Nat.le_refl _) dX9_lend_16

set_option maxHeartbeats 4000000 in
set_option maxRecDepth 100000 in
/-- WellCourt.well -/
theorem s_well (l : Launch) (G : va_G) (cy : Nat → ClassId) (sK sV : Nat → Nat) (ad : Nat → Nat → Nat) (sz : Nat) (st : gS) (hB : gBd bX st) (x : Int32) (y : Int32) (w : Int32) (v : Int32) (Xx : Int) (Xy : Int) (Xw : Int) (Xv : Int) (kx : x.toInt = Xx) (ky : y.toInt = Xy) (kw : w.toInt = Xw) (kv : v.toInt = Xv) : gsMi l yX9_well cX9_well 5 (some .boolean) ({ frames := 1, cells := 0, slots := 0, locals := 22 } : Room) G cy sK sV (shX cy ad) cnX ad sz [.ref (ad 0 0), .int x, .int y, .int w, .int v] st (fun (r : Int32) (u : gS) => gBN bX kX [500, 600, 1300, 1400] st u ∧ ((r = 1 ∧ (0 ≤ Xx) ∧ (Xx ≤ 5) ∧ ((st 5 0 x.toNatClampNeg).toInt ≤ 0) ∧ (1 ≤ Xy) ∧ (Xy ≤ 1000) ∧ (0 ≤ Xw) ∧ (Xw ≤ 200) ∧ (0 ≤ Xv) ∧ (Xv ≤ Xy) ∧ (u 5 0 = upd (st 5 0) x.toNatClampNeg y) ∧ (u 6 0 = upd (st 6 0) x.toNatClampNeg w) ∧ (u 13 15 = upd (st 13 15) x.toNatClampNeg v) ∧ (u 14 15 = upd (st 14 15) x.toNatClampNeg v)) ∨ (r = 0 ∧ (Xx < 0 ∨ 5 < Xx ∨ 0 < (st 5 0 x.toNatClampNeg).toInt ∨ Xy < 1 ∨ 1000 < Xy ∨ Xw < 0 ∨ 200 < Xw ∨ Xv < 0 ∨ Xy < Xv) ∧ (u = st)))) := by
  refine gs_start (fun A => gsQi G (shX cy ad) cnX ad _ A) (by decide) (Nat.le_of_ble_eq_true rfl) ?_
  intro p e s m below meth c A ls H hx hb hr hml hlocks hown hts hK hov hE hI hM hm hS hA hl
  have hl : lv_has ls 5 [(0, .ref (ad 0 0)), (1, .int x), (2, .int y), (3, .int w), (4, .int v)] := hl
  have hB_st : gBN bX kX [500, 600, 1300, 1400] st st := gBN.rf hB
  refine lv_iload_n hx hb dX9_well_0 rfl (lv_at hl 1 rfl) ?_
  refine gs_calli (va_runS (As := [.int x]) (rest := []) ⟨hx, hb, hml, hown, hts⟩ (s_isWell l G cy sK sV ad H.size st hB_st.1 x x.toInt rfl ) ⟨(gz_cb (n := 1) hts gm_344 gm_1 gm_346 ⟨by decide +kernel, by decide +kernel, by decide +kernel⟩ ⟨Nat.le_of_ble_eq_true rfl, Nat.le_of_ble_eq_true rfl⟩), hts _ gm_345⟩ (gs_preS hK hov hE hI hM hm hS hA) rfl rfl hl.1 rfl (lv_room (Nat.le_of_ble_eq_true rfl)) dX9_well_1 ⟨Nat.le_of_ble_eq_true rfl, Nat.le_of_ble_eq_true rfl⟩) hm hS hA (fun r_1 st_1 H locs hw_1 hM hS => ?_)
  obtain ⟨n_1, hw_1⟩ := hw_1
  have n_1 := gBN.nil n_1
  subst n_1
  rcases hw_1 with ⟨rfl, hw_1_0, hw_1_1⟩ | ⟨rfl, hw_1_0⟩
  · skip
    refine lv_if_eq (tgt := 18) hx hb dX9_well_4 (by decide) (fun h9 => absurd h9 (by decide)) (fun _ => ?_)
    refine lv_aload_n hx hb dX9_well_7 rfl (lv_at hl 0 rfl) ?_
    refine gs_get (C := RX9) (T := TX9) (N := 12) hx hb hts inX9 hown hK hM 0 0 2 (by decide) rfl rfl (by decide) (hts _ gm_293) (fun _ h9 => h9) rfl dX9_well_8 ?_
    refine lv_iload_n hx hb dX9_well_11 rfl (lv_at hl 1 rfl) ?_
    refine gs_calli (va_runV (As := [.int x]) (rest := []) ⟨hx, hb, hml, hown, hts⟩ (s_X3_isThere l G cy sK sV ad H.size st hB_st.1 x x.toInt rfl (by first | decide | omega) (by first | decide | omega)) ⟨(gz_cb (n := 1) hts gm_347 gm_4 gm_350 ⟨by decide +kernel, by decide +kernel, by decide +kernel⟩ ⟨Nat.le_of_ble_eq_true rfl, Nat.le_of_ble_eq_true rfl⟩), hts _ gm_348, hts _ gm_349⟩ (gs_preV hK hov hE hI hM hm hS hA 4 0 (by decide) rfl rfl) rfl rfl hl.1 rfl (lv_room (Nat.le_of_ble_eq_true rfl)) dX9_well_12 ⟨Nat.le_of_ble_eq_true rfl, Nat.le_of_ble_eq_true rfl⟩) hm hS hA (fun r_2 st_2 H locs hw_2 hM hS => ?_)
    obtain ⟨n_2, hw_2⟩ := hw_2
    have n_2 := gBN.nil n_2
    subst n_2
    rcases hw_2 with ⟨rfl, hw_2_0⟩ | ⟨rfl, hw_2_0⟩
    · skip
      refine lv_if_eq (tgt := 20) hx hb dX9_well_15 (by decide) (fun h9 => absurd h9 (by decide)) (fun _ => ?_)
      refine lv_iconst (v := 0) hx hb dX9_well_18 (by decide) ?_
      exact gs_iret hx hb hr hlocks hM hS (by decide) ⟨hB_st, (Or.inr ⟨rfl, by omega, rfl⟩)⟩ (by exact Nat.le_refl _) (by exact Nat.le_refl _) dX9_well_19
    · skip
      refine lv_if_eq (tgt := 20) hx hb dX9_well_15 (by decide) (fun _ => ?_) (fun h9 => absurd (by decide) h9)
      refine lv_iload_n hx hb dX9_well_20 rfl (lv_at hl 2 rfl) ?_
      refine lv_iconst (v := 1) hx hb dX9_well_21 (by decide) ?_
      refine lv_sipush (v := 1000) hx hb dX9_well_22 (by decide) ?_
      refine gs_calli (va_runS (As := [.int y, .int 1, .int 1000]) (rest := []) ⟨hx, hb, hml, hown, hts⟩ (s_isWithin l G cy sK sV ad H.size st hB_st.1 y (1 : Int32) (1000 : Int32) y.toInt 1 1000 rfl (by decide) (by decide) ) ⟨(gz_cb (n := 3) hts gm_351 gm_1 gm_353 ⟨by decide +kernel, by decide +kernel, by decide +kernel⟩ ⟨Nat.le_of_ble_eq_true rfl, Nat.le_of_ble_eq_true rfl⟩), hts _ gm_352⟩ (gs_preS hK hov hE hI hM hm hS hA) rfl rfl hl.1 rfl (lv_room (Nat.le_of_ble_eq_true rfl)) dX9_well_25 ⟨Nat.le_of_ble_eq_true rfl, Nat.le_of_ble_eq_true rfl⟩) hm hS hA (fun r_3 st_3 H locs hw_3 hM hS => ?_)
      obtain ⟨n_3, hw_3⟩ := hw_3
      have n_3 := gBN.nil n_3
      subst n_3
      rcases hw_3 with ⟨rfl, hw_3_0, hw_3_1⟩ | ⟨rfl, hw_3_0⟩
      · skip
        refine lv_if_eq (tgt := 52) hx hb dX9_well_28 (by decide) (fun h9 => absurd h9 (by decide)) (fun _ => ?_)
        refine lv_iload_n hx hb dX9_well_31 rfl (lv_at hl 3 rfl) ?_
        refine lv_iconst (v := 0) hx hb dX9_well_32 (by decide) ?_
        refine lv_sipush (v := 200) hx hb dX9_well_33 (by decide) ?_
        refine gs_calli (va_runS (As := [.int w, .int 0, .int 200]) (rest := []) ⟨hx, hb, hml, hown, hts⟩ (s_isWithin l G cy sK sV ad H.size st hB_st.1 w (0 : Int32) (200 : Int32) w.toInt 0 200 rfl (by decide) (by decide) ) ⟨(gz_cb (n := 3) hts gm_351 gm_1 gm_353 ⟨by decide +kernel, by decide +kernel, by decide +kernel⟩ ⟨Nat.le_of_ble_eq_true rfl, Nat.le_of_ble_eq_true rfl⟩), hts _ gm_352⟩ (gs_preS hK hov hE hI hM hm hS hA) rfl rfl hl.1 rfl (lv_room (Nat.le_of_ble_eq_true rfl)) dX9_well_36 ⟨Nat.le_of_ble_eq_true rfl, Nat.le_of_ble_eq_true rfl⟩) hm hS hA (fun r_4 st_4 H locs hw_4 hM hS => ?_)
        obtain ⟨n_4, hw_4⟩ := hw_4
        have n_4 := gBN.nil n_4
        subst n_4
        rcases hw_4 with ⟨rfl, hw_4_0, hw_4_1⟩ | ⟨rfl, hw_4_0⟩
        · skip
          refine lv_if_eq (tgt := 52) hx hb dX9_well_39 (by decide) (fun h9 => absurd h9 (by decide)) (fun _ => ?_)
          refine lv_iload hx hb dX9_well_42 (lv_at hl 4 rfl) ?_
          refine lv_iconst (v := 0) hx hb dX9_well_44 (by decide) ?_
          refine lv_iload_n hx hb dX9_well_45 rfl (lv_at hl 2 rfl) ?_
          refine gs_calli (va_runS (As := [.int v, .int 0, .int y]) (rest := []) ⟨hx, hb, hml, hown, hts⟩ (s_isWithin l G cy sK sV ad H.size st hB_st.1 v (0 : Int32) y v.toInt 0 y.toInt rfl (by decide) rfl ) ⟨(gz_cb (n := 3) hts gm_351 gm_1 gm_353 ⟨by decide +kernel, by decide +kernel, by decide +kernel⟩ ⟨Nat.le_of_ble_eq_true rfl, Nat.le_of_ble_eq_true rfl⟩), hts _ gm_352⟩ (gs_preS hK hov hE hI hM hm hS hA) rfl rfl hl.1 rfl (lv_room (Nat.le_of_ble_eq_true rfl)) dX9_well_46 ⟨Nat.le_of_ble_eq_true rfl, Nat.le_of_ble_eq_true rfl⟩) hm hS hA (fun r_5 st_5 H locs hw_5 hM hS => ?_)
          obtain ⟨n_5, hw_5⟩ := hw_5
          have n_5 := gBN.nil n_5
          subst n_5
          rcases hw_5 with ⟨rfl, hw_5_0, hw_5_1⟩ | ⟨rfl, hw_5_0⟩
          · skip
            refine lv_if_ne (tgt := 54) hx hb dX9_well_49 (by decide) (fun _ => ?_) (fun h9 => absurd h9 (by decide))
            refine lv_aload_n hx hb dX9_well_54 rfl (lv_at hl 0 rfl) ?_
            refine gs_get (C := RX9) (T := TX9) (N := 12) hx hb hts inX9 hown hK hM 0 0 2 (by decide) rfl rfl (by decide) (hts _ gm_293) (fun _ h9 => h9) rfl dX9_well_55 ?_
            refine gs_getN (host := "WellCourt") (C := RX3) (T := TX3) (N := 3) hx hb hts inX3 hown hK hM 4 0 0 (by decide) rfl rfl (by decide) (va_Nw.use rfl (hov.2.2 _ gn_84)) (fun _ h9 => h9) rfl dX9_well_58 ?_
            refine lv_iload_n hx hb dX9_well_61 rfl (lv_at hl 1 rfl) ?_
            refine lv_iload_n hx hb dX9_well_62 rfl (lv_at hl 2 rfl) ?_
            refine gs_iast hx hb hK hI hm hM hS 5 0 (by decide) (fun _ => rfl) (vp_in_iff.mpr ⟨by omega, by omega⟩) dX9_well_63 (fun st_6 H locs est_6 hM hS => ?_)
            have hB_st_6 : gBN bX kX [500, 600, 1300, 1400] st st_6 := by rw [est_6]; exact hB_st.up (show (500 : Nat) ∈ _ from by decide) (gi_lo _) (gi_hi _)
            refine lv_aload_n hx hb dX9_well_64 rfl (lv_at hl 0 rfl) ?_
            refine gs_get (C := RX9) (T := TX9) (N := 12) hx hb hts inX9 hown hK hM 0 0 2 (by decide) rfl rfl (by decide) (hts _ gm_293) (fun _ h9 => h9) rfl dX9_well_65 ?_
            refine gs_getN (host := "WellCourt") (C := RX3) (T := TX3) (N := 3) hx hb hts inX3 hown hK hM 4 0 1 (by decide) rfl rfl (by decide) (va_Nw.use rfl (hov.2.2 _ gn_87)) (fun _ h9 => h9) rfl dX9_well_68 ?_
            refine lv_iload_n hx hb dX9_well_71 rfl (lv_at hl 1 rfl) ?_
            refine lv_iload_n hx hb dX9_well_72 rfl (lv_at hl 3 rfl) ?_
            refine gs_iast hx hb hK hI hm hM hS 6 0 (by decide) (fun _ => rfl) (vp_in_iff.mpr ⟨by omega, by omega⟩) dX9_well_73 (fun st_7 H locs est_7 hM hS => ?_)
            have hB_st_7 : gBN bX kX [500, 600, 1300, 1400] st st_7 := by rw [est_7]; exact hB_st_6.up (show (600 : Nat) ∈ _ from by decide) (gi_lo _) (gi_hi _)
            refine lv_aload_n hx hb dX9_well_74 rfl (lv_at hl 0 rfl) ?_
            refine gs_get (C := RX9) (T := TX9) (N := 12) hx hb hts inX9 hown hK hM 0 0 4 (by decide) rfl rfl (by decide) (hts _ gm_295) (fun _ h9 => h9) rfl dX9_well_75 ?_
            refine gs_getN (host := "WellCourt") (C := RX1) (T := TX1) (N := 3) hx hb hts inX1 hown hK hM 12 15 0 (by decide) rfl rfl (by decide) (va_Nw.use rfl (hov.2.2 _ gn_121)) (fun _ h9 => h9) rfl dX9_well_78 ?_
            refine lv_iload_n hx hb dX9_well_81 rfl (lv_at hl 1 rfl) ?_
            refine lv_iload hx hb dX9_well_82 (lv_at hl 4 rfl) ?_
            refine gs_iast hx hb hK hI hm hM hS 13 15 (by decide) (fun _ => rfl) (vp_in_iff.mpr ⟨by omega, by omega⟩) dX9_well_84 (fun st_8 H locs est_8 hM hS => ?_)
            have hB_st_8 : gBN bX kX [500, 600, 1300, 1400] st st_8 := by rw [est_8]; exact hB_st_7.up (show (1300 : Nat) ∈ _ from by decide) (gi_lo _) (gi_hi _)
            refine lv_aload_n hx hb dX9_well_85 rfl (lv_at hl 0 rfl) ?_
            refine gs_get (C := RX9) (T := TX9) (N := 12) hx hb hts inX9 hown hK hM 0 0 4 (by decide) rfl rfl (by decide) (hts _ gm_295) (fun _ h9 => h9) rfl dX9_well_86 ?_
            refine gs_getN (host := "WellCourt") (C := RX1) (T := TX1) (N := 3) hx hb hts inX1 hown hK hM 12 15 1 (by decide) rfl rfl (by decide) (va_Nw.use rfl (hov.2.2 _ gn_124)) (fun _ h9 => h9) rfl dX9_well_89 ?_
            refine lv_iload_n hx hb dX9_well_92 rfl (lv_at hl 1 rfl) ?_
            refine lv_iload hx hb dX9_well_93 (lv_at hl 4 rfl) ?_
            refine gs_iast hx hb hK hI hm hM hS 14 15 (by decide) (fun _ => rfl) (vp_in_iff.mpr ⟨by omega, by omega⟩) dX9_well_95 (fun st_9 H locs est_9 hM hS => ?_)
            have hB_st_9 : gBN bX kX [500, 600, 1300, 1400] st st_9 := by rw [est_9]; exact hB_st_8.up (show (1400 : Nat) ∈ _ from by decide) (gi_lo _) (gi_hi _)
            refine lv_iconst (v := 1) hx hb dX9_well_96 (by decide) ?_
            exact gs_iret hx hb hr hlocks hM hS (by decide) ⟨hB_st_9, (Or.inl ⟨rfl, by omega, by omega, by omega, by omega, by omega, by omega, by omega, by omega, by omega, ((congrFun (congrFun est_9 5) 0).trans ((congrFun (gU_k (by decide)) 0).trans ((congrFun (congrFun est_8 5) 0).trans ((congrFun (gU_k (by decide)) 0).trans ((congrFun (congrFun est_7 5) 0).trans ((congrFun (gU_k (by decide)) 0).trans ((congrFun (congrFun est_6 5) 0).trans ((gU_at _ _ _ _ _).trans (congrArg (fun f9 => upd f9 (x.toNatClampNeg) (y : Int32)) rfl))))))))), ((congrFun (congrFun est_9 6) 0).trans ((congrFun (gU_k (by decide)) 0).trans ((congrFun (congrFun est_8 6) 0).trans ((congrFun (gU_k (by decide)) 0).trans ((congrFun (congrFun est_7 6) 0).trans ((gU_at _ _ _ _ _).trans (congrArg (fun f9 => upd f9 (x.toNatClampNeg) (w : Int32)) ((congrFun (congrFun est_6 6) 0).trans ((congrFun (gU_k (by decide)) 0).trans rfl))))))))), ((congrFun (congrFun est_9 13) 15).trans ((congrFun (gU_k (by decide)) 15).trans ((congrFun (congrFun est_8 13) 15).trans ((gU_at _ _ _ _ _).trans (congrArg (fun f9 => upd f9 (x.toNatClampNeg) (v : Int32)) ((congrFun (congrFun est_7 13) 15).trans ((congrFun (gU_k (by decide)) 15).trans ((congrFun (congrFun est_6 13) 15).trans ((congrFun (gU_k (by decide)) 15).trans rfl))))))))), ((congrFun (congrFun est_9 14) 15).trans ((gU_at _ _ _ _ _).trans (congrArg (fun f9 => upd f9 (x.toNatClampNeg) (v : Int32)) ((congrFun (congrFun est_8 14) 15).trans ((congrFun (gU_k (by decide)) 15).trans ((congrFun (congrFun est_7 14) 15).trans ((congrFun (gU_k (by decide)) 15).trans ((congrFun (congrFun est_6 14) 15).trans ((congrFun (gU_k (by decide)) 15).trans rfl)))))))))⟩)⟩ (by exact Nat.le_refl _) (by exact Nat.le_refl _) dX9_well_97
          · skip
            refine lv_if_ne (tgt := 54) hx hb dX9_well_49 (by decide) (fun h9 => absurd (by decide) h9) (fun _ => ?_)
            refine lv_iconst (v := 0) hx hb dX9_well_52 (by decide) ?_
            exact gs_iret hx hb hr hlocks hM hS (by decide) ⟨hB_st, (Or.inr ⟨rfl, by omega, rfl⟩)⟩ (by exact Nat.le_refl _) (by exact Nat.le_refl _) dX9_well_53
        · skip
          refine lv_if_eq (tgt := 52) hx hb dX9_well_39 (by decide) (fun _ => ?_) (fun h9 => absurd (by decide) h9)
          refine lv_iconst (v := 0) hx hb dX9_well_52 (by decide) ?_
          exact gs_iret hx hb hr hlocks hM hS (by decide) ⟨hB_st, (Or.inr ⟨rfl, by omega, rfl⟩)⟩ (by exact Nat.le_refl _) (by exact Nat.le_refl _) dX9_well_53
      · skip
        refine lv_if_eq (tgt := 52) hx hb dX9_well_28 (by decide) (fun _ => ?_) (fun h9 => absurd (by decide) h9)
        refine lv_iconst (v := 0) hx hb dX9_well_52 (by decide) ?_
        exact gs_iret hx hb hr hlocks hM hS (by decide) ⟨hB_st, (Or.inr ⟨rfl, by omega, rfl⟩)⟩ (by exact Nat.le_refl _) (by exact Nat.le_refl _) dX9_well_53
  · skip
    refine lv_if_eq (tgt := 18) hx hb dX9_well_4 (by decide) (fun _ => ?_) (fun h9 => absurd (by decide) h9)
    refine lv_iconst (v := 0) hx hb dX9_well_18 (by decide) ?_
    exact gs_iret hx hb hr hlocks hM hS (by decide) ⟨hB_st, (Or.inr ⟨rfl, by omega, rfl⟩)⟩ (by exact Nat.le_refl _) (by exact Nat.le_refl _) dX9_well_19

set_option maxHeartbeats 4000000 in
set_option maxRecDepth 100000 in
/-- WellCourt$Tape.append -/
theorem s_X8_appendB (l : Launch) (G : va_G) (cy : Nat → ClassId) (sK sV : Nat → Nat) (ad : Nat → Nat → Nat) (sz : Nat) (st : gS) (hB : gBd bX st) (x : Int32) (hlen : (st 1 0 1).toInt ≤ 796) : gsMv l yX8_append cX8_append 3 ({ frames := 0, cells := 0, slots := 0, locals := 0 } : Room) G cy sK sV (shX cy ad) cnX ad sz [.ref (ad 1 0), .int x] st (fun (u : gS) => gBN bX kX [101, 200] st u ∧ (((u 1 0 1).toInt = (st 1 0 1).toInt + 4) ∧ (u 2 0 = fd4 (st 2 0) (st 1 0 1).toNatClampNeg x))) := by
  refine gs_start (fun A => gsQv G (shX cy ad) cnX ad _ A) (by decide) (Nat.le_of_ble_eq_true rfl) ?_
  intro p e s m below meth c A ls H hx hb hr hml hlocks hown hts hK hov hE hI hM hm hS hA hl
  have hl : lv_has ls 3 [(0, .ref (ad 1 0)), (1, .int x)] := hl
  have hB_st : gBN bX kX [101, 200] st st := gBN.rf hB
  have b1 : (0 : Int) ≤ (st 1 0 1).toInt ∧ (st 1 0 1).toInt ≤ (800 : Int) := hB 1 0 1
  refine lv_bipush (v := 24) hx hb dX8_append_0 (by decide) ?_
  refine lv_istore_n (lv' := [(2, .int 24), (0, .ref (ad 1 0)), (1, .int x)]) hx hb dX8_append_2 rfl hl (by decide) rfl (fun ls hl => ?_)
  refine lv_iload_n hx hb dX8_append_3 rfl (lv_at hl 0 rfl) ?_
  refine lv_if_lt (tgt := 46) hx hb dX8_append_4 (by decide) (fun h9 => absurd h9 (by decide)) (fun _ => ?_)
  refine lv_aload_n hx hb dX8_append_7 rfl (lv_at hl 1 rfl) ?_
  refine gs_get (C := RX8) (T := TX8) (N := 2) hx hb hts inX8 hown hK hM 1 0 1 (by decide) rfl rfl (by decide) (hts _ gm_39) (fun _ h9 => h9) rfl dX8_append_8 ?_
  have bf_1 : (0 : Int) ≤ (st 1 0 1).toInt ∧ (st 1 0 1).toInt ≤ (800 : Int) := hB_st.1 1 0 1
  refine lv_sipush (v := 800) hx hb dX8_append_11 (by decide) ?_
  refine lv_icmp_ge (tgt := 46) hx hb dX8_append_14 (by decide) (fun c_2 => ?_) (fun c_2 => ?_)
  · have ic_2 := gz_le (by decide : (800 : Int32).toInt = 800) (rfl : (st 1 0 1).toInt = (st 1 0 1).toInt) c_2
    exact gs_vret hx hb hr hlocks hM hS ⟨hB_st, (by exfalso; omega), (by exfalso; omega)⟩ (by exact Nat.le_refl _) (by exact Nat.le_refl _) dX8_append_46
  · have ic_2 := gz_nle (by decide : (800 : Int32).toInt = 800) (rfl : (st 1 0 1).toInt = (st 1 0 1).toInt) c_2
    refine lv_aload_n hx hb dX8_append_17 rfl (lv_at hl 1 rfl) ?_
    refine gs_get (C := RX8) (T := TX8) (N := 2) hx hb hts inX8 hown hK hM 1 0 0 (by decide) rfl rfl (by decide) (hts _ gm_38) (fun _ h9 => h9) rfl dX8_append_18 ?_
    refine lv_aload_n hx hb dX8_append_21 rfl (lv_at hl 1 rfl) ?_
    refine gs_get (C := RX8) (T := TX8) (N := 2) hx hb hts inX8 hown hK hM 1 0 1 (by decide) rfl rfl (by decide) (hts _ gm_39) (fun _ h9 => h9) rfl dX8_append_22 ?_
    have bf_3 : (0 : Int) ≤ (st 1 0 1).toInt ∧ (st 1 0 1).toInt ≤ (800 : Int) := hB_st.1 1 0 1
    refine lv_iload_n hx hb dX8_append_25 rfl (lv_at hl 2 rfl) ?_
    refine lv_iload_n hx hb dX8_append_26 rfl (lv_at hl 0 rfl) ?_
    refine lv_ishr hx hb dX8_append_27 ?_
    refine lv_topi (fun x_4 ex_4 => ?_)
    obtain ⟨x_5, ex_5⟩ : ∃ y : Int32, (x_4 : Int32).toInt8.toInt32 = y := ⟨_, rfl⟩
    refine lv_i2b hx hb dX8_append_28 ex_5 ?_
    refine gs_bast hx hb hK hI hm hM hS 2 0 (by decide) (fun _ => rfl) (vp_in_iff.mpr ⟨by omega, by omega⟩) dX8_append_29 (fun st_6 H locs est_6 hM hS => ?_)
    have hB_st_6 : gBN bX kX [101, 200] st st_6 := by rw [est_6]; exact hB_st.up (show (200 : Nat) ∈ _ from by decide) (gi_lo _) (gi_hi _)
    refine lv_aload_n hx hb dX8_append_30 rfl (lv_at hl 1 rfl) ?_
    refine lv_dup hx hb dX8_append_31 rfl ?_
    refine gs_get (C := RX8) (T := TX8) (N := 2) hx hb hts inX8 hown hK hM 1 0 1 (by decide) rfl rfl (by decide) (hts _ gm_39) (fun _ h9 => h9) rfl dX8_append_32 ?_
    refine lv_topi (fun x_7 ex_7 => ?_)
    have ex_7 : (st 1 0 1) = x_7 := Eq.symm (ex_7.trans ((congrFun (congrFun (congrFun est_6 1) 0) 1).trans (congrFun (congrFun (gU_k (by decide)) 0) 1)))
    subst ex_7
    have bf_8 : (0 : Int) ≤ (st 1 0 1).toInt ∧ (st 1 0 1).toInt ≤ (800 : Int) := hB_st.1 1 0 1
    refine lv_iconst (v := 1) hx hb dX8_append_35 (by decide) ?_
    refine lv_iadd hx hb dX8_append_36 ?_
    refine lv_topi (fun x_9 ex_9 => ?_)
    try have tx_9 : x_9.toInt = (st 1 0 1).toInt + 1 := by rw [ex_9]; exact gz_addP (x := (st 1 0 1).toInt) (y := 1) rfl (by decide) (by omega) (by omega)
    refine gs_put (C := RX8) (T := TX8) (N := 2) (ty := .int) (val := .int x_9) hx hb hts inX8 tyX8 tyX8_ok nmX8 hown hK hI hm hM hS 1 0 1 (by decide) rfl rfl (by decide) (hts _ gm_39) (fun _ h9 => h9) rfl (x_9 : Int32) rfl (by decide +kernel) rfl rfl (Nat.le_of_ble_eq_true rfl) dX8_append_37 (fun st_10 H locs est_10 hM hS => ?_)
    have hB_st_10 : gBN bX kX [101, 200] st st_10 := by rw [est_10]; exact hB_st_6.up (show (101 : Nat) ∈ _ from by decide) (show (0 : Int) ≤ x_9.toInt from by omega) (show x_9.toInt ≤ (800 : Int) from by omega)
    refine lv_iinc (v := (16)) (lv' := [(2, .int 16), (0, .ref (ad 1 0)), (1, .int x)]) hx hb dX8_append_40 hl (k := 0) rfl (by decide) (by decide) rfl (fun ls hl => ?_)
    refine lv_goto (tgt := 3) hx hb dX8_append_43 (by decide) ?_
    refine lv_iload_n hx hb dX8_append_3 rfl (lv_at hl 0 rfl) ?_
    refine lv_if_lt (tgt := 46) hx hb dX8_append_4 (by decide) (fun h9 => absurd h9 (by decide)) (fun _ => ?_)
    refine lv_aload_n hx hb dX8_append_7 rfl (lv_at hl 1 rfl) ?_
    refine gs_get (C := RX8) (T := TX8) (N := 2) hx hb hts inX8 hown hK hM 1 0 1 (by decide) rfl rfl (by decide) (hts _ gm_39) (fun _ h9 => h9) rfl dX8_append_8 ?_
    refine lv_topi (fun x_11 ex_11 => ?_)
    have ex_11 : x_9 = x_11 := Eq.symm (ex_11.trans ((congrFun (congrFun (congrFun est_10 1) 0) 1).trans (gU_same _ _ _ _ _)))
    subst ex_11
    refine lv_sipush (v := 800) hx hb dX8_append_11 (by decide) ?_
    refine lv_icmp_ge (tgt := 46) hx hb dX8_append_14 (by decide) (fun c_12 => ?_) (fun c_12 => ?_)
    · have ic_12 := gz_le (by decide : (800 : Int32).toInt = 800) (rfl : x_9.toInt = x_9.toInt) c_12
      exact gs_vret hx hb hr hlocks hM hS ⟨hB_st_10, (by exfalso; omega), (by exfalso; omega)⟩ (by exact Nat.le_refl _) (by exact Nat.le_refl _) dX8_append_46
    · have ic_12 := gz_nle (by decide : (800 : Int32).toInt = 800) (rfl : x_9.toInt = x_9.toInt) c_12
      refine lv_aload_n hx hb dX8_append_17 rfl (lv_at hl 1 rfl) ?_
      refine gs_get (C := RX8) (T := TX8) (N := 2) hx hb hts inX8 hown hK hM 1 0 0 (by decide) rfl rfl (by decide) (hts _ gm_38) (fun _ h9 => h9) rfl dX8_append_18 ?_
      refine lv_aload_n hx hb dX8_append_21 rfl (lv_at hl 1 rfl) ?_
      refine gs_get (C := RX8) (T := TX8) (N := 2) hx hb hts inX8 hown hK hM 1 0 1 (by decide) rfl rfl (by decide) (hts _ gm_39) (fun _ h9 => h9) rfl dX8_append_22 ?_
      refine lv_topi (fun x_13 ex_13 => ?_)
      have ex_13 : x_9 = x_13 := Eq.symm (ex_13.trans ((congrFun (congrFun (congrFun est_10 1) 0) 1).trans (gU_same _ _ _ _ _)))
      subst ex_13
      refine lv_iload_n hx hb dX8_append_25 rfl (lv_at hl 2 rfl) ?_
      refine lv_iload_n hx hb dX8_append_26 rfl (lv_at hl 0 rfl) ?_
      refine lv_ishr hx hb dX8_append_27 ?_
      refine lv_topi (fun x_14 ex_14 => ?_)
      obtain ⟨x_15, ex_15⟩ : ∃ y : Int32, (x_14 : Int32).toInt8.toInt32 = y := ⟨_, rfl⟩
      refine lv_i2b hx hb dX8_append_28 ex_15 ?_
      refine gs_bast hx hb hK hI hm hM hS 2 0 (by decide) (fun _ => rfl) (vp_in_iff.mpr ⟨by omega, by omega⟩) dX8_append_29 (fun st_16 H locs est_16 hM hS => ?_)
      have hB_st_16 : gBN bX kX [101, 200] st st_16 := by rw [est_16]; exact hB_st_10.up (show (200 : Nat) ∈ _ from by decide) (gi_lo _) (gi_hi _)
      refine lv_aload_n hx hb dX8_append_30 rfl (lv_at hl 1 rfl) ?_
      refine lv_dup hx hb dX8_append_31 rfl ?_
      refine gs_get (C := RX8) (T := TX8) (N := 2) hx hb hts inX8 hown hK hM 1 0 1 (by decide) rfl rfl (by decide) (hts _ gm_39) (fun _ h9 => h9) rfl dX8_append_32 ?_
      refine lv_topi (fun x_17 ex_17 => ?_)
      have ex_17 : x_9 = x_17 := Eq.symm (ex_17.trans (((congrFun (congrFun (congrFun est_16 1) 0) 1).trans (congrFun (congrFun (gU_k (by decide)) 0) 1)).trans ((congrFun (congrFun (congrFun est_10 1) 0) 1).trans (gU_same _ _ _ _ _))))
      subst ex_17
      refine lv_iconst (v := 1) hx hb dX8_append_35 (by decide) ?_
      refine lv_iadd hx hb dX8_append_36 ?_
      refine lv_topi (fun x_18 ex_18 => ?_)
      try have tx_18 : x_18.toInt = x_9.toInt + 1 := by rw [ex_18]; exact gz_addP (x := x_9.toInt) (y := 1) rfl (by decide) (by omega) (by omega)
      refine gs_put (C := RX8) (T := TX8) (N := 2) (ty := .int) (val := .int x_18) hx hb hts inX8 tyX8 tyX8_ok nmX8 hown hK hI hm hM hS 1 0 1 (by decide) rfl rfl (by decide) (hts _ gm_39) (fun _ h9 => h9) rfl (x_18 : Int32) rfl (by decide +kernel) rfl rfl (Nat.le_of_ble_eq_true rfl) dX8_append_37 (fun st_19 H locs est_19 hM hS => ?_)
      have hB_st_19 : gBN bX kX [101, 200] st st_19 := by rw [est_19]; exact hB_st_16.up (show (101 : Nat) ∈ _ from by decide) (show (0 : Int) ≤ x_18.toInt from by omega) (show x_18.toInt ≤ (800 : Int) from by omega)
      refine lv_iinc (v := (8)) (lv' := [(2, .int 8), (0, .ref (ad 1 0)), (1, .int x)]) hx hb dX8_append_40 hl (k := 0) rfl (by decide) (by decide) rfl (fun ls hl => ?_)
      refine lv_goto (tgt := 3) hx hb dX8_append_43 (by decide) ?_
      refine lv_iload_n hx hb dX8_append_3 rfl (lv_at hl 0 rfl) ?_
      refine lv_if_lt (tgt := 46) hx hb dX8_append_4 (by decide) (fun h9 => absurd h9 (by decide)) (fun _ => ?_)
      refine lv_aload_n hx hb dX8_append_7 rfl (lv_at hl 1 rfl) ?_
      refine gs_get (C := RX8) (T := TX8) (N := 2) hx hb hts inX8 hown hK hM 1 0 1 (by decide) rfl rfl (by decide) (hts _ gm_39) (fun _ h9 => h9) rfl dX8_append_8 ?_
      refine lv_topi (fun x_20 ex_20 => ?_)
      have ex_20 : x_18 = x_20 := Eq.symm (ex_20.trans ((congrFun (congrFun (congrFun est_19 1) 0) 1).trans (gU_same _ _ _ _ _)))
      subst ex_20
      refine lv_sipush (v := 800) hx hb dX8_append_11 (by decide) ?_
      refine lv_icmp_ge (tgt := 46) hx hb dX8_append_14 (by decide) (fun c_21 => ?_) (fun c_21 => ?_)
      · have ic_21 := gz_le (by decide : (800 : Int32).toInt = 800) (rfl : x_18.toInt = x_18.toInt) c_21
        exact gs_vret hx hb hr hlocks hM hS ⟨hB_st_19, (by exfalso; omega), (by exfalso; omega)⟩ (by exact Nat.le_refl _) (by exact Nat.le_refl _) dX8_append_46
      · have ic_21 := gz_nle (by decide : (800 : Int32).toInt = 800) (rfl : x_18.toInt = x_18.toInt) c_21
        refine lv_aload_n hx hb dX8_append_17 rfl (lv_at hl 1 rfl) ?_
        refine gs_get (C := RX8) (T := TX8) (N := 2) hx hb hts inX8 hown hK hM 1 0 0 (by decide) rfl rfl (by decide) (hts _ gm_38) (fun _ h9 => h9) rfl dX8_append_18 ?_
        refine lv_aload_n hx hb dX8_append_21 rfl (lv_at hl 1 rfl) ?_
        refine gs_get (C := RX8) (T := TX8) (N := 2) hx hb hts inX8 hown hK hM 1 0 1 (by decide) rfl rfl (by decide) (hts _ gm_39) (fun _ h9 => h9) rfl dX8_append_22 ?_
        refine lv_topi (fun x_22 ex_22 => ?_)
        have ex_22 : x_18 = x_22 := Eq.symm (ex_22.trans ((congrFun (congrFun (congrFun est_19 1) 0) 1).trans (gU_same _ _ _ _ _)))
        subst ex_22
        refine lv_iload_n hx hb dX8_append_25 rfl (lv_at hl 2 rfl) ?_
        refine lv_iload_n hx hb dX8_append_26 rfl (lv_at hl 0 rfl) ?_
        refine lv_ishr hx hb dX8_append_27 ?_
        refine lv_topi (fun x_23 ex_23 => ?_)
        obtain ⟨x_24, ex_24⟩ : ∃ y : Int32, (x_23 : Int32).toInt8.toInt32 = y := ⟨_, rfl⟩
        refine lv_i2b hx hb dX8_append_28 ex_24 ?_
        refine gs_bast hx hb hK hI hm hM hS 2 0 (by decide) (fun _ => rfl) (vp_in_iff.mpr ⟨by omega, by omega⟩) dX8_append_29 (fun st_25 H locs est_25 hM hS => ?_)
        have hB_st_25 : gBN bX kX [101, 200] st st_25 := by rw [est_25]; exact hB_st_19.up (show (200 : Nat) ∈ _ from by decide) (gi_lo _) (gi_hi _)
        refine lv_aload_n hx hb dX8_append_30 rfl (lv_at hl 1 rfl) ?_
        refine lv_dup hx hb dX8_append_31 rfl ?_
        refine gs_get (C := RX8) (T := TX8) (N := 2) hx hb hts inX8 hown hK hM 1 0 1 (by decide) rfl rfl (by decide) (hts _ gm_39) (fun _ h9 => h9) rfl dX8_append_32 ?_
        refine lv_topi (fun x_26 ex_26 => ?_)
        have ex_26 : x_18 = x_26 := Eq.symm (ex_26.trans (((congrFun (congrFun (congrFun est_25 1) 0) 1).trans (congrFun (congrFun (gU_k (by decide)) 0) 1)).trans ((congrFun (congrFun (congrFun est_19 1) 0) 1).trans (gU_same _ _ _ _ _))))
        subst ex_26
        refine lv_iconst (v := 1) hx hb dX8_append_35 (by decide) ?_
        refine lv_iadd hx hb dX8_append_36 ?_
        refine lv_topi (fun x_27 ex_27 => ?_)
        try have tx_27 : x_27.toInt = x_18.toInt + 1 := by rw [ex_27]; exact gz_addP (x := x_18.toInt) (y := 1) rfl (by decide) (by omega) (by omega)
        refine gs_put (C := RX8) (T := TX8) (N := 2) (ty := .int) (val := .int x_27) hx hb hts inX8 tyX8 tyX8_ok nmX8 hown hK hI hm hM hS 1 0 1 (by decide) rfl rfl (by decide) (hts _ gm_39) (fun _ h9 => h9) rfl (x_27 : Int32) rfl (by decide +kernel) rfl rfl (Nat.le_of_ble_eq_true rfl) dX8_append_37 (fun st_28 H locs est_28 hM hS => ?_)
        have hB_st_28 : gBN bX kX [101, 200] st st_28 := by rw [est_28]; exact hB_st_25.up (show (101 : Nat) ∈ _ from by decide) (show (0 : Int) ≤ x_27.toInt from by omega) (show x_27.toInt ≤ (800 : Int) from by omega)
        refine lv_iinc (v := (0)) (lv' := [(2, .int 0), (0, .ref (ad 1 0)), (1, .int x)]) hx hb dX8_append_40 hl (k := 0) rfl (by decide) (by decide) rfl (fun ls hl => ?_)
        refine lv_goto (tgt := 3) hx hb dX8_append_43 (by decide) ?_
        refine lv_iload_n hx hb dX8_append_3 rfl (lv_at hl 0 rfl) ?_
        refine lv_if_lt (tgt := 46) hx hb dX8_append_4 (by decide) (fun h9 => absurd h9 (by decide)) (fun _ => ?_)
        refine lv_aload_n hx hb dX8_append_7 rfl (lv_at hl 1 rfl) ?_
        refine gs_get (C := RX8) (T := TX8) (N := 2) hx hb hts inX8 hown hK hM 1 0 1 (by decide) rfl rfl (by decide) (hts _ gm_39) (fun _ h9 => h9) rfl dX8_append_8 ?_
        refine lv_topi (fun x_29 ex_29 => ?_)
        have ex_29 : x_27 = x_29 := Eq.symm (ex_29.trans ((congrFun (congrFun (congrFun est_28 1) 0) 1).trans (gU_same _ _ _ _ _)))
        subst ex_29
        refine lv_sipush (v := 800) hx hb dX8_append_11 (by decide) ?_
        refine lv_icmp_ge (tgt := 46) hx hb dX8_append_14 (by decide) (fun c_30 => ?_) (fun c_30 => ?_)
        · have ic_30 := gz_le (by decide : (800 : Int32).toInt = 800) (rfl : x_27.toInt = x_27.toInt) c_30
          exact gs_vret hx hb hr hlocks hM hS ⟨hB_st_28, (by exfalso; omega), (by exfalso; omega)⟩ (by exact Nat.le_refl _) (by exact Nat.le_refl _) dX8_append_46
        · have ic_30 := gz_nle (by decide : (800 : Int32).toInt = 800) (rfl : x_27.toInt = x_27.toInt) c_30
          refine lv_aload_n hx hb dX8_append_17 rfl (lv_at hl 1 rfl) ?_
          refine gs_get (C := RX8) (T := TX8) (N := 2) hx hb hts inX8 hown hK hM 1 0 0 (by decide) rfl rfl (by decide) (hts _ gm_38) (fun _ h9 => h9) rfl dX8_append_18 ?_
          refine lv_aload_n hx hb dX8_append_21 rfl (lv_at hl 1 rfl) ?_
          refine gs_get (C := RX8) (T := TX8) (N := 2) hx hb hts inX8 hown hK hM 1 0 1 (by decide) rfl rfl (by decide) (hts _ gm_39) (fun _ h9 => h9) rfl dX8_append_22 ?_
          refine lv_topi (fun x_31 ex_31 => ?_)
          have ex_31 : x_27 = x_31 := Eq.symm (ex_31.trans ((congrFun (congrFun (congrFun est_28 1) 0) 1).trans (gU_same _ _ _ _ _)))
          subst ex_31
          refine lv_iload_n hx hb dX8_append_25 rfl (lv_at hl 2 rfl) ?_
          refine lv_iload_n hx hb dX8_append_26 rfl (lv_at hl 0 rfl) ?_
          refine lv_ishr hx hb dX8_append_27 ?_
          refine lv_topi (fun x_32 ex_32 => ?_)
          obtain ⟨x_33, ex_33⟩ : ∃ y : Int32, (x_32 : Int32).toInt8.toInt32 = y := ⟨_, rfl⟩
          refine lv_i2b hx hb dX8_append_28 ex_33 ?_
          refine gs_bast hx hb hK hI hm hM hS 2 0 (by decide) (fun _ => rfl) (vp_in_iff.mpr ⟨by omega, by omega⟩) dX8_append_29 (fun st_34 H locs est_34 hM hS => ?_)
          have hB_st_34 : gBN bX kX [101, 200] st st_34 := by rw [est_34]; exact hB_st_28.up (show (200 : Nat) ∈ _ from by decide) (gi_lo _) (gi_hi _)
          refine lv_aload_n hx hb dX8_append_30 rfl (lv_at hl 1 rfl) ?_
          refine lv_dup hx hb dX8_append_31 rfl ?_
          refine gs_get (C := RX8) (T := TX8) (N := 2) hx hb hts inX8 hown hK hM 1 0 1 (by decide) rfl rfl (by decide) (hts _ gm_39) (fun _ h9 => h9) rfl dX8_append_32 ?_
          refine lv_topi (fun x_35 ex_35 => ?_)
          have ex_35 : x_27 = x_35 := Eq.symm (ex_35.trans (((congrFun (congrFun (congrFun est_34 1) 0) 1).trans (congrFun (congrFun (gU_k (by decide)) 0) 1)).trans ((congrFun (congrFun (congrFun est_28 1) 0) 1).trans (gU_same _ _ _ _ _))))
          subst ex_35
          refine lv_iconst (v := 1) hx hb dX8_append_35 (by decide) ?_
          refine lv_iadd hx hb dX8_append_36 ?_
          refine lv_topi (fun x_36 ex_36 => ?_)
          try have tx_36 : x_36.toInt = x_27.toInt + 1 := by rw [ex_36]; exact gz_addP (x := x_27.toInt) (y := 1) rfl (by decide) (by omega) (by omega)
          refine gs_put (C := RX8) (T := TX8) (N := 2) (ty := .int) (val := .int x_36) hx hb hts inX8 tyX8 tyX8_ok nmX8 hown hK hI hm hM hS 1 0 1 (by decide) rfl rfl (by decide) (hts _ gm_39) (fun _ h9 => h9) rfl (x_36 : Int32) rfl (by decide +kernel) rfl rfl (Nat.le_of_ble_eq_true rfl) dX8_append_37 (fun st_37 H locs est_37 hM hS => ?_)
          have hB_st_37 : gBN bX kX [101, 200] st st_37 := by rw [est_37]; exact hB_st_34.up (show (101 : Nat) ∈ _ from by decide) (show (0 : Int) ≤ x_36.toInt from by omega) (show x_36.toInt ≤ (800 : Int) from by omega)
          refine lv_iinc (v := ((-8))) (lv' := [(2, .int (-8)), (0, .ref (ad 1 0)), (1, .int x)]) hx hb dX8_append_40 hl (k := 0) rfl (by decide) (by decide) rfl (fun ls hl => ?_)
          refine lv_goto (tgt := 3) hx hb dX8_append_43 (by decide) ?_
          refine lv_iload_n hx hb dX8_append_3 rfl (lv_at hl 0 rfl) ?_
          refine lv_if_lt (tgt := 46) hx hb dX8_append_4 (by decide) (fun _ => ?_) (fun h9 => absurd (by decide) h9)
          exact gs_vret hx hb hr hlocks hM hS ⟨hB_st_37, (by have hq0 : (st_37 1 0 1).toInt = (x_36 : Int32).toInt := congrArg Int32.toInt (((congrFun (congrFun (congrFun est_37 1) 0) 1).trans (gU_same _ _ _ _ _))); have hb1 : (0 : Int) ≤ (st_37 1 0 1).toInt ∧ (st_37 1 0 1).toInt ≤ (800 : Int) := hB_st_37.1 1 0 1; have hb2 : (0 : Int) ≤ (st 1 0 1).toInt ∧ (st 1 0 1).toInt ≤ (800 : Int) := hB_st.1 1 0 1; omega), (((congrFun (congrFun est_37 2) 0).trans ((congrFun (gU_k (by decide)) 0).trans ((congrFun (congrFun est_34 2) 0).trans ((gU_at _ _ _ _ _).trans (congrArg (fun f9 => upd f9 (x_27.toNatClampNeg) ((vp_nar .byte x_33) : Int32)) ((congrFun (congrFun est_28 2) 0).trans ((congrFun (gU_k (by decide)) 0).trans ((congrFun (congrFun est_25 2) 0).trans ((gU_at _ _ _ _ _).trans (congrArg (fun f9 => upd f9 (x_18.toNatClampNeg) ((vp_nar .byte x_24) : Int32)) ((congrFun (congrFun est_19 2) 0).trans ((congrFun (gU_k (by decide)) 0).trans ((congrFun (congrFun est_16 2) 0).trans ((gU_at _ _ _ _ _).trans (congrArg (fun f9 => upd f9 (x_9.toNatClampNeg) ((vp_nar .byte x_15) : Int32)) ((congrFun (congrFun est_10 2) 0).trans ((congrFun (gU_k (by decide)) 0).trans ((congrFun (congrFun est_6 2) 0).trans ((gU_at _ _ _ _ _).trans (congrArg (fun f9 => upd f9 ((st 1 0 1).toNatClampNeg) ((vp_nar .byte x_5) : Int32)) rfl)))))))))))))))))))).trans (by rw [← ex_5, ex_4, ← ex_15, ex_14, ← ex_24, ex_23, ← ex_33, ex_32, show x_9.toNatClampNeg = (st 1 0 1).toNatClampNeg + 1 from (by have h8 := gs_cl (x := x_9) (by omega); have h9 := gs_cl (x := (st 1 0 1)) (by omega); omega), show x_18.toNatClampNeg = (st 1 0 1).toNatClampNeg + 2 from (by have h8 := gs_cl (x := x_18) (by omega); have h9 := gs_cl (x := (st 1 0 1)) (by omega); omega), show x_27.toNatClampNeg = (st 1 0 1).toNatClampNeg + 3 from (by have h8 := gs_cl (x := x_27) (by omega); have h9 := gs_cl (x := (st 1 0 1)) (by omega); omega)]; rfl))⟩ (by exact Nat.le_refl _) (by exact Nat.le_refl _) dX8_append_46

set_option maxHeartbeats 4000000 in
set_option maxRecDepth 100000 in
/-- WellCourt.feed -/
theorem s_feed (l : Launch) (G : va_G) (cy : Nat → ClassId) (sK sV : Nat → Nat) (ad : Nat → Nat → Nat) (sz : Nat) (st : gS) (hB : gBd bX st) (x : Int32) (y : Int32) (w : Int32) (v : Int32) (t : Int32) : gsMi l yX9_feed cX9_feed 6 (some .int) ({ frames := 1, cells := 0, slots := 0, locals := 22 } : Room) G cy sK sV (shX cy ad) cnX ad sz [.ref (ad 0 0), .int x, .int y, .int w, .int v, .int t] st (fun (r : Int32) (u : gS) => gBN bX kX [101, 200] st u ∧ (((r.toInt = -1 ∧ 780 < (st 1 0 1).toInt ∧ (u 1 0 1).toInt = (st 1 0 1).toInt ∧ u 2 0 = st 2 0) ∨ ((st 1 0 1).toInt ≤ 780 ∧ r.toInt = (st 1 0 1).toInt + 20 ∧ (u 1 0 1).toInt = (st 1 0 1).toInt + 20 ∧ u 2 0 = fd20 (st 2 0) (st 1 0 1).toNatClampNeg x y w v t)))) := by
  refine gs_start (fun A => gsQi G (shX cy ad) cnX ad _ A) (by decide) (Nat.le_of_ble_eq_true rfl) ?_
  intro p e s m below meth c A ls H hx hb hr hml hlocks hown hts hK hov hE hI hM hm hS hA hl
  have hl : lv_has ls 6 [(0, .ref (ad 0 0)), (1, .int x), (2, .int y), (3, .int w), (4, .int v), (5, .int t)] := hl
  have hB_st : gBN bX kX [101, 200] st st := gBN.rf hB
  have b1 : (0 : Int) ≤ (st 1 0 1).toInt ∧ (st 1 0 1).toInt ≤ (800 : Int) := hB 1 0 1
  refine lv_aload_n hx hb dX9_feed_0 rfl (lv_at hl 0 rfl) ?_
  refine gs_get (C := RX9) (T := TX9) (N := 12) hx hb hts inX9 hown hK hM 0 0 0 (by decide) rfl rfl (by decide) (hts _ gm_291) (fun _ h9 => h9) rfl dX9_feed_1 ?_
  refine gs_getN (host := "WellCourt") (C := RX8) (T := TX8) (N := 2) hx hb hts inX8 hown hK hM 1 0 1 (by decide) rfl rfl (by decide) (va_Nw.use rfl (hov.2.2 _ gn_40)) (fun _ h9 => h9) rfl dX9_feed_4 ?_
  have bf_1 : (0 : Int) ≤ (st 1 0 1).toInt ∧ (st 1 0 1).toInt ≤ (800 : Int) := hB_st.1 1 0 1
  refine lv_bipush (v := 20) hx hb dX9_feed_7 (by decide) ?_
  refine lv_iadd hx hb dX9_feed_9 ?_
  refine lv_topi (fun x_2 ex_2 => ?_)
  try have tx_2 : x_2.toInt = (st 1 0 1).toInt + 20 := by rw [ex_2]; exact gz_addP (x := (st 1 0 1).toInt) (y := 20) rfl (by decide) (by omega) (by omega)
  refine lv_sipush (v := 800) hx hb dX9_feed_10 (by decide) ?_
  refine lv_icmp_le (tgt := 18) hx hb dX9_feed_13 (by decide) (fun c_3 => ?_) (fun c_3 => ?_)
  · have ic_3 := gz_le (rfl : x_2.toInt = x_2.toInt) (by decide : (800 : Int32).toInt = 800) c_3
    refine lv_aload_n hx hb dX9_feed_18 rfl (lv_at hl 0 rfl) ?_
    refine gs_get (C := RX9) (T := TX9) (N := 12) hx hb hts inX9 hown hK hM 0 0 0 (by decide) rfl rfl (by decide) (hts _ gm_291) (fun _ h9 => h9) rfl dX9_feed_19 ?_
    refine lv_iload_n hx hb dX9_feed_22 rfl (lv_at hl 1 rfl) ?_
    refine gs_callv (va_runV (As := [.int x]) (rest := []) ⟨hx, hb, hml, hown, hts⟩ (s_X8_appendB l G cy sK sV ad H.size st hB_st.1 x (by have hb0 : (0 : Int) ≤ (st 1 0 1).toInt ∧ (st 1 0 1).toInt ≤ (800 : Int) := hB_st.1 1 0 1; omega)) ⟨(gz_cb (n := 1) hts gm_332 gm_2 gm_335 ⟨by decide +kernel, by decide +kernel, by decide +kernel⟩ ⟨Nat.le_of_ble_eq_true rfl, Nat.le_of_ble_eq_true rfl⟩), hts _ gm_333, hts _ gm_334⟩ (gs_preV hK hov hE hI hM hm hS hA 1 0 (by decide) rfl rfl) rfl rfl hl.1 rfl (lv_room (Nat.le_of_ble_eq_true rfl)) dX9_feed_23 ⟨Nat.le_of_ble_eq_true rfl, Nat.le_of_ble_eq_true rfl⟩) hm hS hA (fun st_4 H locs hw_4 hM hS => ?_)
    obtain ⟨n_4, hw_4⟩ := hw_4
    have hB_st_4 : gBN bX kX [101, 200] st st_4 := hB_st.call n_4 (by decide)
    have hbhw_40 : (0 : Int) ≤ (st 1 0 1).toInt ∧ (st 1 0 1).toInt ≤ (800 : Int) := hB_st.1 1 0 1
    obtain ⟨hw_4_0, hw_4_1⟩ := hw_4
    refine lv_aload_n hx hb dX9_feed_26 rfl (lv_at hl 0 rfl) ?_
    refine gs_get (C := RX9) (T := TX9) (N := 12) hx hb hts inX9 hown hK hM 0 0 0 (by decide) rfl rfl (by decide) (hts _ gm_291) (fun _ h9 => h9) rfl dX9_feed_27 ?_
    refine lv_iload_n hx hb dX9_feed_30 rfl (lv_at hl 2 rfl) ?_
    refine gs_callv (va_runV (As := [.int y]) (rest := []) ⟨hx, hb, hml, hown, hts⟩ (s_X8_appendB l G cy sK sV ad H.size st_4 hB_st_4.1 y (by have hb0 : (0 : Int) ≤ (st_4 1 0 1).toInt ∧ (st_4 1 0 1).toInt ≤ (800 : Int) := hB_st_4.1 1 0 1; omega)) ⟨(gz_cb (n := 1) hts gm_332 gm_2 gm_335 ⟨by decide +kernel, by decide +kernel, by decide +kernel⟩ ⟨Nat.le_of_ble_eq_true rfl, Nat.le_of_ble_eq_true rfl⟩), hts _ gm_333, hts _ gm_334⟩ (gs_preV hK hov hE hI hM hm hS hA 1 0 (by decide) rfl rfl) rfl rfl hl.1 rfl (lv_room (Nat.le_of_ble_eq_true rfl)) dX9_feed_31 ⟨Nat.le_of_ble_eq_true rfl, Nat.le_of_ble_eq_true rfl⟩) hm hS hA (fun st_5 H locs hw_5 hM hS => ?_)
    obtain ⟨n_5, hw_5⟩ := hw_5
    have hB_st_5 : gBN bX kX [101, 200] st st_5 := hB_st_4.call n_5 (by decide)
    have hbhw_50 : (0 : Int) ≤ (st_4 1 0 1).toInt ∧ (st_4 1 0 1).toInt ≤ (800 : Int) := hB_st_4.1 1 0 1
    obtain ⟨hw_5_0, hw_5_1⟩ := hw_5
    refine lv_aload_n hx hb dX9_feed_34 rfl (lv_at hl 0 rfl) ?_
    refine gs_get (C := RX9) (T := TX9) (N := 12) hx hb hts inX9 hown hK hM 0 0 0 (by decide) rfl rfl (by decide) (hts _ gm_291) (fun _ h9 => h9) rfl dX9_feed_35 ?_
    refine lv_iload_n hx hb dX9_feed_38 rfl (lv_at hl 3 rfl) ?_
    refine gs_callv (va_runV (As := [.int w]) (rest := []) ⟨hx, hb, hml, hown, hts⟩ (s_X8_appendB l G cy sK sV ad H.size st_5 hB_st_5.1 w (by have hb0 : (0 : Int) ≤ (st_5 1 0 1).toInt ∧ (st_5 1 0 1).toInt ≤ (800 : Int) := hB_st_5.1 1 0 1; omega)) ⟨(gz_cb (n := 1) hts gm_332 gm_2 gm_335 ⟨by decide +kernel, by decide +kernel, by decide +kernel⟩ ⟨Nat.le_of_ble_eq_true rfl, Nat.le_of_ble_eq_true rfl⟩), hts _ gm_333, hts _ gm_334⟩ (gs_preV hK hov hE hI hM hm hS hA 1 0 (by decide) rfl rfl) rfl rfl hl.1 rfl (lv_room (Nat.le_of_ble_eq_true rfl)) dX9_feed_39 ⟨Nat.le_of_ble_eq_true rfl, Nat.le_of_ble_eq_true rfl⟩) hm hS hA (fun st_6 H locs hw_6 hM hS => ?_)
    obtain ⟨n_6, hw_6⟩ := hw_6
    have hB_st_6 : gBN bX kX [101, 200] st st_6 := hB_st_5.call n_6 (by decide)
    have hbhw_60 : (0 : Int) ≤ (st_5 1 0 1).toInt ∧ (st_5 1 0 1).toInt ≤ (800 : Int) := hB_st_5.1 1 0 1
    obtain ⟨hw_6_0, hw_6_1⟩ := hw_6
    refine lv_aload_n hx hb dX9_feed_42 rfl (lv_at hl 0 rfl) ?_
    refine gs_get (C := RX9) (T := TX9) (N := 12) hx hb hts inX9 hown hK hM 0 0 0 (by decide) rfl rfl (by decide) (hts _ gm_291) (fun _ h9 => h9) rfl dX9_feed_43 ?_
    refine lv_iload hx hb dX9_feed_46 (lv_at hl 4 rfl) ?_
    refine gs_callv (va_runV (As := [.int v]) (rest := []) ⟨hx, hb, hml, hown, hts⟩ (s_X8_appendB l G cy sK sV ad H.size st_6 hB_st_6.1 v (by have hb0 : (0 : Int) ≤ (st_6 1 0 1).toInt ∧ (st_6 1 0 1).toInt ≤ (800 : Int) := hB_st_6.1 1 0 1; omega)) ⟨(gz_cb (n := 1) hts gm_332 gm_2 gm_335 ⟨by decide +kernel, by decide +kernel, by decide +kernel⟩ ⟨Nat.le_of_ble_eq_true rfl, Nat.le_of_ble_eq_true rfl⟩), hts _ gm_333, hts _ gm_334⟩ (gs_preV hK hov hE hI hM hm hS hA 1 0 (by decide) rfl rfl) rfl rfl hl.1 rfl (lv_room (Nat.le_of_ble_eq_true rfl)) dX9_feed_48 ⟨Nat.le_of_ble_eq_true rfl, Nat.le_of_ble_eq_true rfl⟩) hm hS hA (fun st_7 H locs hw_7 hM hS => ?_)
    obtain ⟨n_7, hw_7⟩ := hw_7
    have hB_st_7 : gBN bX kX [101, 200] st st_7 := hB_st_6.call n_7 (by decide)
    have hbhw_70 : (0 : Int) ≤ (st_6 1 0 1).toInt ∧ (st_6 1 0 1).toInt ≤ (800 : Int) := hB_st_6.1 1 0 1
    obtain ⟨hw_7_0, hw_7_1⟩ := hw_7
    refine lv_aload_n hx hb dX9_feed_51 rfl (lv_at hl 0 rfl) ?_
    refine gs_get (C := RX9) (T := TX9) (N := 12) hx hb hts inX9 hown hK hM 0 0 0 (by decide) rfl rfl (by decide) (hts _ gm_291) (fun _ h9 => h9) rfl dX9_feed_52 ?_
    refine lv_iload hx hb dX9_feed_55 (lv_at hl 5 rfl) ?_
    refine gs_callv (va_runV (As := [.int t]) (rest := []) ⟨hx, hb, hml, hown, hts⟩ (s_X8_appendB l G cy sK sV ad H.size st_7 hB_st_7.1 t (by have hb0 : (0 : Int) ≤ (st_7 1 0 1).toInt ∧ (st_7 1 0 1).toInt ≤ (800 : Int) := hB_st_7.1 1 0 1; omega)) ⟨(gz_cb (n := 1) hts gm_332 gm_2 gm_335 ⟨by decide +kernel, by decide +kernel, by decide +kernel⟩ ⟨Nat.le_of_ble_eq_true rfl, Nat.le_of_ble_eq_true rfl⟩), hts _ gm_333, hts _ gm_334⟩ (gs_preV hK hov hE hI hM hm hS hA 1 0 (by decide) rfl rfl) rfl rfl hl.1 rfl (lv_room (Nat.le_of_ble_eq_true rfl)) dX9_feed_57 ⟨Nat.le_of_ble_eq_true rfl, Nat.le_of_ble_eq_true rfl⟩) hm hS hA (fun st_8 H locs hw_8 hM hS => ?_)
    obtain ⟨n_8, hw_8⟩ := hw_8
    have hB_st_8 : gBN bX kX [101, 200] st st_8 := hB_st_7.call n_8 (by decide)
    have hbhw_80 : (0 : Int) ≤ (st_7 1 0 1).toInt ∧ (st_7 1 0 1).toInt ≤ (800 : Int) := hB_st_7.1 1 0 1
    obtain ⟨hw_8_0, hw_8_1⟩ := hw_8
    refine lv_aload_n hx hb dX9_feed_60 rfl (lv_at hl 0 rfl) ?_
    refine gs_get (C := RX9) (T := TX9) (N := 12) hx hb hts inX9 hown hK hM 0 0 0 (by decide) rfl rfl (by decide) (hts _ gm_291) (fun _ h9 => h9) rfl dX9_feed_61 ?_
    refine gs_getN (host := "WellCourt") (C := RX8) (T := TX8) (N := 2) hx hb hts inX8 hown hK hM 1 0 1 (by decide) rfl rfl (by decide) (va_Nw.use rfl (hov.2.2 _ gn_40)) (fun _ h9 => h9) rfl dX9_feed_64 ?_
    have bf_9 : (0 : Int) ≤ (st_8 1 0 1).toInt ∧ (st_8 1 0 1).toInt ≤ (800 : Int) := hB_st_8.1 1 0 1
    exact gs_iret hx hb hr hlocks hM hS rfl ⟨hB_st_8, (Or.inr ⟨by omega, by omega, by omega, (by have hc := gs_cl (x := st 1 0 1) (by omega); have hc0 := gs_cl (x := st_7 1 0 1) (by omega); have hc1 := gs_cl (x := st_6 1 0 1) (by omega); have hc2 := gs_cl (x := st_5 1 0 1) (by omega); have hc3 := gs_cl (x := st_4 1 0 1) (by omega); unfold fd20; rw [hw_8_1, hw_7_1, hw_6_1, hw_5_1, hw_4_1, show (st_7 1 0 1).toNatClampNeg = (st 1 0 1).toNatClampNeg + 16 from (by omega), show (st_6 1 0 1).toNatClampNeg = (st 1 0 1).toNatClampNeg + 12 from (by omega), show (st_5 1 0 1).toNatClampNeg = (st 1 0 1).toNatClampNeg + 8 from (by omega), show (st_4 1 0 1).toNatClampNeg = (st 1 0 1).toNatClampNeg + 4 from (by omega)]; all_goals rfl)⟩)⟩ (by exact Nat.le_refl _) (by exact Nat.le_refl _) dX9_feed_67
  · have ic_3 := gz_nle (rfl : x_2.toInt = x_2.toInt) (by decide : (800 : Int32).toInt = 800) c_3
    refine lv_iconst (v := (-1)) hx hb dX9_feed_16 (by decide) ?_
    exact gs_iret hx hb hr hlocks hM hS rfl ⟨hB_st, (Or.inl ⟨by decide, by omega, (by have hl0 : ((-1) : Int32).toInt = -1 := (by decide); have hb1 : (0 : Int) ≤ (st 1 0 1).toInt ∧ (st 1 0 1).toInt ≤ (800 : Int) := hB_st.1 1 0 1; omega), rfl⟩)⟩ (by exact Nat.le_refl _) (by exact Nat.le_refl _) dX9_feed_17

set_option maxHeartbeats 4000000 in
set_option maxRecDepth 100000 in
/-- WellCourt.end -/
theorem s_end (l : Launch) (G : va_G) (cy : Nat → ClassId) (sK sV : Nat → Nat) (ad : Nat → Nat → Nat) (sz : Nat) (st : gS) (hB : gBd bX st) (x : Int32) (Xx : Int) (kx : x.toInt = Xx) : gsMi l yX9_end cX9_end 2 (some .boolean) ({ frames := 0, cells := 0, slots := 0, locals := 0 } : Room) G cy sK sV (shX cy ad) cnX ad sz [.ref (ad 0 0), .int x] st (fun (r : Int32) (u : gS) => gBN bX kX [101] st u ∧ ((r = 1 ∧ (0 ≤ Xx) ∧ (Xx ≤ (st 1 0 1).toInt) ∧ ((u 1 0 1).toInt = Xx)) ∨ (r = 0 ∧ (Xx < 0 ∨ (st 1 0 1).toInt < Xx) ∧ ((u 1 0 1).toInt = (st 1 0 1).toInt)))) := by
  refine gs_start (fun A => gsQi G (shX cy ad) cnX ad _ A) (by decide) (Nat.le_of_ble_eq_true rfl) ?_
  intro p e s m below meth c A ls H hx hb hr hml hlocks hown hts hK hov hE hI hM hm hS hA hl
  have hl : lv_has ls 2 [(0, .ref (ad 0 0)), (1, .int x)] := hl
  have hB_st : gBN bX kX [101] st st := gBN.rf hB
  refine lv_iload_n hx hb dX9_end_0 rfl (lv_at hl 1 rfl) ?_
  refine lv_if_lt (tgt := 15) hx hb dX9_end_1 (by decide) (fun c_1 => ?_) (fun c_1 => ?_)
  · have ic_1 := gz_lt (rfl : x.toInt = x.toInt) (by decide : (0 : Int32).toInt = 0) c_1
    refine lv_iconst (v := 0) hx hb dX9_end_15 (by decide) ?_
    exact gs_iret hx hb hr hlocks hM hS (by decide) ⟨hB_st, (Or.inr (⟨rfl, (by have hl0 : (0 : Int32).toInt = 0 := (by decide); have hb1 : (0 : Int) ≤ (st 1 0 1).toInt ∧ (st 1 0 1).toInt ≤ (800 : Int) := hB_st.1 1 0 1; omega), (by have hl0 : (0 : Int32).toInt = 0 := (by decide); have hb1 : (0 : Int) ≤ (st 1 0 1).toInt ∧ (st 1 0 1).toInt ≤ (800 : Int) := hB_st.1 1 0 1; omega)⟩))⟩ (by exact Nat.le_refl _) (by exact Nat.le_refl _) dX9_end_16
  · have ic_1 := gz_nlt (rfl : x.toInt = x.toInt) (by decide : (0 : Int32).toInt = 0) c_1
    refine lv_iload_n hx hb dX9_end_4 rfl (lv_at hl 1 rfl) ?_
    refine lv_aload_n hx hb dX9_end_5 rfl (lv_at hl 0 rfl) ?_
    refine gs_get (C := RX9) (T := TX9) (N := 12) hx hb hts inX9 hown hK hM 0 0 0 (by decide) rfl rfl (by decide) (hts _ gm_291) (fun _ h9 => h9) rfl dX9_end_6 ?_
    refine gs_getN (host := "WellCourt") (C := RX8) (T := TX8) (N := 2) hx hb hts inX8 hown hK hM 1 0 1 (by decide) rfl rfl (by decide) (va_Nw.use rfl (hov.2.2 _ gn_40)) (fun _ h9 => h9) rfl dX9_end_9 ?_
    have bf_2 : (0 : Int) ≤ (st 1 0 1).toInt ∧ (st 1 0 1).toInt ≤ (800 : Int) := hB_st.1 1 0 1
    refine lv_icmp_le (tgt := 17) hx hb dX9_end_12 (by decide) (fun c_3 => ?_) (fun c_3 => ?_)
    · have ic_3 := gz_le (rfl : x.toInt = x.toInt) (rfl : (st 1 0 1).toInt = (st 1 0 1).toInt) c_3
      refine lv_aload_n hx hb dX9_end_17 rfl (lv_at hl 0 rfl) ?_
      refine gs_get (C := RX9) (T := TX9) (N := 12) hx hb hts inX9 hown hK hM 0 0 0 (by decide) rfl rfl (by decide) (hts _ gm_291) (fun _ h9 => h9) rfl dX9_end_18 ?_
      refine lv_iload_n hx hb dX9_end_21 rfl (lv_at hl 1 rfl) ?_
      refine gs_putN (host := "WellCourt") (C := RX8) (T := TX8) (N := 2) (ty := .int) (val := .int x) hx hb hts inX8 tyX8 tyX8_ok nmX8 hown hK hI hm hM hS 1 0 1 (by decide) rfl rfl (by decide) (va_Nw.use rfl (hov.2.2 _ gn_40)) (fun _ h9 => h9) rfl (x : Int32) rfl (by decide +kernel) rfl rfl (Nat.le_of_ble_eq_true rfl) dX9_end_22 (fun st_4 H locs est_4 hM hS => ?_)
      have hB_st_4 : gBN bX kX [101] st st_4 := by rw [est_4]; exact hB_st.up (show (101 : Nat) ∈ _ from by decide) (show (0 : Int) ≤ x.toInt from by omega) (show x.toInt ≤ (800 : Int) from by omega)
      refine lv_iconst (v := 1) hx hb dX9_end_25 (by decide) ?_
      exact gs_iret hx hb hr hlocks hM hS (by decide) ⟨hB_st_4, (Or.inl (⟨rfl, (by have hl0 : (1 : Int32).toInt = 1 := (by decide); omega), (by have hl0 : (1 : Int32).toInt = 1 := (by decide); have hb1 : (0 : Int) ≤ (st 1 0 1).toInt ∧ (st 1 0 1).toInt ≤ (800 : Int) := hB_st.1 1 0 1; omega), (by have hl0 : (1 : Int32).toInt = 1 := (by decide); have hq1 : (st_4 1 0 1).toInt = (x : Int32).toInt := congrArg Int32.toInt (((congrFun (congrFun (congrFun est_4 1) 0) 1).trans (gU_same _ _ _ _ _))); have hb2 : (0 : Int) ≤ (st_4 1 0 1).toInt ∧ (st_4 1 0 1).toInt ≤ (800 : Int) := hB_st_4.1 1 0 1; omega)⟩))⟩ (by exact Nat.le_refl _) (by exact Nat.le_refl _) dX9_end_26
    · have ic_3 := gz_nle (rfl : x.toInt = x.toInt) (rfl : (st 1 0 1).toInt = (st 1 0 1).toInt) c_3
      have lc_3 := gi_hi x
      refine lv_iconst (v := 0) hx hb dX9_end_15 (by decide) ?_
      exact gs_iret hx hb hr hlocks hM hS (by decide) ⟨hB_st, (Or.inr (⟨rfl, (by have hl0 : (0 : Int32).toInt = 0 := (by decide); have hb1 : (0 : Int) ≤ (st 1 0 1).toInt ∧ (st 1 0 1).toInt ≤ (800 : Int) := hB_st.1 1 0 1; omega), (by have hl0 : (0 : Int32).toInt = 0 := (by decide); have hb1 : (0 : Int) ≤ (st 1 0 1).toInt ∧ (st 1 0 1).toInt ≤ (800 : Int) := hB_st.1 1 0 1; omega)⟩))⟩ (by exact Nat.le_refl _) (by exact Nat.le_refl _) dX9_end_16
