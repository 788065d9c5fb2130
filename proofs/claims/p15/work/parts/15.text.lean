theorem gm_391 : (Jvm.Cond.methodLink "WellCourt$Reader" (39 : Nat) ({ cls := "WellCourt$Reader", name := "isRuleWord", desc := "()Z" } : Jvm.MethodName)) ∈ gz_T := gz_at 391 (by decide +kernel) rfl
theorem gm_393 : (Jvm.Cond.instanceMethod ({ cls := "WellCourt$Reader", name := "isRuleWord", desc := "()Z" } : Jvm.MethodName)) ∈ gz_T := gz_at 393 (by decide +kernel) rfl
theorem gm_394 : (Jvm.Cond.code ({ cls := "WellCourt$Reader", name := "isRuleWord", desc := "()Z" } : Jvm.MethodName) prog_9_method_3_code (1 : Nat) (Option.some Jvm.ClassFile.FieldType.boolean)) ∈ gz_T := gz_at 394 (by decide +kernel) rfl
theorem gm_460 : (Jvm.Cond.methodLink "WellCourt$Reader" (56 : Nat) ({ cls := "WellCourt$Reader", name := "readTurns", desc := "(LWellCourt$Law;)Z" } : Jvm.MethodName)) ∈ gz_T := gz_at 460 (by decide +kernel) rfl
theorem gm_462 : (Jvm.Cond.instanceMethod ({ cls := "WellCourt$Reader", name := "readTurns", desc := "(LWellCourt$Law;)Z" } : Jvm.MethodName)) ∈ gz_T := gz_at 462 (by decide +kernel) rfl
theorem gm_463 : (Jvm.Cond.code ({ cls := "WellCourt$Reader", name := "readTurns", desc := "(LWellCourt$Law;)Z" } : Jvm.MethodName) prog_9_method_4_code (6 : Nat) (Option.some Jvm.ClassFile.FieldType.boolean)) ∈ gz_T := gz_at 463 (by decide +kernel) rfl
theorem gm_492 : (Jvm.Cond.methodLink "WellCourt$Reader" (62 : Nat) ({ cls := "WellCourt$Reader", name := "readGuest", desc := "(LWellCourt$Law;)Z" } : Jvm.MethodName)) ∈ gz_T := gz_at 492 (by decide +kernel) rfl
theorem gm_494 : (Jvm.Cond.instanceMethod ({ cls := "WellCourt$Reader", name := "readGuest", desc := "(LWellCourt$Law;)Z" } : Jvm.MethodName)) ∈ gz_T := gz_at 494 (by decide +kernel) rfl
theorem gm_495 : (Jvm.Cond.code ({ cls := "WellCourt$Reader", name := "readGuest", desc := "(LWellCourt$Law;)Z" } : Jvm.MethodName) prog_9_method_5_code (6 : Nat) (Option.some Jvm.ClassFile.FieldType.boolean)) ∈ gz_T := gz_at 495 (by decide +kernel) rfl
theorem gm_506 : (Jvm.Cond.methodLink "WellCourt$Reader" (67 : Nat) ({ cls := "WellCourt$Reader", name := "readWed", desc := "(LWellCourt$Law;)Z" } : Jvm.MethodName)) ∈ gz_T := gz_at 506 (by decide +kernel) rfl
theorem gm_508 : (Jvm.Cond.instanceMethod ({ cls := "WellCourt$Reader", name := "readWed", desc := "(LWellCourt$Law;)Z" } : Jvm.MethodName)) ∈ gz_T := gz_at 508 (by decide +kernel) rfl
theorem gm_509 : (Jvm.Cond.code ({ cls := "WellCourt$Reader", name := "readWed", desc := "(LWellCourt$Law;)Z" } : Jvm.MethodName) prog_9_method_6_code (4 : Nat) (Option.some Jvm.ClassFile.FieldType.boolean)) ∈ gz_T := gz_at 509 (by decide +kernel) rfl
theorem gm_514 : (Jvm.Cond.methodLink "WellCourt$Reader" (72 : Nat) ({ cls := "WellCourt$Reader", name := "readDrought", desc := "(LWellCourt$Law;)Z" } : Jvm.MethodName)) ∈ gz_T := gz_at 514 (by decide +kernel) rfl
theorem gm_516 : (Jvm.Cond.instanceMethod ({ cls := "WellCourt$Reader", name := "readDrought", desc := "(LWellCourt$Law;)Z" } : Jvm.MethodName)) ∈ gz_T := gz_at 516 (by decide +kernel) rfl
theorem gm_517 : (Jvm.Cond.code ({ cls := "WellCourt$Reader", name := "readDrought", desc := "(LWellCourt$Law;)Z" } : Jvm.MethodName) prog_9_method_7_code (5 : Nat) (Option.some Jvm.ClassFile.FieldType.boolean)) ∈ gz_T := gz_at 517 (by decide +kernel) rfl
theorem gm_523 : (Jvm.Cond.methodLink "WellCourt$Reader" (75 : Nat) ({ cls := "WellCourt$Reader", name := "readDry", desc := "(LWellCourt$Law;)Z" } : Jvm.MethodName)) ∈ gz_T := gz_at 523 (by decide +kernel) rfl
theorem gm_525 : (Jvm.Cond.instanceMethod ({ cls := "WellCourt$Reader", name := "readDry", desc := "(LWellCourt$Law;)Z" } : Jvm.MethodName)) ∈ gz_T := gz_at 525 (by decide +kernel) rfl
theorem gm_526 : (Jvm.Cond.code ({ cls := "WellCourt$Reader", name := "readDry", desc := "(LWellCourt$Law;)Z" } : Jvm.MethodName) prog_9_method_8_code (4 : Nat) (Option.some Jvm.ClassFile.FieldType.boolean)) ∈ gz_T := gz_at 526 (by decide +kernel) rfl
theorem gn_189 : (Jvm.Cond.fieldLinkNest "WellCourt$Reader" (34 : Nat) "WellCourt$Law" "rules" "I" "WellCourt") ∈ gzN := gz_nest 189 (by decide +kernel) rfl
theorem gs_2 : (Jvm.Cond.selects "WellCourt$Reader" ({ cls := "WellCourt$Reader", name := "isRuleWord", desc := "()Z" } : Jvm.MethodName) ({ cls := "WellCourt$Reader", name := "isRuleWord", desc := "()Z" } : Jvm.MethodName)) ∈ gz_T := gz_sel 2 (by decide +kernel) rfl
theorem gs_6 : (Jvm.Cond.selects "WellCourt$Reader" ({ cls := "WellCourt$Reader", name := "readTurns", desc := "(LWellCourt$Law;)Z" } : Jvm.MethodName) ({ cls := "WellCourt$Reader", name := "readTurns", desc := "(LWellCourt$Law;)Z" } : Jvm.MethodName)) ∈ gz_T := gz_sel 6 (by decide +kernel) rfl
theorem gs_11 : (Jvm.Cond.selects "WellCourt$Reader" ({ cls := "WellCourt$Reader", name := "readGuest", desc := "(LWellCourt$Law;)Z" } : Jvm.MethodName) ({ cls := "WellCourt$Reader", name := "readGuest", desc := "(LWellCourt$Law;)Z" } : Jvm.MethodName)) ∈ gz_T := gz_sel 11 (by decide +kernel) rfl
theorem gs_13 : (Jvm.Cond.selects "WellCourt$Reader" ({ cls := "WellCourt$Reader", name := "readWed", desc := "(LWellCourt$Law;)Z" } : Jvm.MethodName) ({ cls := "WellCourt$Reader", name := "readWed", desc := "(LWellCourt$Law;)Z" } : Jvm.MethodName)) ∈ gz_T := gz_sel 13 (by decide +kernel) rfl
theorem gs_14 : (Jvm.Cond.selects "WellCourt$Reader" ({ cls := "WellCourt$Reader", name := "readDrought", desc := "(LWellCourt$Law;)Z" } : Jvm.MethodName) ({ cls := "WellCourt$Reader", name := "readDrought", desc := "(LWellCourt$Law;)Z" } : Jvm.MethodName)) ∈ gz_T := gz_sel 14 (by decide +kernel) rfl
theorem gs_15 : (Jvm.Cond.selects "WellCourt$Reader" ({ cls := "WellCourt$Reader", name := "readDry", desc := "(LWellCourt$Law;)Z" } : Jvm.MethodName) ({ cls := "WellCourt$Reader", name := "readDry", desc := "(LWellCourt$Law;)Z" } : Jvm.MethodName)) ∈ gz_T := gz_sel 15 (by decide +kernel) rfl
theorem dX7_readText_0 : decode cX7_readText 0 = .ok (.aload_n 0, 1) := by decide +kernel
theorem dX7_readText_1 : decode cX7_readText 1 = .ok (.iconst 0, 1) := by decide +kernel
theorem dX7_readText_2 : decode cX7_readText 2 = .ok (.putfield 18, 3) := by decide +kernel
theorem dX7_readText_5 : decode cX7_readText 5 = .ok (.aload_n 0, 1) := by decide +kernel
theorem dX7_readText_6 : decode cX7_readText 6 = .ok (.iconst 0, 1) := by decide +kernel
theorem dX7_readText_7 : decode cX7_readText 7 = .ok (.putfield 21, 3) := by decide +kernel
theorem dX7_readText_10 : decode cX7_readText 10 = .ok (.aload_n 0, 1) := by decide +kernel
theorem dX7_readText_11 : decode cX7_readText 11 = .ok (.iconst 0, 1) := by decide +kernel
theorem dX7_readText_12 : decode cX7_readText 12 = .ok (.putfield 24, 3) := by decide +kernel
theorem dX7_readText_15 : decode cX7_readText 15 = .ok (.iconst 0, 1) := by decide +kernel
theorem dX7_readText_16 : decode cX7_readText 16 = .ok (.istore_n 2, 1) := by decide +kernel
theorem dX7_readText_17 : decode cX7_readText 17 = .ok (.iload_n 2, 1) := by decide +kernel
theorem dX7_readText_18 : decode cX7_readText 18 = .ok (.bipush 20, 2) := by decide +kernel
theorem dX7_readText_20 : decode cX7_readText 20 = .ok (.if_icmp .gt 131, 3) := by decide +kernel
theorem dX7_readText_23 : decode cX7_readText 23 = .ok (.aload_n 0, 1) := by decide +kernel
theorem dX7_readText_24 : decode cX7_readText 24 = .ok (.invokevirtual 31, 3) := by decide +kernel
theorem dX7_readText_27 : decode cX7_readText 27 = .ok (.aload_n 0, 1) := by decide +kernel
theorem dX7_readText_28 : decode cX7_readText 28 = .ok (.getfield 11, 3) := by decide +kernel
theorem dX7_readText_31 : decode cX7_readText 31 = .ok (.ifCond .ne 10, 3) := by decide +kernel
theorem dX7_readText_34 : decode cX7_readText 34 = .ok (.aload_n 1, 1) := by decide +kernel
theorem dX7_readText_35 : decode cX7_readText 35 = .ok (.iload_n 2, 1) := by decide +kernel
theorem dX7_readText_36 : decode cX7_readText 36 = .ok (.putfield 34, 3) := by decide +kernel
theorem dX7_readText_39 : decode cX7_readText 39 = .ok (.iconst 1, 1) := by decide +kernel
theorem dX7_readText_40 : decode cX7_readText 40 = .ok (.ireturn, 1) := by decide +kernel
theorem dX7_readText_41 : decode cX7_readText 41 = .ok (.aload_n 0, 1) := by decide +kernel
theorem dX7_readText_42 : decode cX7_readText 42 = .ok (.invokevirtual 39, 3) := by decide +kernel
theorem dX7_readText_45 : decode cX7_readText 45 = .ok (.ifCond .ne 8, 3) := by decide +kernel
theorem dX7_readText_48 : decode cX7_readText 48 = .ok (.aload_n 0, 1) := by decide +kernel
theorem dX7_readText_49 : decode cX7_readText 49 = .ok (.invokevirtual 43, 3) := by decide +kernel
theorem dX7_readText_52 : decode cX7_readText 52 = .ok (.ireturn, 1) := by decide +kernel
theorem dX7_readText_53 : decode cX7_readText 53 = .ok (.iload_n 2, 1) := by decide +kernel
theorem dX7_readText_54 : decode cX7_readText 54 = .ok (.bipush 20, 2) := by decide +kernel
theorem dX7_readText_56 : decode cX7_readText 56 = .ok (.if_icmp .ne 9, 3) := by decide +kernel
theorem dX7_readText_59 : decode cX7_readText 59 = .ok (.aload_n 0, 1) := by decide +kernel
theorem dX7_readText_60 : decode cX7_readText 60 = .ok (.iconst 4, 1) := by decide +kernel
theorem dX7_readText_61 : decode cX7_readText 61 = .ok (.invokevirtual 46, 3) := by decide +kernel
theorem dX7_readText_64 : decode cX7_readText 64 = .ok (.ireturn, 1) := by decide +kernel
theorem dX7_readText_65 : decode cX7_readText 65 = .ok (.aload_n 0, 1) := by decide +kernel
theorem dX7_readText_66 : decode cX7_readText 66 = .ok (.ldc 50, 2) := by decide +kernel
theorem dX7_readText_68 : decode cX7_readText 68 = .ok (.invokevirtual 52, 3) := by decide +kernel
theorem dX7_readText_71 : decode cX7_readText 71 = .ok (.ifCond .eq 11, 3) := by decide +kernel
theorem dX7_readText_74 : decode cX7_readText 74 = .ok (.aload_n 0, 1) := by decide +kernel
theorem dX7_readText_75 : decode cX7_readText 75 = .ok (.aload_n 1, 1) := by decide +kernel
theorem dX7_readText_76 : decode cX7_readText 76 = .ok (.invokevirtual 56, 3) := by decide +kernel
theorem dX7_readText_79 : decode cX7_readText 79 = .ok (.goto 59, 3) := by decide +kernel
theorem dX7_readText_82 : decode cX7_readText 82 = .ok (.aload_n 0, 1) := by decide +kernel
theorem dX7_readText_83 : decode cX7_readText 83 = .ok (.ldc 60, 2) := by decide +kernel
theorem dX7_readText_85 : decode cX7_readText 85 = .ok (.invokevirtual 52, 3) := by decide +kernel
theorem dX7_readText_88 : decode cX7_readText 88 = .ok (.ifCond .eq 11, 3) := by decide +kernel
theorem dX7_readText_91 : decode cX7_readText 91 = .ok (.aload_n 0, 1) := by decide +kernel
theorem dX7_readText_92 : decode cX7_readText 92 = .ok (.aload_n 1, 1) := by decide +kernel
theorem dX7_readText_93 : decode cX7_readText 93 = .ok (.invokevirtual 62, 3) := by decide +kernel
theorem dX7_readText_96 : decode cX7_readText 96 = .ok (.goto 42, 3) := by decide +kernel
theorem dX7_readText_99 : decode cX7_readText 99 = .ok (.aload_n 0, 1) := by decide +kernel
theorem dX7_readText_100 : decode cX7_readText 100 = .ok (.ldc 65, 2) := by decide +kernel
theorem dX7_readText_102 : decode cX7_readText 102 = .ok (.invokevirtual 52, 3) := by decide +kernel
theorem dX7_readText_105 : decode cX7_readText 105 = .ok (.ifCond .eq 11, 3) := by decide +kernel
theorem dX7_readText_108 : decode cX7_readText 108 = .ok (.aload_n 0, 1) := by decide +kernel
theorem dX7_readText_109 : decode cX7_readText 109 = .ok (.aload_n 1, 1) := by decide +kernel
theorem dX7_readText_110 : decode cX7_readText 110 = .ok (.invokevirtual 67, 3) := by decide +kernel
theorem dX7_readText_113 : decode cX7_readText 113 = .ok (.goto 25, 3) := by decide +kernel
theorem dX7_readText_116 : decode cX7_readText 116 = .ok (.aload_n 0, 1) := by decide +kernel
theorem dX7_readText_117 : decode cX7_readText 117 = .ok (.ldc 70, 2) := by decide +kernel
theorem dX7_readText_119 : decode cX7_readText 119 = .ok (.invokevirtual 52, 3) := by decide +kernel
theorem dX7_readText_122 : decode cX7_readText 122 = .ok (.ifCond .eq 11, 3) := by decide +kernel
theorem dX7_readText_125 : decode cX7_readText 125 = .ok (.aload_n 0, 1) := by decide +kernel
theorem dX7_readText_126 : decode cX7_readText 126 = .ok (.aload_n 1, 1) := by decide +kernel
theorem dX7_readText_127 : decode cX7_readText 127 = .ok (.invokevirtual 72, 3) := by decide +kernel
theorem dX7_readText_130 : decode cX7_readText 130 = .ok (.goto 8, 3) := by decide +kernel
theorem dX7_readText_133 : decode cX7_readText 133 = .ok (.aload_n 0, 1) := by decide +kernel
theorem dX7_readText_134 : decode cX7_readText 134 = .ok (.aload_n 1, 1) := by decide +kernel
theorem dX7_readText_135 : decode cX7_readText 135 = .ok (.invokevirtual 75, 3) := by decide +kernel
theorem dX7_readText_138 : decode cX7_readText 138 = .ok (.istore_n 3, 1) := by decide +kernel
theorem dX7_readText_139 : decode cX7_readText 139 = .ok (.iload_n 3, 1) := by decide +kernel
theorem dX7_readText_140 : decode cX7_readText 140 = .ok (.ifCond .ne 5, 3) := by decide +kernel
theorem dX7_readText_143 : decode cX7_readText 143 = .ok (.iconst 0, 1) := by decide +kernel
theorem dX7_readText_144 : decode cX7_readText 144 = .ok (.ireturn, 1) := by decide +kernel
theorem dX7_readText_145 : decode cX7_readText 145 = .ok (.iinc 2 1, 3) := by decide +kernel
theorem dX7_readText_148 : decode cX7_readText 148 = .ok (.goto (-131), 3) := by decide +kernel
theorem dX7_readText_151 : decode cX7_readText 151 = .ok (.iconst 0, 1) := by decide +kernel
theorem dX7_readText_152 : decode cX7_readText 152 = .ok (.ireturn, 1) := by decide +kernel
set_option maxHeartbeats 4000000 in
set_option maxRecDepth 100000 in
/-- WellCourt$Reader.readText -/
theorem s_X7_readText (l : Launch) (G : va_G) (cy : Nat → ClassId) (sK sV : Nat → Nat) (ad : Nat → Nat → Nat) (sz : Nat) (st : gS) (hB : gBd bX st) (z : Int32) (hz_z : (0 : Int) ≤ z.toInt ∧ z.toInt ≤ (1 : Int)) (F : Nat → Int32) (N : Int) (hF : st 2 0 = F) (hN : (st 1 0 1).toInt = N) (hL : LXa [] st z.toNatClampNeg) : gsMi l yX7_readText cX7_readText 4 (some .boolean) ({ frames := 7, cells := 0, slots := 0, locals := 153 } : Room) G cy sK sV (shX cy ad) cnX ad sz [.ref (ad 3 0), .ref (ad 25 z.toNatClampNeg)] st (fun (r : Int32) (u : gS) => gBN bX kX [301, 302, 303, 304, 305, 2500, 2505, 2509, 2700, 2800, 2900, 3000, 3100, 3200, 3300, 3400, 3500, 3600, 3700] st u ∧ ((r = 1 ∧ (∃ rs : List Rl, pText F N (cLex F N) 20 [] 0 = some rs ∧ LXa rs u z.toNatClampNeg ∧ (∀ r ∈ rs, wfR r) ∧ (u 25 z.toNatClampNeg 0).toInt = (rs.length : Int)) ∧ (lO z.toNatClampNeg st u)) ∨ (r = 0 ∧ (pText F N (cLex F N) 20 [] 0 = none) ∧ (lO z.toNatClampNeg st u)))) := by
  refine gs_start (fun A => gsQi G (shX cy ad) cnX ad _ A) (by decide) (Nat.le_of_ble_eq_true rfl) ?_
  intro p e s m below meth c A ls H hx hb hr hml hlocks hown hts hK hov hE hI hM hm hS hA hl
  have hl : lv_has ls 4 [(0, .ref (ad 3 0)), (1, .ref (ad 25 z.toNatClampNeg))] := hl
  have hB_st : gBN bX kX [301, 302, 303, 304, 305, 2500, 2505, 2509, 2700, 2800, 2900, 3000, 3100, 3200, 3300, 3400, 3500, 3600, 3700] st st := gBN.rf hB
  generalize hQe : MQ below _ _ s _ _ A = Q
  refine lv_aload_n hx hb dX7_readText_0 rfl (lv_at hl 0 rfl) ?_
  refine lv_iconst (v := 0) hx hb dX7_readText_1 (by decide) ?_
  refine gs_put (C := RX7) (T := TX7) (N := 6) (ty := .int) (val := .int 0) hx hb hts inX7 tyX7 tyX7_ok nmX7 hown hK hI hm hM hS 3 0 3 (by decide) rfl rfl (by decide) (hts _ gm_56) (fun _ h9 => h9) rfl (0 : Int32) rfl (by decide +kernel) rfl rfl (Nat.le_of_ble_eq_true rfl) dX7_readText_2 (fun st_1 H locs est_1 hM hS => ?_)
  have hB_st_1 : gBN bX kX [301, 302, 303, 304, 305, 2500, 2505, 2509, 2700, 2800, 2900, 3000, 3100, 3200, 3300, 3400, 3500, 3600, 3700] st st_1 := by rw [est_1]; exact hB_st.up (show (303 : Nat) ∈ _ from by decide) (show (0 : Int) ≤ ((0 : Int32)).toInt from by decide) (show ((0 : Int32)).toInt ≤ (801 : Int) from by decide)
  refine lv_aload_n hx hb dX7_readText_5 rfl (lv_at hl 0 rfl) ?_
  refine lv_iconst (v := 0) hx hb dX7_readText_6 (by decide) ?_
  refine gs_put (C := RX7) (T := TX7) (N := 6) (ty := .int) (val := .int 0) hx hb hts inX7 tyX7 tyX7_ok nmX7 hown hK hI hm hM hS 3 0 4 (by decide) rfl rfl (by decide) (hts _ gm_57) (fun _ h9 => h9) rfl (0 : Int32) rfl (by decide +kernel) rfl rfl (Nat.le_of_ble_eq_true rfl) dX7_readText_7 (fun st_2 H locs est_2 hM hS => ?_)
  have hB_st_2 : gBN bX kX [301, 302, 303, 304, 305, 2500, 2505, 2509, 2700, 2800, 2900, 3000, 3100, 3200, 3300, 3400, 3500, 3600, 3700] st st_2 := by rw [est_2]; exact hB_st_1.up (show (304 : Nat) ∈ _ from by decide) (gi_lo _) (gi_hi _)
  refine lv_aload_n hx hb dX7_readText_10 rfl (lv_at hl 0 rfl) ?_
  refine lv_iconst (v := 0) hx hb dX7_readText_11 (by decide) ?_
  refine gs_put (C := RX7) (T := TX7) (N := 6) (ty := .int) (val := .int 0) hx hb hts inX7 tyX7 tyX7_ok nmX7 hown hK hI hm hM hS 3 0 5 (by decide) rfl rfl (by decide) (hts _ gm_59) (fun _ h9 => h9) rfl (0 : Int32) rfl (by decide +kernel) rfl rfl (Nat.le_of_ble_eq_true rfl) dX7_readText_12 (fun st_3 H locs est_3 hM hS => ?_)
  have hB_st_3 : gBN bX kX [301, 302, 303, 304, 305, 2500, 2505, 2509, 2700, 2800, 2900, 3000, 3100, 3200, 3300, 3400, 3500, 3600, 3700] st st_3 := by rw [est_3]; exact hB_st_2.up (show (305 : Nat) ∈ _ from by decide) (gi_lo _) (gi_hi _)
  refine lv_iconst (v := 0) hx hb dX7_readText_15 (by decide) ?_
  refine lv_istore_n (lv' := [(2, .int 0), (0, .ref (ad 3 0)), (1, .ref (ad 25 z.toNatClampNeg))]) hx hb dX7_readText_16 rfl hl (by decide) rfl (fun ls hl => ?_)
  have lp4 : ∀ (n4 : Nat) (sv4 : gS) (y4_0 : Int32) (H : Heap) (locs : List Loc) (ls : Array Slot), (21 - y4_0.toInt).toNat < n4 → gBN bX kX [301, 302, 303, 304, 305, 2500, 2505, 2509, 2700, 2800, 2900, 3000, 3100, 3200, 3300, 3400, 3500, 3600, 3700] st sv4 → (0 ≤ y4_0.toInt) → (y4_0.toInt ≤ 20) → ((sv4 3 0 3).toInt ≤ 800) → (lO z.toNatClampNeg st sv4) → (∃ rs : List Rl, LXa rs sv4 z.toNatClampNeg ∧ (rs.length : Int) = y4_0.toInt ∧ (∀ r ∈ rs, wfR r) ∧ pText F N (cLex F N) (20 - y4_0.toInt).toNat rs (sv4 3 0 3).toInt = pText F N (cLex F N) 20 [] 0) → gM G (shX cy ad) cnX ad sv4 H → va_S A s.heap H locs → lv_has ls 4 [(2, .int y4_0), (0, .ref (ad 3 0)), (1, .ref (ad 25 z.toNatClampNeg))] → W p l e ({ frames := 7, cells := 0, slots := 0, locals := 153 } : Room) s m [.ref (ad 3 0), .ref (ad 25 z.toNatClampNeg)].toArray below meth c H locs 0 0 Q (F0 m 17 ls []) := by
    intro n4
    induction n4 with
    | zero => intro sv4 y4_0 H locs ls h9; exact absurd h9 (Nat.not_lt_zero _)
    | succ n4 ih_4 =>
      intro sv4 y4_0 H locs ls hme4 hB_sv4 hv4_0 hv4_1 hv4_2 hv4_3 hv4_4 hM hS hl
      have hb4_0 : (0 : Int) ≤ (sv4 3 0 3).toInt ∧ (sv4 3 0 3).toInt ≤ (801 : Int) := hB_sv4.1 3 0 3
      refine lv_iload_n hx hb dX7_readText_17 rfl (lv_at hl 0 rfl) ?_
      refine lv_bipush (v := 20) hx hb dX7_readText_18 (by decide) ?_
      refine lv_icmp_gt (tgt := 151) hx hb dX7_readText_20 (by decide) (fun c_5 => ?_) (fun c_5 => ?_)
      · have ic_5 := gz_lt (by decide : (20 : Int32).toInt = 20) (rfl : y4_0.toInt = y4_0.toInt) c_5
        refine lv_iconst (v := 0) hx hb dX7_readText_151 (by decide) ?_
        rw [← hQe]
        exact gs_iret hx hb hr hlocks hM hS (by decide) ⟨hB_sv4, (by exfalso; omega)⟩ (by exact Nat.le_refl _) (by exact Nat.le_refl _) dX7_readText_152
      · have ic_5 := gz_nlt (by decide : (20 : Int32).toInt = 20) (rfl : y4_0.toInt = y4_0.toInt) c_5
        obtain ⟨rs, hr1, hr2, hr3, hr4⟩ := hv4_4
        refine lv_aload_n hx hb dX7_readText_23 rfl (lv_at hl 1 rfl) ?_
        refine gs_callv (va_runV (As := []) (rest := []) ⟨hx, hb, hml, hown, hts⟩ (s_X7_advance l G cy sK sV ad H.size sv4 hB_sv4.1  F N (((funext (fun j9 => hB_sv4.2 2 0 j9 (show (200 : Nat) ∉ _ from by decide))).trans rfl).trans hF) ((congrArg Int32.toInt ((hB_sv4.2 1 0 1 (show (101 : Nat) ∉ _ from by decide)))).trans hN) (by have hb0 : (0 : Int) ≤ (sv4 3 0 3).toInt ∧ (sv4 3 0 3).toInt ≤ (801 : Int) := hB_sv4.1 3 0 3; omega)) ⟨(gz_cb (n := 0) hts gm_367 gm_3 gm_370 ⟨by decide +kernel, by decide +kernel, by decide +kernel⟩ ⟨Nat.le_of_ble_eq_true rfl, Nat.le_of_ble_eq_true rfl⟩), hts _ gm_369, hts _ gs_0⟩ (gs_preV hK hov hE hI hM hm hS hA 3 0 (by decide) rfl rfl) rfl rfl hl.1 rfl (lv_room (Nat.le_of_ble_eq_true rfl)) dX7_readText_24 ⟨Nat.le_of_ble_eq_true rfl, Nat.le_of_ble_eq_true rfl⟩) hm hS hA (fun st_6 H locs hw_6 hM hS => ?_)
        obtain ⟨n_6, hw_6⟩ := hw_6
        have hB_st_6 : gBN bX kX [301, 302, 303, 304, 305, 2500, 2505, 2509, 2700, 2800, 2900, 3000, 3100, 3200, 3300, 3400, 3500, 3600, 3700] st st_6 := hB_sv4.call n_6 (by decide)
        have hbhw_60 : (0 : Int) ≤ (sv4 3 0 3).toInt ∧ (sv4 3 0 3).toInt ≤ (801 : Int) := hB_sv4.1 3 0 3
        obtain ⟨hw_6_0, hw_6_1⟩ := hw_6
        refine lv_aload_n hx hb dX7_readText_27 rfl (lv_at hl 1 rfl) ?_
        refine gs_get (C := RX7) (T := TX7) (N := 6) hx hb hts inX7 hown hK hM 3 0 1 (by decide) rfl rfl (by decide) (hts _ gm_54) (fun _ h9 => h9) rfl dX7_readText_28 ?_
        refine lv_if_ne (tgt := 41) hx hb dX7_readText_31 (by decide) (fun c_8 => ?_) (fun c_8 => ?_)
        · have ic_8 := gz_ne (rfl : (st_6 3 0 1).toInt = (st_6 3 0 1).toInt) (by decide : (0 : Int32).toInt = 0) c_8
          refine lv_aload_n hx hb dX7_readText_41 rfl (lv_at hl 1 rfl) ?_
          refine gs_calli (va_runV (As := []) (rest := []) ⟨hx, hb, hml, hown, hts⟩ (s_X7_isRuleWord l G cy sK sV ad H.size st_6 hB_st_6.1  F N (((funext (fun j9 => n_6.2 2 0 j9 (show (200 : Nat) ∉ _ from by decide))).trans ((funext (fun j9 => hB_sv4.2 2 0 j9 (show (200 : Nat) ∉ _ from by decide))).trans rfl)).trans hF) ((congrArg Int32.toInt (((n_6.2 1 0 1 (show (101 : Nat) ∉ _ from by decide)).trans (hB_sv4.2 1 0 1 (show (101 : Nat) ∉ _ from by decide))))).trans hN)) ⟨(gz_cb (n := 0) hts gm_391 gm_3 gm_394 ⟨by decide +kernel, by decide +kernel, by decide +kernel⟩ ⟨Nat.le_of_ble_eq_true rfl, Nat.le_of_ble_eq_true rfl⟩), hts _ gm_393, hts _ gs_2⟩ (gs_preV hK hov hE hI hM hm hS hA 3 0 (by decide) rfl rfl) rfl rfl hl.1 rfl (lv_room (Nat.le_of_ble_eq_true rfl)) dX7_readText_42 ⟨Nat.le_of_ble_eq_true rfl, Nat.le_of_ble_eq_true rfl⟩) hm hS hA (fun r_9 st_9 H locs hw_9 hM hS => ?_)
          obtain ⟨n_9, hw_9⟩ := hw_9
          have n_9 := gBN.nil n_9
          subst n_9
          have hbhw_90 : (0 : Int) ≤ (st_6 3 0 2).toInt ∧ (st_6 3 0 2).toInt ≤ (800 : Int) := hB_st_6.1 3 0 2
          have hbhw_91 : (0 : Int) ≤ (st_6 3 0 3).toInt ∧ (st_6 3 0 3).toInt ≤ (801 : Int) := hB_st_6.1 3 0 3
          rcases hw_9 with ⟨rfl, hw_9_0⟩ | ⟨rfl, hw_9_0⟩
          · skip
            refine lv_if_ne (tgt := 53) hx hb dX7_readText_45 (by decide) (fun _ => ?_) (fun h9 => absurd h9 (by decide))
            refine lv_iload_n hx hb dX7_readText_53 rfl (lv_at hl 0 rfl) ?_
            refine lv_bipush (v := 20) hx hb dX7_readText_54 (by decide) ?_
            refine lv_icmp_ne (tgt := 65) hx hb dX7_readText_56 (by decide) (fun c_10 => ?_) (fun c_10 => ?_)
            · have ic_10 := gz_ne (rfl : y4_0.toInt = y4_0.toInt) (by decide : (20 : Int32).toInt = 20) c_10
              refine lv_aload_n hx hb dX7_readText_65 rfl (lv_at hl 1 rfl) ?_
              refine va_ldcS (q := sK 0) hx hb hown (hE.2.2.1 0 (by decide)) dX7_readText_66 ?_
              refine gs_calli (va_runV (As := [.ref (sK 0)]) (rest := []) ⟨hx, hb, hml, hown, hts⟩ (s_X7_isWord l G cy sK sV ad H.size st_6 hB_st_6.1 0 (by decide) F N (((funext (fun j9 => n_6.2 2 0 j9 (show (200 : Nat) ∉ _ from by decide))).trans ((funext (fun j9 => hB_sv4.2 2 0 j9 (show (200 : Nat) ∉ _ from by decide))).trans rfl)).trans hF) ((congrArg Int32.toInt (((n_6.2 1 0 1 (show (101 : Nat) ∉ _ from by decide)).trans (hB_sv4.2 1 0 1 (show (101 : Nat) ∉ _ from by decide))))).trans hN)) ⟨(gz_cb (n := 1) hts gm_396 gm_3 gm_399 ⟨by decide +kernel, by decide +kernel, by decide +kernel⟩ ⟨Nat.le_of_ble_eq_true rfl, Nat.le_of_ble_eq_true rfl⟩), hts _ gm_398, hts _ gs_3⟩ (gs_preV hK hov hE hI hM hm hS hA 3 0 (by decide) rfl rfl) rfl rfl hl.1 rfl (lv_room (Nat.le_of_ble_eq_true rfl)) dX7_readText_68 ⟨Nat.le_of_ble_eq_true rfl, Nat.le_of_ble_eq_true rfl⟩) hm hS hA (fun r_11 st_11 H locs hw_11 hM hS => ?_)
              obtain ⟨n_11, hw_11⟩ := hw_11
              have n_11 := gBN.nil n_11
              subst n_11
              rcases hw_11 with ⟨rfl, hw_11_0⟩ | ⟨rfl, hw_11_0⟩
              · skip
                refine lv_if_eq (tgt := 82) hx hb dX7_readText_71 (by decide) (fun h9 => absurd h9 (by decide)) (fun _ => ?_)
                refine lv_aload_n hx hb dX7_readText_74 rfl (lv_at hl 1 rfl) ?_
                refine lv_aload_n hx hb dX7_readText_75 rfl (lv_at hl 2 rfl) ?_
                refine gs_calli (va_runV (As := [.ref (ad 25 z.toNatClampNeg)]) (rest := []) ⟨hx, hb, hml, hown, hts⟩ (s_X7_readTurns l G cy sK sV ad H.size st_6 hB_st_6.1 z hz_z F N (((funext (fun j9 => n_6.2 2 0 j9 (show (200 : Nat) ∉ _ from by decide))).trans ((funext (fun j9 => hB_sv4.2 2 0 j9 (show (200 : Nat) ∉ _ from by decide))).trans rfl)).trans hF) ((congrArg Int32.toInt (((n_6.2 1 0 1 (show (101 : Nat) ∉ _ from by decide)).trans (hB_sv4.2 1 0 1 (show (101 : Nat) ∉ _ from by decide))))).trans hN) (by have hb0 : (0 : Int) ≤ (st_6 3 0 3).toInt ∧ (st_6 3 0 3).toInt ≤ (801 : Int) := hB_st_6.1 3 0 3; omega) rs (LXa.all hr1 (lA.trans lA.rf (lA.frame n_6.2 (by decide)))).1 hr3) ⟨(gz_cb (n := 1) hts gm_460 gm_3 gm_463 ⟨by decide +kernel, by decide +kernel, by decide +kernel⟩ ⟨Nat.le_of_ble_eq_true rfl, Nat.le_of_ble_eq_true rfl⟩), hts _ gm_462, hts _ gs_6⟩ (gs_preV hK hov hE hI hM hm hS hA 3 0 (by decide) rfl rfl) rfl rfl hl.1 rfl (lv_room (Nat.le_of_ble_eq_true rfl)) dX7_readText_76 ⟨Nat.le_of_ble_eq_true rfl, Nat.le_of_ble_eq_true rfl⟩) hm hS hA (fun r_12 st_12 H locs hw_12 hM hS => ?_)
                obtain ⟨n_12, hw_12⟩ := hw_12
                have hB_st_12 : gBN bX kX [301, 302, 303, 304, 305, 2500, 2505, 2509, 2700, 2800, 2900, 3000, 3100, 3200, 3300, 3400, 3500, 3600, 3700] st st_12 := hB_st_6.call n_12 (by decide)
                rcases hw_12 with ⟨rfl, hw_12_0, hw_12_1, hw_12_2⟩ | ⟨rfl, hw_12_0, hw_12_1⟩
                · skip
                  refine lv_goto (tgt := 138) hx hb dX7_readText_79 (by decide) ?_
                  refine lv_istore_n (lv' := [(3, .int 1), (2, .int y4_0), (0, .ref (ad 3 0)), (1, .ref (ad 25 z.toNatClampNeg))]) hx hb dX7_readText_138 rfl hl (by decide) rfl (fun ls hl => ?_)
                  refine lv_iload_n hx hb dX7_readText_139 rfl (lv_at hl 0 rfl) ?_
                  refine lv_if_ne (tgt := 145) hx hb dX7_readText_140 (by decide) (fun _ => ?_) (fun h9 => absurd h9 (by decide))
                  obtain ⟨x_13, ex_13⟩ : ∃ y : Int32, y = y4_0 + 1 := ⟨_, rfl⟩
                  try have tx_13 : x_13.toInt = y4_0.toInt + 1 := by rw [ex_13]; exact gz_addP (x := y4_0.toInt) (y := 1) rfl (by decide) (by omega) (by omega)
                  refine lv_iinc (v := (x_13)) (lv' := [(2, .int x_13), (3, .int 1), (0, .ref (ad 3 0)), (1, .ref (ad 25 z.toNatClampNeg))]) hx hb dX7_readText_145 hl (k := 1) rfl (by rw [ex_13]; rfl) (by decide) rfl (fun ls hl => ?_)
                  refine lv_goto (tgt := 17) hx hb dX7_readText_148 (by decide) ?_
                  exact ih_4 st_12 (x_13 : Int32) H _ ls (by omega) hB_st_12 (by omega) (by omega) (by have hb0 : (0 : Int) ≤ (st_12 3 0 3).toInt ∧ (st_12 3 0 3).toInt ≤ (801 : Int) := hB_st_12.1 3 0 3; omega) (lO.trans (lO.trans hv4_3 (lO.frame n_6.2 (by decide))) hw_12_2) (by obtain ⟨r9, h91, h92, h93, h94⟩ := hw_12_0; exact ⟨rs ++ [r9], ⟨h94, (((LXa.all hr1 (lA.trans lA.rf (lA.frame n_6.2 (by decide)))).2.1.keep n_12.2 (by decide)).other (by rw [h92]; decide)), (((LXa.all hr1 (lA.trans lA.rf (lA.frame n_6.2 (by decide)))).2.2.1.keep n_12.2 (by decide)).other (by rw [h92]; decide)), (((LXa.all hr1 (lA.trans lA.rf (lA.frame n_6.2 (by decide)))).2.2.2.1.keep n_12.2 (by decide) (by decide) (by decide) (by decide)).other (by rw [h92]; decide)), (((LXa.all hr1 (lA.trans lA.rf (lA.frame n_6.2 (by decide)))).2.2.2.2.keep n_12.2 (by decide) (by decide) (by decide) (by decide) (by decide)).other (by rw [h92]; decide))⟩, (by rw [List.length_append, List.length_singleton]; omega), wfR_app hr3 h93, (by rw [← hr4, show (20 - y4_0.toInt).toNat = (20 - x_13.toInt).toNat + 1 by omega]; exact (pText_go (by rw [hw_6_0]; show ¬ (st_6 3 0 1).toInt = 0; omega) ((pRule_0 (by rw [← wI_e0]; exact gWord_yes hw_6_0 hw_11_0.1 hw_11_0.2)).trans h91)).symm)⟩) hM hS (lv_sub hl [0, 2, 3] rfl)
                · skip
                  refine lv_goto (tgt := 138) hx hb dX7_readText_79 (by decide) ?_
                  refine lv_istore_n (lv' := [(3, .int 0), (2, .int y4_0), (0, .ref (ad 3 0)), (1, .ref (ad 25 z.toNatClampNeg))]) hx hb dX7_readText_138 rfl hl (by decide) rfl (fun ls hl => ?_)
                  refine lv_iload_n hx hb dX7_readText_139 rfl (lv_at hl 0 rfl) ?_
                  refine lv_if_ne (tgt := 145) hx hb dX7_readText_140 (by decide) (fun h9 => absurd (by decide) h9) (fun _ => ?_)
                  refine lv_iconst (v := 0) hx hb dX7_readText_143 (by decide) ?_
                  rw [← hQe]
                  exact gs_iret hx hb hr hlocks hM hS (by decide) ⟨hB_st_12, (Or.inr ⟨rfl, hr4.symm.trans (pText_no (by rw [hw_6_0]; show ¬ (st_6 3 0 1).toInt = 0; omega) ((pRule_0 (by rw [← wI_e0]; exact gWord_yes hw_6_0 hw_11_0.1 hw_11_0.2)).trans hw_12_0)), (lO.trans (lO.trans hv4_3 (lO.frame n_6.2 (by decide))) hw_12_1)⟩)⟩ (by exact Nat.le_refl _) (by exact Nat.le_refl _) dX7_readText_144
              · skip
                refine lv_if_eq (tgt := 82) hx hb dX7_readText_71 (by decide) (fun _ => ?_) (fun h9 => absurd (by decide) h9)
                refine lv_aload_n hx hb dX7_readText_82 rfl (lv_at hl 1 rfl) ?_
                refine va_ldcS (q := sK 1) hx hb hown (hE.2.2.1 1 (by decide)) dX7_readText_83 ?_
                refine gs_calli (va_runV (As := [.ref (sK 1)]) (rest := []) ⟨hx, hb, hml, hown, hts⟩ (s_X7_isWord l G cy sK sV ad H.size st_6 hB_st_6.1 1 (by decide) F N (((funext (fun j9 => n_6.2 2 0 j9 (show (200 : Nat) ∉ _ from by decide))).trans ((funext (fun j9 => hB_sv4.2 2 0 j9 (show (200 : Nat) ∉ _ from by decide))).trans rfl)).trans hF) ((congrArg Int32.toInt (((n_6.2 1 0 1 (show (101 : Nat) ∉ _ from by decide)).trans (hB_sv4.2 1 0 1 (show (101 : Nat) ∉ _ from by decide))))).trans hN)) ⟨(gz_cb (n := 1) hts gm_396 gm_3 gm_399 ⟨by decide +kernel, by decide +kernel, by decide +kernel⟩ ⟨Nat.le_of_ble_eq_true rfl, Nat.le_of_ble_eq_true rfl⟩), hts _ gm_398, hts _ gs_3⟩ (gs_preV hK hov hE hI hM hm hS hA 3 0 (by decide) rfl rfl) rfl rfl hl.1 rfl (lv_room (Nat.le_of_ble_eq_true rfl)) dX7_readText_85 ⟨Nat.le_of_ble_eq_true rfl, Nat.le_of_ble_eq_true rfl⟩) hm hS hA (fun r_14 st_14 H locs hw_14 hM hS => ?_)
                obtain ⟨n_14, hw_14⟩ := hw_14
                have n_14 := gBN.nil n_14
                subst n_14
                rcases hw_14 with ⟨rfl, hw_14_0⟩ | ⟨rfl, hw_14_0⟩
                · skip
                  refine lv_if_eq (tgt := 99) hx hb dX7_readText_88 (by decide) (fun h9 => absurd h9 (by decide)) (fun _ => ?_)
                  refine lv_aload_n hx hb dX7_readText_91 rfl (lv_at hl 1 rfl) ?_
                  refine lv_aload_n hx hb dX7_readText_92 rfl (lv_at hl 2 rfl) ?_
                  refine gs_calli (va_runV (As := [.ref (ad 25 z.toNatClampNeg)]) (rest := []) ⟨hx, hb, hml, hown, hts⟩ (s_X7_readGuest l G cy sK sV ad H.size st_6 hB_st_6.1 z hz_z F N (((funext (fun j9 => n_6.2 2 0 j9 (show (200 : Nat) ∉ _ from by decide))).trans ((funext (fun j9 => hB_sv4.2 2 0 j9 (show (200 : Nat) ∉ _ from by decide))).trans rfl)).trans hF) ((congrArg Int32.toInt (((n_6.2 1 0 1 (show (101 : Nat) ∉ _ from by decide)).trans (hB_sv4.2 1 0 1 (show (101 : Nat) ∉ _ from by decide))))).trans hN) (by have hb0 : (0 : Int) ≤ (st_6 3 0 3).toInt ∧ (st_6 3 0 3).toInt ≤ (801 : Int) := hB_st_6.1 3 0 3; omega) rs (LXa.all hr1 (lA.trans lA.rf (lA.frame n_6.2 (by decide)))).2.2.2.2 (by have h9 := ((LXa.all hr1 (lA.trans lA.rf (lA.frame n_6.2 (by decide)))).2.2.2.2).1; have h8 := guT_le rs; omega)) ⟨(gz_cb (n := 1) hts gm_492 gm_3 gm_495 ⟨by decide +kernel, by decide +kernel, by decide +kernel⟩ ⟨Nat.le_of_ble_eq_true rfl, Nat.le_of_ble_eq_true rfl⟩), hts _ gm_494, hts _ gs_11⟩ (gs_preV hK hov hE hI hM hm hS hA 3 0 (by decide) rfl rfl) rfl rfl hl.1 rfl (lv_room (Nat.le_of_ble_eq_true rfl)) dX7_readText_93 ⟨Nat.le_of_ble_eq_true rfl, Nat.le_of_ble_eq_true rfl⟩) hm hS hA (fun r_15 st_15 H locs hw_15 hM hS => ?_)
                  obtain ⟨n_15, hw_15⟩ := hw_15
                  have hB_st_15 : gBN bX kX [301, 302, 303, 304, 305, 2500, 2505, 2509, 2700, 2800, 2900, 3000, 3100, 3200, 3300, 3400, 3500, 3600, 3700] st st_15 := hB_st_6.call n_15 (by decide)
                  rcases hw_15 with ⟨rfl, hw_15_0, hw_15_1, hw_15_2⟩ | ⟨rfl, hw_15_0, hw_15_1⟩
                  · skip
                    refine lv_goto (tgt := 138) hx hb dX7_readText_96 (by decide) ?_
                    refine lv_istore_n (lv' := [(3, .int 1), (2, .int y4_0), (0, .ref (ad 3 0)), (1, .ref (ad 25 z.toNatClampNeg))]) hx hb dX7_readText_138 rfl hl (by decide) rfl (fun ls hl => ?_)
                    refine lv_iload_n hx hb dX7_readText_139 rfl (lv_at hl 0 rfl) ?_
                    refine lv_if_ne (tgt := 145) hx hb dX7_readText_140 (by decide) (fun _ => ?_) (fun h9 => absurd h9 (by decide))
                    obtain ⟨x_16, ex_16⟩ : ∃ y : Int32, y = y4_0 + 1 := ⟨_, rfl⟩
                    try have tx_16 : x_16.toInt = y4_0.toInt + 1 := by rw [ex_16]; exact gz_addP (x := y4_0.toInt) (y := 1) rfl (by decide) (by omega) (by omega)
                    refine lv_iinc (v := (x_16)) (lv' := [(2, .int x_16), (3, .int 1), (0, .ref (ad 3 0)), (1, .ref (ad 25 z.toNatClampNeg))]) hx hb dX7_readText_145 hl (k := 1) rfl (by rw [ex_16]; rfl) (by decide) rfl (fun ls hl => ?_)
                    refine lv_goto (tgt := 17) hx hb dX7_readText_148 (by decide) ?_
                    exact ih_4 st_15 (x_16 : Int32) H _ ls (by omega) hB_st_15 (by omega) (by omega) (by have hb0 : (0 : Int) ≤ (st_15 3 0 3).toInt ∧ (st_15 3 0 3).toInt ≤ (801 : Int) := hB_st_15.1 3 0 3; omega) (lO.trans (lO.trans hv4_3 (lO.frame n_6.2 (by decide))) hw_15_2) (by obtain ⟨r9, h91, h92, h93, h94⟩ := hw_15_0; exact ⟨rs ++ [r9], ⟨(((LXa.all hr1 (lA.trans lA.rf (lA.frame n_6.2 (by decide)))).1.keep n_15.2 (by decide) (by decide)).other (by rw [h92]; decide)), (((LXa.all hr1 (lA.trans lA.rf (lA.frame n_6.2 (by decide)))).2.1.keep n_15.2 (by decide)).other (by rw [h92]; decide)), (((LXa.all hr1 (lA.trans lA.rf (lA.frame n_6.2 (by decide)))).2.2.1.keep n_15.2 (by decide)).other (by rw [h92]; decide)), (((LXa.all hr1 (lA.trans lA.rf (lA.frame n_6.2 (by decide)))).2.2.2.1.keep n_15.2 (by decide) (by decide) (by decide) (by decide)).other (by rw [h92]; decide)), h94⟩, (by rw [List.length_append, List.length_singleton]; omega), wfR_app hr3 h93, (by rw [← hr4, show (20 - y4_0.toInt).toNat = (20 - x_16.toInt).toNat + 1 by omega]; exact (pText_go (by rw [hw_6_0]; show ¬ (st_6 3 0 1).toInt = 0; omega) ((pRule_1 (by rw [← wI_e0]; exact gWord_no hw_6_0 hw_11_0) (by rw [← wI_e1]; exact gWord_yes hw_6_0 hw_14_0.1 hw_14_0.2)).trans h91)).symm)⟩) hM hS (lv_sub hl [0, 2, 3] rfl)
                  · skip
                    refine lv_goto (tgt := 138) hx hb dX7_readText_96 (by decide) ?_
                    refine lv_istore_n (lv' := [(3, .int 0), (2, .int y4_0), (0, .ref (ad 3 0)), (1, .ref (ad 25 z.toNatClampNeg))]) hx hb dX7_readText_138 rfl hl (by decide) rfl (fun ls hl => ?_)
                    refine lv_iload_n hx hb dX7_readText_139 rfl (lv_at hl 0 rfl) ?_
                    refine lv_if_ne (tgt := 145) hx hb dX7_readText_140 (by decide) (fun h9 => absurd (by decide) h9) (fun _ => ?_)
                    refine lv_iconst (v := 0) hx hb dX7_readText_143 (by decide) ?_
                    rw [← hQe]
                    exact gs_iret hx hb hr hlocks hM hS (by decide) ⟨hB_st_15, (Or.inr ⟨rfl, hr4.symm.trans (pText_no (by rw [hw_6_0]; show ¬ (st_6 3 0 1).toInt = 0; omega) ((pRule_1 (by rw [← wI_e0]; exact gWord_no hw_6_0 hw_11_0) (by rw [← wI_e1]; exact gWord_yes hw_6_0 hw_14_0.1 hw_14_0.2)).trans hw_15_0)), (lO.trans (lO.trans hv4_3 (lO.frame n_6.2 (by decide))) hw_15_1)⟩)⟩ (by exact Nat.le_refl _) (by exact Nat.le_refl _) dX7_readText_144
                · skip
                  refine lv_if_eq (tgt := 99) hx hb dX7_readText_88 (by decide) (fun _ => ?_) (fun h9 => absurd (by decide) h9)
                  refine lv_aload_n hx hb dX7_readText_99 rfl (lv_at hl 1 rfl) ?_
                  refine va_ldcS (q := sK 2) hx hb hown (hE.2.2.1 2 (by decide)) dX7_readText_100 ?_
                  refine gs_calli (va_runV (As := [.ref (sK 2)]) (rest := []) ⟨hx, hb, hml, hown, hts⟩ (s_X7_isWord l G cy sK sV ad H.size st_6 hB_st_6.1 2 (by decide) F N (((funext (fun j9 => n_6.2 2 0 j9 (show (200 : Nat) ∉ _ from by decide))).trans ((funext (fun j9 => hB_sv4.2 2 0 j9 (show (200 : Nat) ∉ _ from by decide))).trans rfl)).trans hF) ((congrArg Int32.toInt (((n_6.2 1 0 1 (show (101 : Nat) ∉ _ from by decide)).trans (hB_sv4.2 1 0 1 (show (101 : Nat) ∉ _ from by decide))))).trans hN)) ⟨(gz_cb (n := 1) hts gm_396 gm_3 gm_399 ⟨by decide +kernel, by decide +kernel, by decide +kernel⟩ ⟨Nat.le_of_ble_eq_true rfl, Nat.le_of_ble_eq_true rfl⟩), hts _ gm_398, hts _ gs_3⟩ (gs_preV hK hov hE hI hM hm hS hA 3 0 (by decide) rfl rfl) rfl rfl hl.1 rfl (lv_room (Nat.le_of_ble_eq_true rfl)) dX7_readText_102 ⟨Nat.le_of_ble_eq_true rfl, Nat.le_of_ble_eq_true rfl⟩) hm hS hA (fun r_17 st_17 H locs hw_17 hM hS => ?_)
                  obtain ⟨n_17, hw_17⟩ := hw_17
                  have n_17 := gBN.nil n_17
                  subst n_17
                  rcases hw_17 with ⟨rfl, hw_17_0⟩ | ⟨rfl, hw_17_0⟩
                  · skip
                    refine lv_if_eq (tgt := 116) hx hb dX7_readText_105 (by decide) (fun h9 => absurd h9 (by decide)) (fun _ => ?_)
                    refine lv_aload_n hx hb dX7_readText_108 rfl (lv_at hl 1 rfl) ?_
                    refine lv_aload_n hx hb dX7_readText_109 rfl (lv_at hl 2 rfl) ?_
                    refine gs_calli (va_runV (As := [.ref (ad 25 z.toNatClampNeg)]) (rest := []) ⟨hx, hb, hml, hown, hts⟩ (s_X7_readWed l G cy sK sV ad H.size st_6 hB_st_6.1 z hz_z F N (((funext (fun j9 => n_6.2 2 0 j9 (show (200 : Nat) ∉ _ from by decide))).trans ((funext (fun j9 => hB_sv4.2 2 0 j9 (show (200 : Nat) ∉ _ from by decide))).trans rfl)).trans hF) ((congrArg Int32.toInt (((n_6.2 1 0 1 (show (101 : Nat) ∉ _ from by decide)).trans (hB_sv4.2 1 0 1 (show (101 : Nat) ∉ _ from by decide))))).trans hN) (by have hb0 : (0 : Int) ≤ (st_6 3 0 3).toInt ∧ (st_6 3 0 3).toInt ≤ (801 : Int) := hB_st_6.1 3 0 3; omega) rs (LXa.all hr1 (lA.trans lA.rf (lA.frame n_6.2 (by decide)))).2.1) ⟨(gz_cb (n := 1) hts gm_506 gm_3 gm_509 ⟨by decide +kernel, by decide +kernel, by decide +kernel⟩ ⟨Nat.le_of_ble_eq_true rfl, Nat.le_of_ble_eq_true rfl⟩), hts _ gm_508, hts _ gs_13⟩ (gs_preV hK hov hE hI hM hm hS hA 3 0 (by decide) rfl rfl) rfl rfl hl.1 rfl (lv_room (Nat.le_of_ble_eq_true rfl)) dX7_readText_110 ⟨Nat.le_of_ble_eq_true rfl, Nat.le_of_ble_eq_true rfl⟩) hm hS hA (fun r_18 st_18 H locs hw_18 hM hS => ?_)
                    obtain ⟨n_18, hw_18⟩ := hw_18
                    have hB_st_18 : gBN bX kX [301, 302, 303, 304, 305, 2500, 2505, 2509, 2700, 2800, 2900, 3000, 3100, 3200, 3300, 3400, 3500, 3600, 3700] st st_18 := hB_st_6.call n_18 (by decide)
                    rcases hw_18 with ⟨rfl, hw_18_0, hw_18_1, hw_18_2⟩ | ⟨rfl, hw_18_0, hw_18_1⟩
                    · skip
                      refine lv_goto (tgt := 138) hx hb dX7_readText_113 (by decide) ?_
                      refine lv_istore_n (lv' := [(3, .int 1), (2, .int y4_0), (0, .ref (ad 3 0)), (1, .ref (ad 25 z.toNatClampNeg))]) hx hb dX7_readText_138 rfl hl (by decide) rfl (fun ls hl => ?_)
                      refine lv_iload_n hx hb dX7_readText_139 rfl (lv_at hl 0 rfl) ?_
                      refine lv_if_ne (tgt := 145) hx hb dX7_readText_140 (by decide) (fun _ => ?_) (fun h9 => absurd h9 (by decide))
                      obtain ⟨x_19, ex_19⟩ : ∃ y : Int32, y = y4_0 + 1 := ⟨_, rfl⟩
                      try have tx_19 : x_19.toInt = y4_0.toInt + 1 := by rw [ex_19]; exact gz_addP (x := y4_0.toInt) (y := 1) rfl (by decide) (by omega) (by omega)
                      refine lv_iinc (v := (x_19)) (lv' := [(2, .int x_19), (3, .int 1), (0, .ref (ad 3 0)), (1, .ref (ad 25 z.toNatClampNeg))]) hx hb dX7_readText_145 hl (k := 1) rfl (by rw [ex_19]; rfl) (by decide) rfl (fun ls hl => ?_)
                      refine lv_goto (tgt := 17) hx hb dX7_readText_148 (by decide) ?_
                      exact ih_4 st_18 (x_19 : Int32) H _ ls (by omega) hB_st_18 (by omega) (by omega) (by have hb0 : (0 : Int) ≤ (st_18 3 0 3).toInt ∧ (st_18 3 0 3).toInt ≤ (801 : Int) := hB_st_18.1 3 0 3; omega) (lO.trans (lO.trans hv4_3 (lO.frame n_6.2 (by decide))) hw_18_2) (by obtain ⟨r9, h91, h92, h93, h94⟩ := hw_18_0; exact ⟨rs ++ [r9], ⟨(((LXa.all hr1 (lA.trans lA.rf (lA.frame n_6.2 (by decide)))).1.keep n_18.2 (by decide) (by decide)).other (by rw [h92]; decide)), h94, (((LXa.all hr1 (lA.trans lA.rf (lA.frame n_6.2 (by decide)))).2.2.1.keep n_18.2 (by decide)).other (by rw [h92]; decide)), (((LXa.all hr1 (lA.trans lA.rf (lA.frame n_6.2 (by decide)))).2.2.2.1.keep n_18.2 (by decide) (by decide) (by decide) (by decide)).other (by rw [h92]; decide)), (((LXa.all hr1 (lA.trans lA.rf (lA.frame n_6.2 (by decide)))).2.2.2.2.keep n_18.2 (by decide) (by decide) (by decide) (by decide) (by decide)).other (by rw [h92]; decide))⟩, (by rw [List.length_append, List.length_singleton]; omega), wfR_app hr3 h93, (by rw [← hr4, show (20 - y4_0.toInt).toNat = (20 - x_19.toInt).toNat + 1 by omega]; exact (pText_go (by rw [hw_6_0]; show ¬ (st_6 3 0 1).toInt = 0; omega) ((pRule_2 (by rw [← wI_e0]; exact gWord_no hw_6_0 hw_11_0) (by rw [← wI_e1]; exact gWord_no hw_6_0 hw_14_0) (by rw [← wI_e2]; exact gWord_yes hw_6_0 hw_17_0.1 hw_17_0.2)).trans h91)).symm)⟩) hM hS (lv_sub hl [0, 2, 3] rfl)
                    · skip
                      refine lv_goto (tgt := 138) hx hb dX7_readText_113 (by decide) ?_
                      refine lv_istore_n (lv' := [(3, .int 0), (2, .int y4_0), (0, .ref (ad 3 0)), (1, .ref (ad 25 z.toNatClampNeg))]) hx hb dX7_readText_138 rfl hl (by decide) rfl (fun ls hl => ?_)
                      refine lv_iload_n hx hb dX7_readText_139 rfl (lv_at hl 0 rfl) ?_
                      refine lv_if_ne (tgt := 145) hx hb dX7_readText_140 (by decide) (fun h9 => absurd (by decide) h9) (fun _ => ?_)
                      refine lv_iconst (v := 0) hx hb dX7_readText_143 (by decide) ?_
                      rw [← hQe]
                      exact gs_iret hx hb hr hlocks hM hS (by decide) ⟨hB_st_18, (Or.inr ⟨rfl, hr4.symm.trans (pText_no (by rw [hw_6_0]; show ¬ (st_6 3 0 1).toInt = 0; omega) ((pRule_2 (by rw [← wI_e0]; exact gWord_no hw_6_0 hw_11_0) (by rw [← wI_e1]; exact gWord_no hw_6_0 hw_14_0) (by rw [← wI_e2]; exact gWord_yes hw_6_0 hw_17_0.1 hw_17_0.2)).trans hw_18_0)), (lO.trans (lO.trans hv4_3 (lO.frame n_6.2 (by decide))) hw_18_1)⟩)⟩ (by exact Nat.le_refl _) (by exact Nat.le_refl _) dX7_readText_144
                  · skip
                    refine lv_if_eq (tgt := 116) hx hb dX7_readText_105 (by decide) (fun _ => ?_) (fun h9 => absurd (by decide) h9)
                    refine lv_aload_n hx hb dX7_readText_116 rfl (lv_at hl 1 rfl) ?_
                    refine va_ldcS (q := sK 3) hx hb hown (hE.2.2.1 3 (by decide)) dX7_readText_117 ?_
                    refine gs_calli (va_runV (As := [.ref (sK 3)]) (rest := []) ⟨hx, hb, hml, hown, hts⟩ (s_X7_isWord l G cy sK sV ad H.size st_6 hB_st_6.1 3 (by decide) F N (((funext (fun j9 => n_6.2 2 0 j9 (show (200 : Nat) ∉ _ from by decide))).trans ((funext (fun j9 => hB_sv4.2 2 0 j9 (show (200 : Nat) ∉ _ from by decide))).trans rfl)).trans hF) ((congrArg Int32.toInt (((n_6.2 1 0 1 (show (101 : Nat) ∉ _ from by decide)).trans (hB_sv4.2 1 0 1 (show (101 : Nat) ∉ _ from by decide))))).trans hN)) ⟨(gz_cb (n := 1) hts gm_396 gm_3 gm_399 ⟨by decide +kernel, by decide +kernel, by decide +kernel⟩ ⟨Nat.le_of_ble_eq_true rfl, Nat.le_of_ble_eq_true rfl⟩), hts _ gm_398, hts _ gs_3⟩ (gs_preV hK hov hE hI hM hm hS hA 3 0 (by decide) rfl rfl) rfl rfl hl.1 rfl (lv_room (Nat.le_of_ble_eq_true rfl)) dX7_readText_119 ⟨Nat.le_of_ble_eq_true rfl, Nat.le_of_ble_eq_true rfl⟩) hm hS hA (fun r_20 st_20 H locs hw_20 hM hS => ?_)
                    obtain ⟨n_20, hw_20⟩ := hw_20
                    have n_20 := gBN.nil n_20
                    subst n_20
                    rcases hw_20 with ⟨rfl, hw_20_0⟩ | ⟨rfl, hw_20_0⟩
                    · skip
                      refine lv_if_eq (tgt := 133) hx hb dX7_readText_122 (by decide) (fun h9 => absurd h9 (by decide)) (fun _ => ?_)
                      refine lv_aload_n hx hb dX7_readText_125 rfl (lv_at hl 1 rfl) ?_
                      refine lv_aload_n hx hb dX7_readText_126 rfl (lv_at hl 2 rfl) ?_
                      refine gs_calli (va_runV (As := [.ref (ad 25 z.toNatClampNeg)]) (rest := []) ⟨hx, hb, hml, hown, hts⟩ (s_X7_readDrought l G cy sK sV ad H.size st_6 hB_st_6.1 z hz_z F N (((funext (fun j9 => n_6.2 2 0 j9 (show (200 : Nat) ∉ _ from by decide))).trans ((funext (fun j9 => hB_sv4.2 2 0 j9 (show (200 : Nat) ∉ _ from by decide))).trans rfl)).trans hF) ((congrArg Int32.toInt (((n_6.2 1 0 1 (show (101 : Nat) ∉ _ from by decide)).trans (hB_sv4.2 1 0 1 (show (101 : Nat) ∉ _ from by decide))))).trans hN) (by have hb0 : (0 : Int) ≤ (st_6 3 0 3).toInt ∧ (st_6 3 0 3).toInt ≤ (801 : Int) := hB_st_6.1 3 0 3; omega) rs (LXa.all hr1 (lA.trans lA.rf (lA.frame n_6.2 (by decide)))).2.2.2.1 (by have h9 := ((LXa.all hr1 (lA.trans lA.rf (lA.frame n_6.2 (by decide)))).2.2.2.1).1; have h8 := drT_le rs; omega)) ⟨(gz_cb (n := 1) hts gm_514 gm_3 gm_517 ⟨by decide +kernel, by decide +kernel, by decide +kernel⟩ ⟨Nat.le_of_ble_eq_true rfl, Nat.le_of_ble_eq_true rfl⟩), hts _ gm_516, hts _ gs_14⟩ (gs_preV hK hov hE hI hM hm hS hA 3 0 (by decide) rfl rfl) rfl rfl hl.1 rfl (lv_room (Nat.le_of_ble_eq_true rfl)) dX7_readText_127 ⟨Nat.le_of_ble_eq_true rfl, Nat.le_of_ble_eq_true rfl⟩) hm hS hA (fun r_21 st_21 H locs hw_21 hM hS => ?_)
                      obtain ⟨n_21, hw_21⟩ := hw_21
                      have hB_st_21 : gBN bX kX [301, 302, 303, 304, 305, 2500, 2505, 2509, 2700, 2800, 2900, 3000, 3100, 3200, 3300, 3400, 3500, 3600, 3700] st st_21 := hB_st_6.call n_21 (by decide)
                      rcases hw_21 with ⟨rfl, hw_21_0, hw_21_1, hw_21_2⟩ | ⟨rfl, hw_21_0, hw_21_1⟩
                      · skip
                        refine lv_goto (tgt := 138) hx hb dX7_readText_130 (by decide) ?_
                        refine lv_istore_n (lv' := [(3, .int 1), (2, .int y4_0), (0, .ref (ad 3 0)), (1, .ref (ad 25 z.toNatClampNeg))]) hx hb dX7_readText_138 rfl hl (by decide) rfl (fun ls hl => ?_)
                        refine lv_iload_n hx hb dX7_readText_139 rfl (lv_at hl 0 rfl) ?_
                        refine lv_if_ne (tgt := 145) hx hb dX7_readText_140 (by decide) (fun _ => ?_) (fun h9 => absurd h9 (by decide))
                        obtain ⟨x_22, ex_22⟩ : ∃ y : Int32, y = y4_0 + 1 := ⟨_, rfl⟩
                        try have tx_22 : x_22.toInt = y4_0.toInt + 1 := by rw [ex_22]; exact gz_addP (x := y4_0.toInt) (y := 1) rfl (by decide) (by omega) (by omega)
                        refine lv_iinc (v := (x_22)) (lv' := [(2, .int x_22), (3, .int 1), (0, .ref (ad 3 0)), (1, .ref (ad 25 z.toNatClampNeg))]) hx hb dX7_readText_145 hl (k := 1) rfl (by rw [ex_22]; rfl) (by decide) rfl (fun ls hl => ?_)
                        refine lv_goto (tgt := 17) hx hb dX7_readText_148 (by decide) ?_
                        exact ih_4 st_21 (x_22 : Int32) H _ ls (by omega) hB_st_21 (by omega) (by omega) (by have hb0 : (0 : Int) ≤ (st_21 3 0 3).toInt ∧ (st_21 3 0 3).toInt ≤ (801 : Int) := hB_st_21.1 3 0 3; omega) (lO.trans (lO.trans hv4_3 (lO.frame n_6.2 (by decide))) hw_21_2) (by obtain ⟨r9, h91, h92, h93, h94⟩ := hw_21_0; exact ⟨rs ++ [r9], ⟨(((LXa.all hr1 (lA.trans lA.rf (lA.frame n_6.2 (by decide)))).1.keep n_21.2 (by decide) (by decide)).other (by rw [h92]; decide)), (((LXa.all hr1 (lA.trans lA.rf (lA.frame n_6.2 (by decide)))).2.1.keep n_21.2 (by decide)).other (by rw [h92]; decide)), (((LXa.all hr1 (lA.trans lA.rf (lA.frame n_6.2 (by decide)))).2.2.1.keep n_21.2 (by decide)).other (by rw [h92]; decide)), h94, (((LXa.all hr1 (lA.trans lA.rf (lA.frame n_6.2 (by decide)))).2.2.2.2.keep n_21.2 (by decide) (by decide) (by decide) (by decide) (by decide)).other (by rw [h92]; decide))⟩, (by rw [List.length_append, List.length_singleton]; omega), wfR_app hr3 h93, (by rw [← hr4, show (20 - y4_0.toInt).toNat = (20 - x_22.toInt).toNat + 1 by omega]; exact (pText_go (by rw [hw_6_0]; show ¬ (st_6 3 0 1).toInt = 0; omega) ((pRule_3 (by rw [← wI_e0]; exact gWord_no hw_6_0 hw_11_0) (by rw [← wI_e1]; exact gWord_no hw_6_0 hw_14_0) (by rw [← wI_e2]; exact gWord_no hw_6_0 hw_17_0) (by rw [← wI_e3]; exact gWord_yes hw_6_0 hw_20_0.1 hw_20_0.2)).trans h91)).symm)⟩) hM hS (lv_sub hl [0, 2, 3] rfl)
                      · skip
                        refine lv_goto (tgt := 138) hx hb dX7_readText_130 (by decide) ?_
                        refine lv_istore_n (lv' := [(3, .int 0), (2, .int y4_0), (0, .ref (ad 3 0)), (1, .ref (ad 25 z.toNatClampNeg))]) hx hb dX7_readText_138 rfl hl (by decide) rfl (fun ls hl => ?_)
                        refine lv_iload_n hx hb dX7_readText_139 rfl (lv_at hl 0 rfl) ?_
                        refine lv_if_ne (tgt := 145) hx hb dX7_readText_140 (by decide) (fun h9 => absurd (by decide) h9) (fun _ => ?_)
                        refine lv_iconst (v := 0) hx hb dX7_readText_143 (by decide) ?_
                        rw [← hQe]
                        exact gs_iret hx hb hr hlocks hM hS (by decide) ⟨hB_st_21, (Or.inr ⟨rfl, hr4.symm.trans (pText_no (by rw [hw_6_0]; show ¬ (st_6 3 0 1).toInt = 0; omega) ((pRule_3 (by rw [← wI_e0]; exact gWord_no hw_6_0 hw_11_0) (by rw [← wI_e1]; exact gWord_no hw_6_0 hw_14_0) (by rw [← wI_e2]; exact gWord_no hw_6_0 hw_17_0) (by rw [← wI_e3]; exact gWord_yes hw_6_0 hw_20_0.1 hw_20_0.2)).trans hw_21_0)), (lO.trans (lO.trans hv4_3 (lO.frame n_6.2 (by decide))) hw_21_1)⟩)⟩ (by exact Nat.le_refl _) (by exact Nat.le_refl _) dX7_readText_144
                    · skip
                      refine lv_if_eq (tgt := 133) hx hb dX7_readText_122 (by decide) (fun _ => ?_) (fun h9 => absurd (by decide) h9)
                      refine lv_aload_n hx hb dX7_readText_133 rfl (lv_at hl 1 rfl) ?_
                      refine lv_aload_n hx hb dX7_readText_134 rfl (lv_at hl 2 rfl) ?_
                      refine gs_calli (va_runV (As := [.ref (ad 25 z.toNatClampNeg)]) (rest := []) ⟨hx, hb, hml, hown, hts⟩ (s_X7_readDry l G cy sK sV ad H.size st_6 hB_st_6.1 z hz_z F N (((funext (fun j9 => n_6.2 2 0 j9 (show (200 : Nat) ∉ _ from by decide))).trans ((funext (fun j9 => hB_sv4.2 2 0 j9 (show (200 : Nat) ∉ _ from by decide))).trans rfl)).trans hF) ((congrArg Int32.toInt (((n_6.2 1 0 1 (show (101 : Nat) ∉ _ from by decide)).trans (hB_sv4.2 1 0 1 (show (101 : Nat) ∉ _ from by decide))))).trans hN) (by have hb0 : (0 : Int) ≤ (st_6 3 0 3).toInt ∧ (st_6 3 0 3).toInt ≤ (801 : Int) := hB_st_6.1 3 0 3; omega) rs (LXa.all hr1 (lA.trans lA.rf (lA.frame n_6.2 (by decide)))).2.2.1) ⟨(gz_cb (n := 1) hts gm_523 gm_3 gm_526 ⟨by decide +kernel, by decide +kernel, by decide +kernel⟩ ⟨Nat.le_of_ble_eq_true rfl, Nat.le_of_ble_eq_true rfl⟩), hts _ gm_525, hts _ gs_15⟩ (gs_preV hK hov hE hI hM hm hS hA 3 0 (by decide) rfl rfl) rfl rfl hl.1 rfl (lv_room (Nat.le_of_ble_eq_true rfl)) dX7_readText_135 ⟨Nat.le_of_ble_eq_true rfl, Nat.le_of_ble_eq_true rfl⟩) hm hS hA (fun r_23 st_23 H locs hw_23 hM hS => ?_)
                      obtain ⟨n_23, hw_23⟩ := hw_23
                      have hB_st_23 : gBN bX kX [301, 302, 303, 304, 305, 2500, 2505, 2509, 2700, 2800, 2900, 3000, 3100, 3200, 3300, 3400, 3500, 3600, 3700] st st_23 := hB_st_6.call n_23 (by decide)
                      rcases hw_23 with ⟨rfl, hw_23_0, hw_23_1, hw_23_2⟩ | ⟨rfl, hw_23_0, hw_23_1⟩
                      · skip
                        refine lv_istore_n (lv' := [(3, .int 1), (2, .int y4_0), (0, .ref (ad 3 0)), (1, .ref (ad 25 z.toNatClampNeg))]) hx hb dX7_readText_138 rfl hl (by decide) rfl (fun ls hl => ?_)
                        refine lv_iload_n hx hb dX7_readText_139 rfl (lv_at hl 0 rfl) ?_
                        refine lv_if_ne (tgt := 145) hx hb dX7_readText_140 (by decide) (fun _ => ?_) (fun h9 => absurd h9 (by decide))
                        obtain ⟨x_24, ex_24⟩ : ∃ y : Int32, y = y4_0 + 1 := ⟨_, rfl⟩
                        try have tx_24 : x_24.toInt = y4_0.toInt + 1 := by rw [ex_24]; exact gz_addP (x := y4_0.toInt) (y := 1) rfl (by decide) (by omega) (by omega)
                        refine lv_iinc (v := (x_24)) (lv' := [(2, .int x_24), (3, .int 1), (0, .ref (ad 3 0)), (1, .ref (ad 25 z.toNatClampNeg))]) hx hb dX7_readText_145 hl (k := 1) rfl (by rw [ex_24]; rfl) (by decide) rfl (fun ls hl => ?_)
                        refine lv_goto (tgt := 17) hx hb dX7_readText_148 (by decide) ?_
                        exact ih_4 st_23 (x_24 : Int32) H _ ls (by omega) hB_st_23 (by omega) (by omega) (by have hb0 : (0 : Int) ≤ (st_23 3 0 3).toInt ∧ (st_23 3 0 3).toInt ≤ (801 : Int) := hB_st_23.1 3 0 3; omega) (lO.trans (lO.trans hv4_3 (lO.frame n_6.2 (by decide))) hw_23_2) (by obtain ⟨r9, h91, h92, h93, h94⟩ := hw_23_0; exact ⟨rs ++ [r9], ⟨(((LXa.all hr1 (lA.trans lA.rf (lA.frame n_6.2 (by decide)))).1.keep n_23.2 (by decide) (by decide)).other (by rw [h92]; decide)), (((LXa.all hr1 (lA.trans lA.rf (lA.frame n_6.2 (by decide)))).2.1.keep n_23.2 (by decide)).other (by rw [h92]; decide)), h94, (((LXa.all hr1 (lA.trans lA.rf (lA.frame n_6.2 (by decide)))).2.2.2.1.keep n_23.2 (by decide) (by decide) (by decide) (by decide)).other (by rw [h92]; decide)), (((LXa.all hr1 (lA.trans lA.rf (lA.frame n_6.2 (by decide)))).2.2.2.2.keep n_23.2 (by decide) (by decide) (by decide) (by decide) (by decide)).other (by rw [h92]; decide))⟩, (by rw [List.length_append, List.length_singleton]; omega), wfR_app hr3 h93, (by rw [← hr4, show (20 - y4_0.toInt).toNat = (20 - x_24.toInt).toNat + 1 by omega]; exact (pText_go (by rw [hw_6_0]; show ¬ (st_6 3 0 1).toInt = 0; omega) ((pRule_4 (by rw [← wI_e0]; exact gWord_no hw_6_0 hw_11_0) (by rw [← wI_e1]; exact gWord_no hw_6_0 hw_14_0) (by rw [← wI_e2]; exact gWord_no hw_6_0 hw_17_0) (by rw [← wI_e3]; exact gWord_no hw_6_0 hw_20_0) (by rw [← wI_e4]; exact gWord_yes hw_6_0 hw_9_0.1 (hw_9_0.2.elim (fun h9 => absurd ⟨hw_9_0.1, h9⟩ hw_11_0) (fun h9 => h9.elim (fun h9 => absurd ⟨hw_9_0.1, h9⟩ hw_14_0) (fun h9 => h9.elim (fun h9 => absurd ⟨hw_9_0.1, h9⟩ hw_17_0) (fun h9 => h9.elim (fun h9 => absurd ⟨hw_9_0.1, h9⟩ hw_20_0) id)))))).trans h91)).symm)⟩) hM hS (lv_sub hl [0, 2, 3] rfl)
                      · skip
                        refine lv_istore_n (lv' := [(3, .int 0), (2, .int y4_0), (0, .ref (ad 3 0)), (1, .ref (ad 25 z.toNatClampNeg))]) hx hb dX7_readText_138 rfl hl (by decide) rfl (fun ls hl => ?_)
                        refine lv_iload_n hx hb dX7_readText_139 rfl (lv_at hl 0 rfl) ?_
                        refine lv_if_ne (tgt := 145) hx hb dX7_readText_140 (by decide) (fun h9 => absurd (by decide) h9) (fun _ => ?_)
                        refine lv_iconst (v := 0) hx hb dX7_readText_143 (by decide) ?_
                        rw [← hQe]
                        exact gs_iret hx hb hr hlocks hM hS (by decide) ⟨hB_st_23, (Or.inr ⟨rfl, hr4.symm.trans (pText_no (by rw [hw_6_0]; show ¬ (st_6 3 0 1).toInt = 0; omega) ((pRule_4 (by rw [← wI_e0]; exact gWord_no hw_6_0 hw_11_0) (by rw [← wI_e1]; exact gWord_no hw_6_0 hw_14_0) (by rw [← wI_e2]; exact gWord_no hw_6_0 hw_17_0) (by rw [← wI_e3]; exact gWord_no hw_6_0 hw_20_0) (by rw [← wI_e4]; exact gWord_yes hw_6_0 hw_9_0.1 (hw_9_0.2.elim (fun h9 => absurd ⟨hw_9_0.1, h9⟩ hw_11_0) (fun h9 => h9.elim (fun h9 => absurd ⟨hw_9_0.1, h9⟩ hw_14_0) (fun h9 => h9.elim (fun h9 => absurd ⟨hw_9_0.1, h9⟩ hw_17_0) (fun h9 => h9.elim (fun h9 => absurd ⟨hw_9_0.1, h9⟩ hw_20_0) id)))))).trans hw_23_0)), (lO.trans (lO.trans hv4_3 (lO.frame n_6.2 (by decide))) hw_23_1)⟩)⟩ (by exact Nat.le_refl _) (by exact Nat.le_refl _) dX7_readText_144
            · have ic_10 := gz_eqn (rfl : y4_0.toInt = y4_0.toInt) (by decide : (20 : Int32).toInt = 20) c_10
              refine lv_aload_n hx hb dX7_readText_59 rfl (lv_at hl 1 rfl) ?_
              refine lv_iconst (v := 4) hx hb dX7_readText_60 (by decide) ?_
              refine gs_calli (va_runV (As := [.int 4]) (rest := []) ⟨hx, hb, hml, hown, hts⟩ (s_X7_fail l G cy sK sV ad H.size st_6 hB_st_6.1 (4 : Int32) ) ⟨(gz_cb (n := 1) hts gm_456 gm_3 gm_459 ⟨by decide +kernel, by decide +kernel, by decide +kernel⟩ ⟨Nat.le_of_ble_eq_true rfl, Nat.le_of_ble_eq_true rfl⟩), hts _ gm_458, hts _ gs_5⟩ (gs_preV hK hov hE hI hM hm hS hA 3 0 (by decide) rfl rfl) rfl rfl hl.1 rfl (lv_room (Nat.le_of_ble_eq_true rfl)) dX7_readText_61 ⟨Nat.le_of_ble_eq_true rfl, Nat.le_of_ble_eq_true rfl⟩) hm hS hA (fun r_25 st_25 H locs hw_25 hM hS => ?_)
              obtain ⟨n_25, hw_25⟩ := hw_25
              have hB_st_25 : gBN bX kX [301, 302, 303, 304, 305, 2500, 2505, 2509, 2700, 2800, 2900, 3000, 3100, 3200, 3300, 3400, 3500, 3600, 3700] st st_25 := hB_st_6.call n_25 (by decide)
              obtain rfl := hw_25
              rw [← hQe]
              exact gs_iret hx hb hr hlocks hM hS (by decide) ⟨hB_st_25, (Or.inr ⟨rfl, hr4.symm.trans (by rw [show (20 - y4_0.toInt).toNat = 0 by omega]; exact pText_full (by rw [hw_6_0]; show ¬ (st_6 3 0 1).toInt = 0; omega)), (lO.trans (lO.trans hv4_3 (lO.frame n_6.2 (by decide))) (lO.frame n_25.2 (by decide)))⟩)⟩ (by exact Nat.le_refl _) (by exact Nat.le_refl _) dX7_readText_64
          · skip
            refine lv_if_ne (tgt := 53) hx hb dX7_readText_45 (by decide) (fun h9 => absurd (by decide) h9) (fun _ => ?_)
            refine lv_aload_n hx hb dX7_readText_48 rfl (lv_at hl 1 rfl) ?_
            refine gs_calli (va_runV (As := []) (rest := []) ⟨hx, hb, hml, hown, hts⟩ (s_X7_cannotCome l G cy sK sV ad H.size st_6 hB_st_6.1  ) ⟨(gz_cb (n := 0) hts gm_452 gm_3 gm_455 ⟨by decide +kernel, by decide +kernel, by decide +kernel⟩ ⟨Nat.le_of_ble_eq_true rfl, Nat.le_of_ble_eq_true rfl⟩), hts _ gm_454, hts _ gs_4⟩ (gs_preV hK hov hE hI hM hm hS hA 3 0 (by decide) rfl rfl) rfl rfl hl.1 rfl (lv_room (Nat.le_of_ble_eq_true rfl)) dX7_readText_49 ⟨Nat.le_of_ble_eq_true rfl, Nat.le_of_ble_eq_true rfl⟩) hm hS hA (fun r_26 st_26 H locs hw_26 hM hS => ?_)
            obtain ⟨n_26, hw_26⟩ := hw_26
            have hB_st_26 : gBN bX kX [301, 302, 303, 304, 305, 2500, 2505, 2509, 2700, 2800, 2900, 3000, 3100, 3200, 3300, 3400, 3500, 3600, 3700] st st_26 := hB_st_6.call n_26 (by decide)
            obtain rfl := hw_26
            rw [← hQe]
            exact gs_iret hx hb hr hlocks hM hS (by decide) ⟨hB_st_26, (Or.inr ⟨rfl, hr4.symm.trans (pText_no (by rw [hw_6_0]; show ¬ (st_6 3 0 1).toInt = 0; omega) (pRule_n (by rw [← wI_e0]; exact gWord_no hw_6_0 (fun h9 => hw_9_0 ⟨h9.1, Or.inl h9.2⟩)) (by rw [← wI_e1]; exact gWord_no hw_6_0 (fun h9 => hw_9_0 ⟨h9.1, Or.inr (Or.inl h9.2)⟩)) (by rw [← wI_e2]; exact gWord_no hw_6_0 (fun h9 => hw_9_0 ⟨h9.1, Or.inr (Or.inr (Or.inl h9.2))⟩)) (by rw [← wI_e3]; exact gWord_no hw_6_0 (fun h9 => hw_9_0 ⟨h9.1, Or.inr (Or.inr (Or.inr (Or.inl h9.2)))⟩)) (by rw [← wI_e4]; exact gWord_no hw_6_0 (fun h9 => hw_9_0 ⟨h9.1, Or.inr (Or.inr (Or.inr (Or.inr h9.2)))⟩)))), (lO.trans (lO.trans hv4_3 (lO.frame n_6.2 (by decide))) (lO.frame n_26.2 (by decide)))⟩)⟩ (by exact Nat.le_refl _) (by exact Nat.le_refl _) dX7_readText_52
        · have ic_8 := gz_eqn (rfl : (st_6 3 0 1).toInt = (st_6 3 0 1).toInt) (by decide : (0 : Int32).toInt = 0) c_8
          refine lv_aload_n hx hb dX7_readText_34 rfl (lv_at hl 2 rfl) ?_
          refine lv_iload_n hx hb dX7_readText_35 rfl (lv_at hl 0 rfl) ?_
          refine gs_putN (host := "WellCourt") (C := RX4) (T := TX4) (N := 14) (ty := .int) (val := .int y4_0) hx hb hts inX4 tyX4 tyX4_ok nmX4 hown hK hI hm hM hS 25 z.toNatClampNeg 0 (gs_sel hz_z) rfl rfl (by decide) (va_Nw.use rfl (hov.2.2 _ gn_189)) (fun _ h9 => h9) rfl (y4_0 : Int32) rfl (by decide +kernel) rfl rfl (Nat.le_of_ble_eq_true rfl) dX7_readText_36 (fun st_27 H locs est_27 hM hS => ?_)
          have hB_st_27 : gBN bX kX [301, 302, 303, 304, 305, 2500, 2505, 2509, 2700, 2800, 2900, 3000, 3100, 3200, 3300, 3400, 3500, 3600, 3700] st st_27 := by rw [est_27]; exact hB_st_6.up (show (2500 : Nat) ∈ _ from by decide) (gi_lo _) (gi_hi _)
          refine lv_iconst (v := 1) hx hb dX7_readText_39 (by decide) ?_
          rw [← hQe]
          exact gs_iret hx hb hr hlocks hM hS (by decide) ⟨hB_st_27, (Or.inl ⟨rfl, ⟨rs, hr4.symm.trans (pText_end (by rw [hw_6_0]; show (st_6 3 0 1).toInt = 0; omega)), (by rw [est_27]; exact LXa.put0 (LXa.all hr1 (lA.trans lA.rf (lA.frame n_6.2 (by decide))))), hr3, (by rw [show (st_27 25 z.toNatClampNeg 0).toInt = y4_0.toInt from (congrArg Int32.toInt (((congrFun (congrFun (congrFun est_27 25) z.toNatClampNeg) 0).trans (gU_same _ _ _ _ _))))]; omega)⟩, (by rw [est_27]; exact lO.up (lO.trans hv4_3 (lO.frame n_6.2 (by decide))) (by first | rfl | (rw [if_pos rfl]; omega)))⟩)⟩ (by exact Nat.le_refl _) (by exact Nat.le_refl _) dX7_readText_40
  exact lp4 ((21 - ((0 : Int32) : Int32).toInt).toNat + 1) st_3 ((0 : Int32) : Int32) H _ ls (Nat.lt_succ_self _) hB_st_3 (by have hl0 : (0 : Int32).toInt = 0 := (by decide); omega) (by have hl0 : (0 : Int32).toInt = 0 := (by decide); omega) (by have hl0 : (0 : Int32).toInt = 0 := (by decide); have hq1 : (st_3 3 0 3).toInt = 0 := (congrArg Int32.toInt ((((congrFun (congrFun (congrFun est_3 3) 0) 3).trans (gU_other (by decide))).trans (((congrFun (congrFun (congrFun est_2 3) 0) 3).trans (gU_other (by decide))).trans ((congrFun (congrFun (congrFun est_1 3) 0) 3).trans (gU_same _ _ _ _ _)))))).trans (by decide); omega) (by rw [est_3]; exact lO.upo (by rw [est_2]; exact lO.upo (by rw [est_1]; exact lO.upo lO.rf (by decide)) (by decide)) (by decide)) ⟨[], LXa.all hL (by rw [est_3]; exact lA.upo (by rw [est_2]; exact lA.upo (by rw [est_1]; exact lA.upo lA.rf (by decide)) (by decide)) (by decide)), (by decide), (fun s hs => by cases hs), (by rw [show (st_3 3 0 3).toInt = 0 from ((congrArg Int32.toInt ((((congrFun (congrFun (congrFun est_3 3) 0) 3).trans (gU_other (by decide))).trans (((congrFun (congrFun (congrFun est_2 3) 0) 3).trans (gU_other (by decide))).trans ((congrFun (congrFun (congrFun est_1 3) 0) 3).trans (gU_same _ _ _ _ _)))))).trans (by decide)), show (20 - (0 : Int32).toInt).toNat = 20 from by decide])⟩ hM hS (lv_sub hl [0, 1, 2] rfl)
