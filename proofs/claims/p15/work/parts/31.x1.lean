theorem gm_21 : (Jvm.Cond.initialized "java/util/NoSuchElementException") ∈ gz_T := gz_at 21 (by decide +kernel) rfl
theorem gm_22 : (Jvm.Cond.initialized "java/lang/IllegalArgumentException") ∈ gz_T := gz_at 22 (by decide +kernel) rfl
theorem gm_747 : (Jvm.Cond.classLink "WellCourt" (182 : Nat) "java/util/NoSuchElementException") ∈ gz_T := gz_at 747 (by decide +kernel) rfl
theorem gm_822 : (Jvm.Cond.constant "WellCourt" (223 : Nat) (50000 : Int32)) ∈ gz_T := gz_at 822 (by decide +kernel) rfl
theorem gm_823 : (Jvm.Cond.classLink "WellCourt" (224 : Nat) "java/lang/IllegalArgumentException") ∈ gz_T := gz_at 823 (by decide +kernel) rfl
theorem gm_839 : (Jvm.Cond.methodLink "WellCourt" (235 : Nat) ({ cls := "WellCourt$Planner", name := "start", desc := "(LWellCourt$Law;LWellCourt$Day;I)V" } : Jvm.MethodName)) ∈ gz_T := gz_at 839 (by decide +kernel) rfl
theorem gm_840 : (Jvm.Cond.instanceMethod ({ cls := "WellCourt$Planner", name := "start", desc := "(LWellCourt$Law;LWellCourt$Day;I)V" } : Jvm.MethodName)) ∈ gz_T := gz_at 840 (by decide +kernel) rfl
theorem gm_841 : (Jvm.Cond.selects "WellCourt$Planner" ({ cls := "WellCourt$Planner", name := "start", desc := "(LWellCourt$Law;LWellCourt$Day;I)V" } : Jvm.MethodName) ({ cls := "WellCourt$Planner", name := "start", desc := "(LWellCourt$Law;LWellCourt$Day;I)V" } : Jvm.MethodName)) ∈ gz_T := gz_at 841 (by decide +kernel) rfl
theorem gm_842 : (Jvm.Cond.code ({ cls := "WellCourt$Planner", name := "start", desc := "(LWellCourt$Law;LWellCourt$Day;I)V" } : Jvm.MethodName) prog_8_method_2_code (5 : Nat) (Option.none : Option Jvm.ClassFile.FieldType)) ∈ gz_T := gz_at 842 (by decide +kernel) rfl
theorem gm_850 : (Jvm.Cond.methodLink "WellCourt" (239 : Nat) ({ cls := "WellCourt$Planner", name := "search", desc := "(II)I" } : Jvm.MethodName)) ∈ gz_T := gz_at 850 (by decide +kernel) rfl
theorem gm_851 : (Jvm.Cond.instanceMethod ({ cls := "WellCourt$Planner", name := "search", desc := "(II)I" } : Jvm.MethodName)) ∈ gz_T := gz_at 851 (by decide +kernel) rfl
theorem gm_852 : (Jvm.Cond.selects "WellCourt$Planner" ({ cls := "WellCourt$Planner", name := "search", desc := "(II)I" } : Jvm.MethodName) ({ cls := "WellCourt$Planner", name := "search", desc := "(II)I" } : Jvm.MethodName)) ∈ gz_T := gz_at 852 (by decide +kernel) rfl
theorem gm_853 : (Jvm.Cond.code ({ cls := "WellCourt$Planner", name := "search", desc := "(II)I" } : Jvm.MethodName) prog_8_method_3_code (7 : Nat) (Option.some Jvm.ClassFile.FieldType.int)) ∈ gz_T := gz_at 853 (by decide +kernel) rfl
theorem dX9_drawn_0 : decode cX9_drawn 0 = .ok (.aload_n 0, 1) := by decide +kernel
theorem dX9_drawn_1 : decode cX9_drawn 1 = .ok (.getfield 49, 3) := by decide +kernel
theorem dX9_drawn_4 : decode cX9_drawn 4 = .ok (.iload_n 1, 1) := by decide +kernel
theorem dX9_drawn_5 : decode cX9_drawn 5 = .ok (.invokevirtual 175, 3) := by decide +kernel
theorem dX9_drawn_8 : decode cX9_drawn 8 = .ok (.ifCond .ne 13, 3) := by decide +kernel
theorem dX9_drawn_11 : decode cX9_drawn 11 = .ok (.new 182, 3) := by decide +kernel
theorem dX9_drawn_14 : decode cX9_drawn 14 = .ok (.dup, 1) := by decide +kernel
theorem dX9_drawn_15 : decode cX9_drawn 15 = .ok (.ldc 184, 2) := by decide +kernel
theorem dX9_drawn_17 : decode cX9_drawn 17 = .ok (.invokespecial 186, 3) := by decide +kernel
theorem dX9_drawn_20 : decode cX9_drawn 20 = .ok (.athrow, 1) := by decide +kernel
theorem dX9_drawn_21 : decode cX9_drawn 21 = .ok (.iload_n 2, 1) := by decide +kernel
theorem dX9_drawn_22 : decode cX9_drawn 22 = .ok (.iconst 0, 1) := by decide +kernel
theorem dX9_drawn_23 : decode cX9_drawn 23 = .ok (.iconst 5, 1) := by decide +kernel
theorem dX9_drawn_24 : decode cX9_drawn 24 = .ok (.invokestatic 100, 3) := by decide +kernel
theorem dX9_drawn_27 : decode cX9_drawn 27 = .ok (.ifCond .ne 13, 3) := by decide +kernel
theorem dX9_drawn_30 : decode cX9_drawn 30 = .ok (.new 182, 3) := by decide +kernel
theorem dX9_drawn_33 : decode cX9_drawn 33 = .ok (.dup, 1) := by decide +kernel
theorem dX9_drawn_34 : decode cX9_drawn 34 = .ok (.ldc 189, 2) := by decide +kernel
theorem dX9_drawn_36 : decode cX9_drawn 36 = .ok (.invokespecial 186, 3) := by decide +kernel
theorem dX9_drawn_39 : decode cX9_drawn 39 = .ok (.athrow, 1) := by decide +kernel
theorem dX9_drawn_40 : decode cX9_drawn 40 = .ok (.aload_n 0, 1) := by decide +kernel
theorem dX9_drawn_41 : decode cX9_drawn 41 = .ok (.getfield 49, 3) := by decide +kernel
theorem dX9_drawn_44 : decode cX9_drawn 44 = .ok (.getfield 178, 3) := by decide +kernel
theorem dX9_drawn_47 : decode cX9_drawn 47 = .ok (.iload_n 2, 1) := by decide +kernel
theorem dX9_drawn_48 : decode cX9_drawn 48 = .ok (.aaload, 1) := by decide +kernel
theorem dX9_drawn_49 : decode cX9_drawn 49 = .ok (.iload_n 1, 1) := by decide +kernel
theorem dX9_drawn_50 : decode cX9_drawn 50 = .ok (.iaload, 1) := by decide +kernel
theorem dX9_drawn_51 : decode cX9_drawn 51 = .ok (.ireturn, 1) := by decide +kernel
theorem dX9_plan_0 : decode cX9_plan 0 = .ok (.iload_n 2, 1) := by decide +kernel
theorem dX9_plan_1 : decode cX9_plan 1 = .ok (.iconst 1, 1) := by decide +kernel
theorem dX9_plan_2 : decode cX9_plan 2 = .ok (.ldc 223, 2) := by decide +kernel
theorem dX9_plan_4 : decode cX9_plan 4 = .ok (.invokestatic 100, 3) := by decide +kernel
theorem dX9_plan_7 : decode cX9_plan 7 = .ok (.ifCond .ne 13, 3) := by decide +kernel
theorem dX9_plan_10 : decode cX9_plan 10 = .ok (.new 224, 3) := by decide +kernel
theorem dX9_plan_13 : decode cX9_plan 13 = .ok (.dup, 1) := by decide +kernel
theorem dX9_plan_14 : decode cX9_plan 14 = .ok (.ldc 226, 2) := by decide +kernel
theorem dX9_plan_16 : decode cX9_plan 16 = .ok (.invokespecial 228, 3) := by decide +kernel
theorem dX9_plan_19 : decode cX9_plan 19 = .ok (.athrow, 1) := by decide +kernel
theorem dX9_plan_20 : decode cX9_plan 20 = .ok (.aload_n 0, 1) := by decide +kernel
theorem dX9_plan_21 : decode cX9_plan 21 = .ok (.getfield 56, 3) := by decide +kernel
theorem dX9_plan_24 : decode cX9_plan 24 = .ok (.invokevirtual 229, 3) := by decide +kernel
theorem dX9_plan_27 : decode cX9_plan 27 = .ok (.ifCond .eq 25, 3) := by decide +kernel
theorem dX9_plan_30 : decode cX9_plan 30 = .ok (.iload_n 1, 1) := by decide +kernel
theorem dX9_plan_31 : decode cX9_plan 31 = .ok (.iconst 1, 1) := by decide +kernel
theorem dX9_plan_32 : decode cX9_plan 32 = .ok (.bipush 14, 2) := by decide +kernel
theorem dX9_plan_34 : decode cX9_plan 34 = .ok (.invokestatic 100, 3) := by decide +kernel
theorem dX9_plan_37 : decode cX9_plan 37 = .ok (.ifCond .eq 15, 3) := by decide +kernel
theorem dX9_plan_40 : decode cX9_plan 40 = .ok (.aload_n 0, 1) := by decide +kernel
theorem dX9_plan_41 : decode cX9_plan 41 = .ok (.getfield 79, 3) := by decide +kernel
theorem dX9_plan_44 : decode cX9_plan 44 = .ok (.iload_n 1, 1) := by decide +kernel
theorem dX9_plan_45 : decode cX9_plan 45 = .ok (.iadd, 1) := by decide +kernel
theorem dX9_plan_46 : decode cX9_plan 46 = .ok (.sipush 199, 3) := by decide +kernel
theorem dX9_plan_49 : decode cX9_plan 49 = .ok (.if_icmp .le 13, 3) := by decide +kernel
theorem dX9_plan_52 : decode cX9_plan 52 = .ok (.aload_n 0, 1) := by decide +kernel
theorem dX9_plan_53 : decode cX9_plan 53 = .ok (.getfield 75, 3) := by decide +kernel
theorem dX9_plan_56 : decode cX9_plan 56 = .ok (.iconst 0, 1) := by decide +kernel
theorem dX9_plan_57 : decode cX9_plan 57 = .ok (.putfield 232, 3) := by decide +kernel
theorem dX9_plan_60 : decode cX9_plan 60 = .ok (.iconst (-1), 1) := by decide +kernel
theorem dX9_plan_61 : decode cX9_plan 61 = .ok (.ireturn, 1) := by decide +kernel
theorem dX9_plan_62 : decode cX9_plan 62 = .ok (.aload_n 0, 1) := by decide +kernel
theorem dX9_plan_63 : decode cX9_plan 63 = .ok (.getfield 75, 3) := by decide +kernel
theorem dX9_plan_66 : decode cX9_plan 66 = .ok (.aload_n 0, 1) := by decide +kernel
theorem dX9_plan_67 : decode cX9_plan 67 = .ok (.getfield 63, 3) := by decide +kernel
theorem dX9_plan_70 : decode cX9_plan 70 = .ok (.aload_n 0, 1) := by decide +kernel
theorem dX9_plan_71 : decode cX9_plan 71 = .ok (.getfield 42, 3) := by decide +kernel
theorem dX9_plan_74 : decode cX9_plan 74 = .ok (.aload_n 0, 1) := by decide +kernel
theorem dX9_plan_75 : decode cX9_plan 75 = .ok (.getfield 79, 3) := by decide +kernel
theorem dX9_plan_78 : decode cX9_plan 78 = .ok (.invokevirtual 235, 3) := by decide +kernel
theorem dX9_plan_81 : decode cX9_plan 81 = .ok (.aload_n 0, 1) := by decide +kernel
theorem dX9_plan_82 : decode cX9_plan 82 = .ok (.getfield 75, 3) := by decide +kernel
theorem dX9_plan_85 : decode cX9_plan 85 = .ok (.iload_n 1, 1) := by decide +kernel
theorem dX9_plan_86 : decode cX9_plan 86 = .ok (.iload_n 2, 1) := by decide +kernel
theorem dX9_plan_87 : decode cX9_plan 87 = .ok (.invokevirtual 239, 3) := by decide +kernel
theorem dX9_plan_90 : decode cX9_plan 90 = .ok (.ireturn, 1) := by decide +kernel
theorem gz_badu {args : Array Value} {s : State} (h : ∀ w ∈ gzB, va_Nw w s) : ∀ w ∈ gzB, w.before args s = true := fun w hw => by
  have hg : gBadK w = true := (List.mem_filter.mp hw).2
  refine va_Nw.use ?_ (h w hw)
  cases w <;> first | rfl | (simp [gBadK] at hg; done)
theorem xw1 : ∀ w ∈ ((gx_own RX9 186 "java/util/NoSuchElementException" "java/lang/RuntimeException" 13 prog_23_method_4_code ["java/lang/Exception"]).filter vx_no).filter goodWord, w ∈ lw_tbl := by decide +kernel
theorem xw1_bad : ∀ w ∈ ((gx_own RX9 186 "java/util/NoSuchElementException" "java/lang/RuntimeException" 13 prog_23_method_4_code ["java/lang/Exception"]).filter vx_no).filter (fun w => !goodWord w), w ∈ gzB := by decide +kernel
theorem xw1_ot : ∀ w ∈ Cond.classLink RX9 182 "java/util/NoSuchElementException" :: Cond.initialized "java/util/NoSuchElementException" :: (gx_own RX9 186 "java/util/NoSuchElementException" "java/lang/RuntimeException" 13 prog_23_method_4_code ["java/lang/Exception"]).filter vx_no, vx_ot w = true := by decide +kernel
theorem xw2 : ∀ w ∈ (vx_atS RX9 228 "java/lang/IllegalArgumentException" ["java/lang/RuntimeException", "java/lang/Exception"]).filter goodWord, w ∈ lw_tbl := by decide +kernel
theorem xw2_bad : ∀ w ∈ (vx_atS RX9 228 "java/lang/IllegalArgumentException" ["java/lang/RuntimeException", "java/lang/Exception"]).filter (fun w => !goodWord w), w ∈ gzB := by decide +kernel
theorem xw2_ot : ∀ w ∈ Cond.classLink RX9 224 "java/lang/IllegalArgumentException" :: Cond.initialized "java/lang/IllegalArgumentException" :: vx_atS RX9 228 "java/lang/IllegalArgumentException" ["java/lang/RuntimeException", "java/lang/Exception"], vx_ot w = true := by decide +kernel
set_option maxHeartbeats 4000000 in
set_option maxRecDepth 100000 in
theorem x_drawn (l : Launch) (hlt : l.stackTraces = false) (G : va_G) (cy : Nat → ClassId) (sK sV : Nat → Nat) (ad : Nat → Nat → Nat) (sz : Nat) (st : gS) (hB : gBd bX st) (x : Int32) (y : Int32) (Xx : Int) (Xy : Int) (kx : x.toInt = Xx) (ky : y.toInt = Xy) : vx_Met l yX9_drawn (Cond.code yX9_drawn cX9_drawn 3 (some .int) :: gz_T) ({ frames := 6, cells := 1, slots := 6, locals := 100 } : Room) (va_Pc [.ref (ad 0 0), .int x, .int y] (gsP G cy sK sV (shX cy ad) cnX ad sz st)) (gsQi G (shX cy ad) cnX ad (fun (r : Int32) (u : gS) => gBN bX kX [] st u ∧ ((0 ≤ Xx ∧ Xx < (st 16 0 1).toInt ∧ 0 ≤ Xy ∧ Xy ≤ 5) ∧ (r = st 18 y.toNatClampNeg x.toNatClampNeg))) (gA cnX ad sz)) (gsX G (shX cy ad) cnX ad (fun (u : gS) => u = st ∧ (¬ (0 ≤ Xx ∧ Xx < (st 16 0 1).toInt ∧ 0 ≤ Xy ∧ Xy ≤ 5))) "java/util/NoSuchElementException" (gA cnX ad sz)) 1 6 (gA cnX ad sz) := by
  refine gs_startX (rm := ({ frames := 6, cells := 1, slots := 6, locals := 100 } : Room)) (fun A => gsQi G (shX cy ad) cnX ad _ A) (fun A => gsX G (shX cy ad) cnX ad _ _ A) (by decide) (Nat.le_of_ble_eq_true rfl) ?_
  intro p e s m below meth c A ls H htab hx hb hr hml hlocks hown hts hK hov hE hI hM hm hS hA hl
  have hl : lv_has ls 3 [(0, .ref (ad 0 0)), (1, .int x), (2, .int y)] := hl
  have hB_st : gBN bX kX [] st st := gBN.rf hB
  refine lv_aload_n hx hb dX9_drawn_0 rfl (lv_at hl 0 rfl) ?_
  refine gs_get (C := RX9) (T := TX9) (N := 12) hx hb hts inX9 hown hK hM 0 0 5 (by decide) rfl rfl (by decide) (hts _ gm_296) (fun _ h9 => h9) rfl dX9_drawn_1 ?_
  refine lv_iload_n hx hb dX9_drawn_4 rfl (lv_at hl 1 rfl) ?_
  refine gs_calli (va_runV (As := [.int x]) (rest := []) ⟨hx, hb, hml, hown, hts⟩ (s_X5_has l G cy sK sV ad H.size st hB_st.1 x x.toInt rfl ) ⟨(gz_cb (n := 1) hts gm_663 gm_8 gm_666 ⟨by decide +kernel, by decide +kernel, by decide +kernel⟩ ⟨Nat.le_of_ble_eq_true rfl, Nat.le_of_ble_eq_true rfl⟩), hts _ gm_664, hts _ gm_665⟩ (gs_preV hK hov hE hI hM hm hS hA 16 0 (by decide) rfl rfl) rfl rfl hl.1 rfl (lv_room (Nat.le_of_ble_eq_true rfl)) dX9_drawn_5 ⟨Nat.le_of_ble_eq_true rfl, Nat.le_of_ble_eq_true rfl⟩) hm hS hA (fun r_1 st_1 H locs hw_1 hM hS => ?_)
  obtain ⟨n_1, hw_1⟩ := hw_1
  have n_1 := gBN.nil n_1
  subst n_1
  have hbhw_10 : (0 : Int) ≤ (st 16 0 1).toInt ∧ (st 16 0 1).toInt ≤ (300 : Int) := hB_st.1 16 0 1
  rcases hw_1 with ⟨rfl, hw_1_0, hw_1_1⟩ | ⟨rfl, hw_1_0⟩
  · skip
    refine lv_if_ne (tgt := 21) hx hb dX9_drawn_8 (by decide) (fun _ => ?_) (fun h9 => absurd h9 (by decide))
    refine lv_iload_n hx hb dX9_drawn_21 rfl (lv_at hl 2 rfl) ?_
    refine lv_iconst (v := 0) hx hb dX9_drawn_22 (by decide) ?_
    refine lv_iconst (v := 5) hx hb dX9_drawn_23 (by decide) ?_
    refine gs_calli (va_runS (As := [.int y, .int 0, .int 5]) (rest := []) ⟨hx, hb, hml, hown, hts⟩ (s_isWithin l G cy sK sV ad H.size st hB_st.1 y (0 : Int32) (5 : Int32) y.toInt 0 5 rfl (by decide) (by decide) ) ⟨(gz_cb (n := 3) hts gm_351 gm_1 gm_353 ⟨by decide +kernel, by decide +kernel, by decide +kernel⟩ ⟨Nat.le_of_ble_eq_true rfl, Nat.le_of_ble_eq_true rfl⟩), hts _ gm_352⟩ (gs_preS hK hov hE hI hM hm hS hA) rfl rfl hl.1 rfl (lv_room (Nat.le_of_ble_eq_true rfl)) dX9_drawn_24 ⟨Nat.le_of_ble_eq_true rfl, Nat.le_of_ble_eq_true rfl⟩) hm hS hA (fun r_2 st_2 H locs hw_2 hM hS => ?_)
    obtain ⟨n_2, hw_2⟩ := hw_2
    have n_2 := gBN.nil n_2
    subst n_2
    rcases hw_2 with ⟨rfl, hw_2_0, hw_2_1⟩ | ⟨rfl, hw_2_0⟩
    · skip
      refine lv_if_ne (tgt := 40) hx hb dX9_drawn_27 (by decide) (fun _ => ?_) (fun h9 => absurd h9 (by decide))
      refine lv_aload_n hx hb dX9_drawn_40 rfl (lv_at hl 0 rfl) ?_
      refine gs_get (C := RX9) (T := TX9) (N := 12) hx hb hts inX9 hown hK hM 0 0 5 (by decide) rfl rfl (by decide) (hts _ gm_296) (fun _ h9 => h9) rfl dX9_drawn_41 ?_
      refine gs_getN (host := "WellCourt") (C := RX5) (T := TX5) (N := 2) hx hb hts inX5 hown hK hM 16 0 0 (by decide) rfl rfl (by decide) (va_Nw.use rfl (hov.2.2 _ gn_142)) (fun _ h9 => h9) rfl dX9_drawn_44 ?_
      refine lv_iload_n hx hb dX9_drawn_47 rfl (lv_at hl 2 rfl) ?_
      have h_3 : y.toNatClampNeg < 6 := gs_lt (vp_in_iff.mpr ⟨by omega, by omega⟩)
      refine gs_alda hx hb hK hM 17 0 (by decide) rfl (vp_in_iff.mpr ⟨by omega, by omega⟩) (a := ad 18 y.toNatClampNeg) (if_pos h_3) dX9_drawn_48 ?_
      refine lv_iload_n hx hb dX9_drawn_49 rfl (lv_at hl 1 rfl) ?_
      refine gs_iald hx hb hK hM 18 y.toNatClampNeg h_3 rfl (vp_in_iff.mpr ⟨by omega, by omega⟩) dX9_drawn_50 ?_
      refine lv_topi (fun x_4 ex_4 => ?_)
      have qx_4 : x_4.toInt = (st 18 y.toNatClampNeg (x.toNatClampNeg)).toInt := congrArg Int32.toInt ex_4
      refine vx_ret ?_
      exact gs_iret hx hb hr hlocks hM hS rfl ⟨hB_st, ⟨by omega, by omega, by omega, by omega⟩, ex_4⟩ (by exact Nat.le_of_ble_eq_true rfl) (by exact Nat.le_of_ble_eq_true rfl) dX9_drawn_51
    · skip
      refine lv_if_ne (tgt := 40) hx hb dX9_drawn_27 (by decide) (fun h9 => absurd (by decide) h9) (fun _ => ?_)
      obtain ⟨sa, hstr⟩ := hE.1.2.2.2.2.1
      exact gx_throwS (own := RX9) (cls := "java/util/NoSuchElementException") (E2 := "java/lang/RuntimeException") (i1 := 13) (b1 := prog_23_method_4_code) (names := ["java/lang/Exception"]) (A := A) hx hb hlt hown (by decide +kernel) (by decide +kernel) (by decide +kernel) (by decide +kernel) (by decide +kernel) (by decide +kernel) (by decide +kernel) (hts _ gm_747) (hts _ gm_21) hstr (vx_hat (fun w9 h9 => hts w9 (List.mem_filter.mpr ⟨xw1 w9 h9, (List.mem_filter.mp h9).2⟩)) xw1_bad (gz_badu hE.1.2.2.2.2.2)) xw1_ot hE.1.1 hE.1.2.1 hS (hl.1.trans hml.symm) dX9_drawn_30 dX9_drawn_33 dX9_drawn_34 dX9_drawn_36 dX9_drawn_39 (fun x9 hx9 => (htab x9 hx9).elim) (Nat.le_of_ble_eq_true rfl) (Nat.le_of_ble_eq_true rfl) (Nat.le_of_ble_eq_true rfl) (Nat.le_of_ble_eq_true rfl) hlocks (fun t hvm hsz9 hold => gs_xF hM hS ⟨rfl, by omega⟩ hsz9 hold) hS.2.2 (by exact Nat.le_of_ble_eq_true rfl) (by exact Nat.le_of_ble_eq_true rfl)
  · skip
    refine lv_if_ne (tgt := 21) hx hb dX9_drawn_8 (by decide) (fun h9 => absurd (by decide) h9) (fun _ => ?_)
    obtain ⟨sa, hstr⟩ := hE.1.2.2.1
    exact gx_throwS (own := RX9) (cls := "java/util/NoSuchElementException") (E2 := "java/lang/RuntimeException") (i1 := 13) (b1 := prog_23_method_4_code) (names := ["java/lang/Exception"]) (A := A) hx hb hlt hown (by decide +kernel) (by decide +kernel) (by decide +kernel) (by decide +kernel) (by decide +kernel) (by decide +kernel) (by decide +kernel) (hts _ gm_747) (hts _ gm_21) hstr (vx_hat (fun w9 h9 => hts w9 (List.mem_filter.mpr ⟨xw1 w9 h9, (List.mem_filter.mp h9).2⟩)) xw1_bad (gz_badu hE.1.2.2.2.2.2)) xw1_ot hE.1.1 hE.1.2.1 hS (hl.1.trans hml.symm) dX9_drawn_11 dX9_drawn_14 dX9_drawn_15 dX9_drawn_17 dX9_drawn_20 (fun x9 hx9 => (htab x9 hx9).elim) (Nat.le_of_ble_eq_true rfl) (Nat.le_of_ble_eq_true rfl) (Nat.le_of_ble_eq_true rfl) (Nat.le_of_ble_eq_true rfl) hlocks (fun t hvm hsz9 hold => gs_xF hM hS ⟨rfl, by omega⟩ hsz9 hold) hS.2.2 (by exact Nat.le_of_ble_eq_true rfl) (by exact Nat.le_of_ble_eq_true rfl)

set_option maxHeartbeats 4000000 in
set_option maxRecDepth 100000 in
theorem x_plan (l : Launch) (hlt : l.stackTraces = false) (G : va_G) (cy : Nat → ClassId) (sK sV : Nat → Nat) (ad : Nat → Nat → Nat) (sz : Nat) (st : gS) (hB : gBd bX st) (x : Int32) (y : Int32) (Xx : Int) (Xy : Int) (kx : x.toInt = Xx) (ky : y.toInt = Xy) (rs : List Rl) (hLa : LXa rs st (st 0 0 7).toNatClampNeg) (hwf : ∀ r ∈ rs, wfR r) : vx_Met l yX9_plan (Cond.code yX9_plan cX9_plan 3 (some .int) :: gz_T) ({ frames := 6, cells := 1, slots := 6, locals := 141 } : Room) (va_Pc [.ref (ad 0 0), .int x, .int y] (gsP G cy sK sV (shX cy ad) cnX ad sz st)) (gsQi G (shX cy ad) cnX ad (fun (r : Int32) (u : gS) => gBN bX kX [1300, 1400, 1500, 3803, 3804, 3810, 3811, 3813, 3814, 4100, 4300, 4500, 4600, 4700] st u ∧ ((1 ≤ Xy ∧ Xy ≤ 50000) ∧ (tdX st u))) (gA cnX ad sz)) (gsX G (shX cy ad) cnX ad (fun (u : gS) => u = st ∧ (¬ (1 ≤ Xy ∧ Xy ≤ 50000))) "java/lang/IllegalArgumentException" (gA cnX ad sz)) 1 6 (gA cnX ad sz) := by
  refine gs_startX (rm := ({ frames := 6, cells := 1, slots := 6, locals := 141 } : Room)) (fun A => gsQi G (shX cy ad) cnX ad _ A) (fun A => gsX G (shX cy ad) cnX ad _ _ A) (by decide) (Nat.le_of_ble_eq_true rfl) ?_
  intro p e s m below meth c A ls H htab hx hb hr hml hlocks hown hts hK hov hE hI hM hm hS hA hl
  have hl : lv_has ls 3 [(0, .ref (ad 0 0)), (1, .int x), (2, .int y)] := hl
  have hB_st : gBN bX kX [1300, 1400, 1500, 3803, 3804, 3810, 3811, 3813, 3814, 4100, 4300, 4500, 4600, 4700] st st := gBN.rf hB
  refine lv_iload_n hx hb dX9_plan_0 rfl (lv_at hl 2 rfl) ?_
  refine lv_iconst (v := 1) hx hb dX9_plan_1 (by decide) ?_
  refine lv_ldc (v := 50000) hx hb hown (hts _ gm_822) dX9_plan_2 ?_
  refine gs_calli (va_runS (As := [.int y, .int 1, .int 50000]) (rest := []) ⟨hx, hb, hml, hown, hts⟩ (s_isWithin l G cy sK sV ad H.size st hB_st.1 y (1 : Int32) (50000 : Int32) y.toInt 1 50000 rfl (by decide) (by decide) ) ⟨(gz_cb (n := 3) hts gm_351 gm_1 gm_353 ⟨by decide +kernel, by decide +kernel, by decide +kernel⟩ ⟨Nat.le_of_ble_eq_true rfl, Nat.le_of_ble_eq_true rfl⟩), hts _ gm_352⟩ (gs_preS hK hov hE hI hM hm hS hA) rfl rfl hl.1 rfl (lv_room (Nat.le_of_ble_eq_true rfl)) dX9_plan_4 ⟨Nat.le_of_ble_eq_true rfl, Nat.le_of_ble_eq_true rfl⟩) hm hS hA (fun r_1 st_1 H locs hw_1 hM hS => ?_)
  obtain ⟨n_1, hw_1⟩ := hw_1
  have n_1 := gBN.nil n_1
  subst n_1
  rcases hw_1 with ⟨rfl, hw_1_0, hw_1_1⟩ | ⟨rfl, hw_1_0⟩
  · skip
    refine lv_if_ne (tgt := 20) hx hb dX9_plan_7 (by decide) (fun _ => ?_) (fun h9 => absurd h9 (by decide))
    refine lv_aload_n hx hb dX9_plan_20 rfl (lv_at hl 0 rfl) ?_
    refine gs_get (C := RX9) (T := TX9) (N := 12) hx hb hts inX9 hown hK hM 0 0 6 (by decide) rfl rfl (by decide) (hts _ gm_297) (fun _ h9 => h9) rfl dX9_plan_21 ?_
    refine gs_calli (va_runV (As := []) (rest := []) ⟨hx, hb, hml, hown, hts⟩ (s_X2_size l G cy sK sV ad H.size st hB_st.1  ) ⟨(gz_cb (n := 0) hts gm_734 gm_9 gm_737 ⟨by decide +kernel, by decide +kernel, by decide +kernel⟩ ⟨Nat.le_of_ble_eq_true rfl, Nat.le_of_ble_eq_true rfl⟩), hts _ gm_735, hts _ gm_736⟩ (gs_preV hK hov hE hI hM hm hS hA 19 0 (by decide) rfl rfl) rfl rfl hl.1 rfl (lv_room (Nat.le_of_ble_eq_true rfl)) dX9_plan_24 ⟨Nat.le_of_ble_eq_true rfl, Nat.le_of_ble_eq_true rfl⟩) hm hS hA (fun r_2 st_2 H locs hw_2 hM hS => ?_)
    obtain ⟨n_2, hw_2⟩ := hw_2
    have n_2 := gBN.nil n_2
    subst n_2
    refine lv_if_eq (tgt := 52) hx hb dX9_plan_27 (by decide) (fun c_3 => ?_) (fun c_3 => ?_)
    · have ic_3 := gz_eq (rfl : r_2.toInt = r_2.toInt) (by decide : (0 : Int32).toInt = 0) c_3
      refine lv_aload_n hx hb dX9_plan_52 rfl (lv_at hl 0 rfl) ?_
      refine gs_get (C := RX9) (T := TX9) (N := 12) hx hb hts inX9 hown hK hM 0 0 9 (by decide) rfl rfl (by decide) (hts _ gm_300) (fun _ h9 => h9) rfl dX9_plan_53 ?_
      refine lv_iconst (v := 0) hx hb dX9_plan_56 (by decide) ?_
      refine gs_putN (host := "WellCourt") (C := RX6) (T := TX6) (N := 15) (ty := .int) (val := .int 0) hx hb hts inX6 tyX6 tyX6_ok nmX6 hown hK hI hm hM hS 38 0 10 (by decide) rfl rfl (by decide) (va_Nw.use rfl (hov.2.2 _ gn_254)) (fun _ h9 => h9) rfl (0 : Int32) rfl (by decide +kernel) rfl rfl (Nat.le_of_ble_eq_true rfl) dX9_plan_57 (fun st_4 H locs est_4 hM hS => ?_)
      have hB_st_4 : gBN bX kX [1300, 1400, 1500, 3803, 3804, 3810, 3811, 3813, 3814, 4100, 4300, 4500, 4600, 4700] st st_4 := by rw [est_4]; exact hB_st.up (show (3810 : Nat) ∈ _ from by decide) (gi_lo _) (gi_hi _)
      refine lv_iconst (v := (-1)) hx hb dX9_plan_60 (by decide) ?_
      refine vx_ret ?_
      exact gs_iret hx hb hr hlocks hM hS rfl ⟨hB_st_4, ⟨by omega, by omega⟩, (tdX.trans tdX.rf (tdX.upk est_4 (by decide)))⟩ (by exact Nat.le_of_ble_eq_true rfl) (by exact Nat.le_of_ble_eq_true rfl) dX9_plan_61
    · have ic_3 := gz_ne (rfl : r_2.toInt = r_2.toInt) (by decide : (0 : Int32).toInt = 0) c_3
      refine lv_iload_n hx hb dX9_plan_30 rfl (lv_at hl 1 rfl) ?_
      refine lv_iconst (v := 1) hx hb dX9_plan_31 (by decide) ?_
      refine lv_bipush (v := 14) hx hb dX9_plan_32 (by decide) ?_
      refine gs_calli (va_runS (As := [.int x, .int 1, .int 14]) (rest := []) ⟨hx, hb, hml, hown, hts⟩ (s_isWithin l G cy sK sV ad H.size st hB_st.1 x (1 : Int32) (14 : Int32) x.toInt 1 14 rfl (by decide) (by decide) ) ⟨(gz_cb (n := 3) hts gm_351 gm_1 gm_353 ⟨by decide +kernel, by decide +kernel, by decide +kernel⟩ ⟨Nat.le_of_ble_eq_true rfl, Nat.le_of_ble_eq_true rfl⟩), hts _ gm_352⟩ (gs_preS hK hov hE hI hM hm hS hA) rfl rfl hl.1 rfl (lv_room (Nat.le_of_ble_eq_true rfl)) dX9_plan_34 ⟨Nat.le_of_ble_eq_true rfl, Nat.le_of_ble_eq_true rfl⟩) hm hS hA (fun r_5 st_5 H locs hw_5 hM hS => ?_)
      obtain ⟨n_5, hw_5⟩ := hw_5
      have n_5 := gBN.nil n_5
      subst n_5
      rcases hw_5 with ⟨rfl, hw_5_0, hw_5_1⟩ | ⟨rfl, hw_5_0⟩
      · skip
        refine lv_if_eq (tgt := 52) hx hb dX9_plan_37 (by decide) (fun h9 => absurd h9 (by decide)) (fun _ => ?_)
        refine lv_aload_n hx hb dX9_plan_40 rfl (lv_at hl 0 rfl) ?_
        refine gs_get (C := RX9) (T := TX9) (N := 12) hx hb hts inX9 hown hK hM 0 0 10 (by decide) rfl rfl (by decide) (hts _ gm_301) (fun _ h9 => h9) rfl dX9_plan_41 ?_
        have bf_6 : (0 : Int) ≤ (st 0 0 10).toInt ∧ (st 0 0 10).toInt ≤ (199 : Int) := hB_st.1 0 0 10
        refine lv_iload_n hx hb dX9_plan_44 rfl (lv_at hl 1 rfl) ?_
        refine lv_iadd hx hb dX9_plan_45 ?_
        refine lv_topi (fun x_7 ex_7 => ?_)
        try have tx_7 : x_7.toInt = (st 0 0 10).toInt + x.toInt := by rw [ex_7]; exact gz_addI (x := (st 0 0 10).toInt) (y := x.toInt) rfl rfl (by omega) (by omega)
        refine lv_sipush (v := 199) hx hb dX9_plan_46 (by decide) ?_
        refine lv_icmp_le (tgt := 62) hx hb dX9_plan_49 (by decide) (fun c_8 => ?_) (fun c_8 => ?_)
        · have ic_8 := gz_le (rfl : x_7.toInt = x_7.toInt) (by decide : (199 : Int32).toInt = 199) c_8
          refine lv_aload_n hx hb dX9_plan_62 rfl (lv_at hl 0 rfl) ?_
          refine gs_get (C := RX9) (T := TX9) (N := 12) hx hb hts inX9 hown hK hM 0 0 9 (by decide) rfl rfl (by decide) (hts _ gm_300) (fun _ h9 => h9) rfl dX9_plan_63 ?_
          refine lv_aload_n hx hb dX9_plan_66 rfl (lv_at hl 0 rfl) ?_
          refine gs_get (C := RX9) (T := TX9) (N := 12) hx hb hts inX9 hown hK hM 0 0 7 (by decide) rfl rfl (by decide) (hts _ gm_298) (fun _ h9 => h9) rfl dX9_plan_67 ?_
          have h_9 : (0 : Int) ≤ (st 0 0 7).toInt ∧ (st 0 0 7).toInt ≤ (1 : Int) := hB_st.1 0 0 7
          refine lv_aload_n hx hb dX9_plan_70 rfl (lv_at hl 0 rfl) ?_
          refine gs_get (C := RX9) (T := TX9) (N := 12) hx hb hts inX9 hown hK hM 0 0 4 (by decide) rfl rfl (by decide) (hts _ gm_295) (fun _ h9 => h9) rfl dX9_plan_71 ?_
          refine lv_aload_n hx hb dX9_plan_74 rfl (lv_at hl 0 rfl) ?_
          refine gs_get (C := RX9) (T := TX9) (N := 12) hx hb hts inX9 hown hK hM 0 0 10 (by decide) rfl rfl (by decide) (hts _ gm_301) (fun _ h9 => h9) rfl dX9_plan_75 ?_
          have bf_10 : (0 : Int) ≤ (st 0 0 10).toInt ∧ (st 0 0 10).toInt ≤ (199 : Int) := hB_st.1 0 0 10
          refine gs_callv (va_runV (As := [.ref (ad 25 ((st 0 0 7).toNatClampNeg)), .ref (ad 12 15), .int (st 0 0 10)]) (rest := []) ⟨hx, hb, hml, hown, hts⟩ (s_X6_start l G cy sK sV ad H.size st hB_st.1 (st 0 0 7) (st 0 0 10) ((st 0 0 10).toInt) rfl h_9 (by first | decide | omega) (by first | decide | omega)) ⟨(gz_cb (n := 3) hts gm_839 gm_11 gm_842 ⟨by decide +kernel, by decide +kernel, by decide +kernel⟩ ⟨Nat.le_of_ble_eq_true rfl, Nat.le_of_ble_eq_true rfl⟩), hts _ gm_840, hts _ gm_841⟩ (gs_preV hK hov hE hI hM hm hS hA 38 0 (by decide) rfl rfl) rfl rfl hl.1 rfl (lv_room (Nat.le_of_ble_eq_true rfl)) dX9_plan_78 ⟨Nat.le_of_ble_eq_true rfl, Nat.le_of_ble_eq_true rfl⟩) hm hS hA (fun st_11 H locs hw_11 hM hS => ?_)
          obtain ⟨n_11, hw_11⟩ := hw_11
          have hB_st_11 : gBN bX kX [1300, 1400, 1500, 3803, 3804, 3810, 3811, 3813, 3814, 4100, 4300, 4500, 4600, 4700] st st_11 := hB_st.call n_11 (by decide)
          have hbhw_110 : (0 : Int) ≤ (st 0 0 10).toInt ∧ (st 0 0 10).toInt ≤ (199 : Int) := hB_st.1 0 0 10
          have hbhw_111 : (0 : Int) ≤ (st 0 0 7).toInt ∧ (st 0 0 7).toInt ≤ (1 : Int) := hB_st.1 0 0 7
          obtain ⟨hw_11_0, hw_11_1, hw_11_2⟩ := hw_11
          refine lv_aload_n hx hb dX9_plan_81 rfl (lv_at hl 0 rfl) ?_
          refine gs_get (C := RX9) (T := TX9) (N := 12) hx hb hts inX9 hown hK hM 0 0 9 (by decide) rfl rfl (by decide) (hts _ gm_300) (fun _ h9 => h9) rfl dX9_plan_82 ?_
          refine lv_iload_n hx hb dX9_plan_85 rfl (lv_at hl 1 rfl) ?_
          refine lv_iload_n hx hb dX9_plan_86 rfl (lv_at hl 2 rfl) ?_
          refine gs_calli (va_runV (As := [.int x, .int y]) (rest := []) ⟨hx, hb, hml, hown, hts⟩ (s_X6_search l G cy sK sV ad H.size st_11 hB_st_11.1 x y x.toInt y.toInt rfl rfl (by first | decide | omega) (by first | decide | omega) (by have h9 := congrArg Int32.toInt hw_11_1; omega) rs (show LXa rs st_11 (st_11 38 0 3).toNatClampNeg from (by rw [hw_11_2]; exact (LXa.keep hLa n_11.2 (by decide)))) hwf) ⟨(gz_cb (n := 2) hts gm_850 gm_11 gm_853 ⟨by decide +kernel, by decide +kernel, by decide +kernel⟩ ⟨Nat.le_of_ble_eq_true rfl, Nat.le_of_ble_eq_true rfl⟩), hts _ gm_851, hts _ gm_852⟩ (gs_preV hK hov hE hI hM hm hS hA 38 0 (by decide) rfl rfl) rfl rfl hl.1 rfl (lv_room (Nat.le_of_ble_eq_true rfl)) dX9_plan_87 ⟨Nat.le_of_ble_eq_true rfl, Nat.le_of_ble_eq_true rfl⟩) hm hS hA (fun r_12 st_12 H locs hw_12 hM hS => ?_)
          obtain ⟨n_12, hw_12⟩ := hw_12
          have hB_st_12 : gBN bX kX [1300, 1400, 1500, 3803, 3804, 3810, 3811, 3813, 3814, 4100, 4300, 4500, 4600, 4700] st st_12 := hB_st_11.call n_12 (by decide)
          have hw_12_0 := hw_12
          refine vx_ret ?_
          exact gs_iret hx hb hr hlocks hM hS rfl ⟨hB_st_12, ⟨by omega, by omega⟩, (tdX.trans (tdX.trans tdX.rf hw_11_0) hw_12_0)⟩ (by exact Nat.le_of_ble_eq_true rfl) (by exact Nat.le_of_ble_eq_true rfl) dX9_plan_90
        · have ic_8 := gz_nle (rfl : x_7.toInt = x_7.toInt) (by decide : (199 : Int32).toInt = 199) c_8
          refine lv_aload_n hx hb dX9_plan_52 rfl (lv_at hl 0 rfl) ?_
          refine gs_get (C := RX9) (T := TX9) (N := 12) hx hb hts inX9 hown hK hM 0 0 9 (by decide) rfl rfl (by decide) (hts _ gm_300) (fun _ h9 => h9) rfl dX9_plan_53 ?_
          refine lv_iconst (v := 0) hx hb dX9_plan_56 (by decide) ?_
          refine gs_putN (host := "WellCourt") (C := RX6) (T := TX6) (N := 15) (ty := .int) (val := .int 0) hx hb hts inX6 tyX6 tyX6_ok nmX6 hown hK hI hm hM hS 38 0 10 (by decide) rfl rfl (by decide) (va_Nw.use rfl (hov.2.2 _ gn_254)) (fun _ h9 => h9) rfl (0 : Int32) rfl (by decide +kernel) rfl rfl (Nat.le_of_ble_eq_true rfl) dX9_plan_57 (fun st_13 H locs est_13 hM hS => ?_)
          have hB_st_13 : gBN bX kX [1300, 1400, 1500, 3803, 3804, 3810, 3811, 3813, 3814, 4100, 4300, 4500, 4600, 4700] st st_13 := by rw [est_13]; exact hB_st.up (show (3810 : Nat) ∈ _ from by decide) (gi_lo _) (gi_hi _)
          refine lv_iconst (v := (-1)) hx hb dX9_plan_60 (by decide) ?_
          refine vx_ret ?_
          exact gs_iret hx hb hr hlocks hM hS rfl ⟨hB_st_13, ⟨by omega, by omega⟩, (tdX.trans tdX.rf (tdX.upk est_13 (by decide)))⟩ (by exact Nat.le_of_ble_eq_true rfl) (by exact Nat.le_of_ble_eq_true rfl) dX9_plan_61
      · skip
        refine lv_if_eq (tgt := 52) hx hb dX9_plan_37 (by decide) (fun _ => ?_) (fun h9 => absurd (by decide) h9)
        refine lv_aload_n hx hb dX9_plan_52 rfl (lv_at hl 0 rfl) ?_
        refine gs_get (C := RX9) (T := TX9) (N := 12) hx hb hts inX9 hown hK hM 0 0 9 (by decide) rfl rfl (by decide) (hts _ gm_300) (fun _ h9 => h9) rfl dX9_plan_53 ?_
        refine lv_iconst (v := 0) hx hb dX9_plan_56 (by decide) ?_
        refine gs_putN (host := "WellCourt") (C := RX6) (T := TX6) (N := 15) (ty := .int) (val := .int 0) hx hb hts inX6 tyX6 tyX6_ok nmX6 hown hK hI hm hM hS 38 0 10 (by decide) rfl rfl (by decide) (va_Nw.use rfl (hov.2.2 _ gn_254)) (fun _ h9 => h9) rfl (0 : Int32) rfl (by decide +kernel) rfl rfl (Nat.le_of_ble_eq_true rfl) dX9_plan_57 (fun st_14 H locs est_14 hM hS => ?_)
        have hB_st_14 : gBN bX kX [1300, 1400, 1500, 3803, 3804, 3810, 3811, 3813, 3814, 4100, 4300, 4500, 4600, 4700] st st_14 := by rw [est_14]; exact hB_st.up (show (3810 : Nat) ∈ _ from by decide) (gi_lo _) (gi_hi _)
        refine lv_iconst (v := (-1)) hx hb dX9_plan_60 (by decide) ?_
        refine vx_ret ?_
        exact gs_iret hx hb hr hlocks hM hS rfl ⟨hB_st_14, ⟨by omega, by omega⟩, (tdX.trans tdX.rf (tdX.upk est_14 (by decide)))⟩ (by exact Nat.le_of_ble_eq_true rfl) (by exact Nat.le_of_ble_eq_true rfl) dX9_plan_61
  · skip
    refine lv_if_ne (tgt := 20) hx hb dX9_plan_7 (by decide) (fun h9 => absurd (by decide) h9) (fun _ => ?_)
    obtain ⟨sa, hstr⟩ := hE.1.2.2.2.1
    exact vx_throwS (own := RX9) (cls := "java/lang/IllegalArgumentException") (names := ["java/lang/RuntimeException", "java/lang/Exception"]) (A := A) hx hb hlt hown (by decide +kernel) (by decide +kernel) (hts _ gm_823) (hts _ gm_22) hstr (vx_hat (fun w9 h9 => hts w9 (List.mem_filter.mpr ⟨xw2 w9 h9, (List.mem_filter.mp h9).2⟩)) xw2_bad (gz_badu hE.1.2.2.2.2.2)) xw2_ot hE.1.1 hE.1.2.1 hS (hl.1.trans hml.symm) dX9_plan_10 dX9_plan_13 dX9_plan_14 dX9_plan_16 dX9_plan_19 (fun x9 hx9 => (htab x9 hx9).elim) (Nat.le_of_ble_eq_true rfl) (Nat.le_of_ble_eq_true rfl) (Nat.le_of_ble_eq_true rfl) (Nat.le_of_ble_eq_true rfl) hlocks (fun t hvm hsz9 hold => gs_xF hM hS ⟨rfl, by omega⟩ hsz9 hold) hS.2.2 (by exact Nat.le_of_ble_eq_true rfl) (by exact Nat.le_of_ble_eq_true rfl)
