theorem gm_671 : (Jvm.Cond.methodLink "WellCourt" (191 : Nat) ({ cls := "WellCourt$Ledger", name := "sum", desc := "(IIIZ)I" } : Jvm.MethodName)) ∈ gz_T := gz_at 671 (by decide +kernel) rfl
theorem gm_672 : (Jvm.Cond.instanceMethod ({ cls := "WellCourt$Ledger", name := "sum", desc := "(IIIZ)I" } : Jvm.MethodName)) ∈ gz_T := gz_at 672 (by decide +kernel) rfl
theorem gm_673 : (Jvm.Cond.selects "WellCourt$Ledger" ({ cls := "WellCourt$Ledger", name := "sum", desc := "(IIIZ)I" } : Jvm.MethodName) ({ cls := "WellCourt$Ledger", name := "sum", desc := "(IIIZ)I" } : Jvm.MethodName)) ∈ gz_T := gz_at 673 (by decide +kernel) rfl
theorem gm_674 : (Jvm.Cond.code ({ cls := "WellCourt$Ledger", name := "sum", desc := "(IIIZ)I" } : Jvm.MethodName) prog_7_method_5_code (7 : Nat) (Option.some Jvm.ClassFile.FieldType.int)) ∈ gz_T := gz_at 674 (by decide +kernel) rfl
theorem gm_676 : (Jvm.Cond.methodLink "WellCourt" (195 : Nat) ({ cls := "WellCourt$Ledger", name := "sumKnown", desc := "(IIIZI)I" } : Jvm.MethodName)) ∈ gz_T := gz_at 676 (by decide +kernel) rfl
theorem gm_677 : (Jvm.Cond.instanceMethod ({ cls := "WellCourt$Ledger", name := "sumKnown", desc := "(IIIZI)I" } : Jvm.MethodName)) ∈ gz_T := gz_at 677 (by decide +kernel) rfl
theorem gm_678 : (Jvm.Cond.selects "WellCourt$Ledger" ({ cls := "WellCourt$Ledger", name := "sumKnown", desc := "(IIIZI)I" } : Jvm.MethodName) ({ cls := "WellCourt$Ledger", name := "sumKnown", desc := "(IIIZI)I" } : Jvm.MethodName)) ∈ gz_T := gz_at 678 (by decide +kernel) rfl
theorem gm_679 : (Jvm.Cond.code ({ cls := "WellCourt$Ledger", name := "sumKnown", desc := "(IIIZI)I" } : Jvm.MethodName) prog_7_method_6_code (8 : Nat) (Option.some Jvm.ClassFile.FieldType.int)) ∈ gz_T := gz_at 679 (by decide +kernel) rfl
theorem gm_684 : (Jvm.Cond.methodLink "WellCourt" (199 : Nat) ({ cls := "WellCourt", name := "fine", desc := "(IIII)I" } : Jvm.MethodName)) ∈ gz_T := gz_at 684 (by decide +kernel) rfl
theorem gm_686 : (Jvm.Cond.instanceMethod ({ cls := "WellCourt", name := "fine", desc := "(IIII)I" } : Jvm.MethodName)) ∈ gz_T := gz_at 686 (by decide +kernel) rfl
theorem gm_687 : (Jvm.Cond.code ({ cls := "WellCourt", name := "fine", desc := "(IIII)I" } : Jvm.MethodName) prog_1_method_28_code (7 : Nat) (Option.some Jvm.ClassFile.FieldType.int)) ∈ gz_T := gz_at 687 (by decide +kernel) rfl
theorem gm_688 : (Jvm.Cond.methodLink "WellCourt" (262 : Nat) ({ cls := "java/lang/Math", name := "max", desc := "(II)I" } : Jvm.MethodName)) ∈ gz_T := gz_at 688 (by decide +kernel) rfl
theorem gs_22 : (Jvm.Cond.selects "WellCourt" ({ cls := "WellCourt", name := "fine", desc := "(IIII)I" } : Jvm.MethodName) ({ cls := "WellCourt", name := "fine", desc := "(IIII)I" } : Jvm.MethodName)) ∈ gz_T := gz_sel 22 (by decide +kernel) rfl
theorem dX9_fine_0 : decode cX9_fine 0 = .ok (.aload_n 0, 1) := by decide +kernel
theorem dX9_fine_1 : decode cX9_fine 1 = .ok (.getfield 49, 3) := by decide +kernel
theorem dX9_fine_4 : decode cX9_fine 4 = .ok (.iload_n 1, 1) := by decide +kernel
theorem dX9_fine_5 : decode cX9_fine 5 = .ok (.iload_n 2, 1) := by decide +kernel
theorem dX9_fine_6 : decode cX9_fine 6 = .ok (.iload_n 3, 1) := by decide +kernel
theorem dX9_fine_7 : decode cX9_fine 7 = .ok (.iconst 0, 1) := by decide +kernel
theorem dX9_fine_8 : decode cX9_fine 8 = .ok (.iload 4, 2) := by decide +kernel
theorem dX9_fine_10 : decode cX9_fine 10 = .ok (.invokevirtual 195, 3) := by decide +kernel
theorem dX9_fine_13 : decode cX9_fine 13 = .ok (.istore 5, 2) := by decide +kernel
theorem dX9_fine_15 : decode cX9_fine 15 = .ok (.aload_n 0, 1) := by decide +kernel
theorem dX9_fine_16 : decode cX9_fine 16 = .ok (.getfield 49, 3) := by decide +kernel
theorem dX9_fine_19 : decode cX9_fine 19 = .ok (.iload_n 1, 1) := by decide +kernel
theorem dX9_fine_20 : decode cX9_fine 20 = .ok (.iload_n 2, 1) := by decide +kernel
theorem dX9_fine_21 : decode cX9_fine 21 = .ok (.iload_n 3, 1) := by decide +kernel
theorem dX9_fine_22 : decode cX9_fine 22 = .ok (.iconst 1, 1) := by decide +kernel
theorem dX9_fine_23 : decode cX9_fine 23 = .ok (.iload 4, 2) := by decide +kernel
theorem dX9_fine_25 : decode cX9_fine 25 = .ok (.invokevirtual 195, 3) := by decide +kernel
theorem dX9_fine_28 : decode cX9_fine 28 = .ok (.istore 6, 2) := by decide +kernel
theorem dX9_fine_30 : decode cX9_fine 30 = .ok (.iconst 2, 1) := by decide +kernel
theorem dX9_fine_31 : decode cX9_fine 31 = .ok (.iload 5, 2) := by decide +kernel
theorem dX9_fine_33 : decode cX9_fine 33 = .ok (.imul, 1) := by decide +kernel
theorem dX9_fine_34 : decode cX9_fine 34 = .ok (.iload 6, 2) := by decide +kernel
theorem dX9_fine_36 : decode cX9_fine 36 = .ok (.isub, 1) := by decide +kernel
theorem dX9_fine_37 : decode cX9_fine 37 = .ok (.iconst 0, 1) := by decide +kernel
theorem dX9_fine_38 : decode cX9_fine 38 = .ok (.invokestatic 262, 3) := by decide +kernel
theorem dX9_fine_41 : decode cX9_fine 41 = .ok (.ireturn, 1) := by decide +kernel
theorem dX9_judge_0 : decode cX9_judge 0 = .ok (.iload_n 1, 1) := by decide +kernel
theorem dX9_judge_1 : decode cX9_judge 1 = .ok (.invokestatic 151, 3) := by decide +kernel
theorem dX9_judge_4 : decode cX9_judge 4 = .ok (.ifCond .ne 5, 3) := by decide +kernel
theorem dX9_judge_7 : decode cX9_judge 7 = .ok (.iconst (-1), 1) := by decide +kernel
theorem dX9_judge_8 : decode cX9_judge 8 = .ok (.ireturn, 1) := by decide +kernel
theorem dX9_judge_9 : decode cX9_judge 9 = .ok (.iload 5, 2) := by decide +kernel
theorem dX9_judge_11 : decode cX9_judge 11 = .ok (.tableswitch 89 0 3 #[29, 53, 65, 79], 29) := by decide +kernel
theorem dX9_judge_40 : decode cX9_judge 40 = .ok (.aload_n 0, 1) := by decide +kernel
theorem dX9_judge_41 : decode cX9_judge 41 = .ok (.getfield 49, 3) := by decide +kernel
theorem dX9_judge_44 : decode cX9_judge 44 = .ok (.iload_n 1, 1) := by decide +kernel
theorem dX9_judge_45 : decode cX9_judge 45 = .ok (.iload_n 2, 1) := by decide +kernel
theorem dX9_judge_46 : decode cX9_judge 46 = .ok (.iload_n 3, 1) := by decide +kernel
theorem dX9_judge_47 : decode cX9_judge 47 = .ok (.iconst 1, 1) := by decide +kernel
theorem dX9_judge_48 : decode cX9_judge 48 = .ok (.invokevirtual 191, 3) := by decide +kernel
theorem dX9_judge_51 : decode cX9_judge 51 = .ok (.aload_n 0, 1) := by decide +kernel
theorem dX9_judge_52 : decode cX9_judge 52 = .ok (.getfield 49, 3) := by decide +kernel
theorem dX9_judge_55 : decode cX9_judge 55 = .ok (.iload_n 1, 1) := by decide +kernel
theorem dX9_judge_56 : decode cX9_judge 56 = .ok (.iload_n 2, 1) := by decide +kernel
theorem dX9_judge_57 : decode cX9_judge 57 = .ok (.iload_n 3, 1) := by decide +kernel
theorem dX9_judge_58 : decode cX9_judge 58 = .ok (.iconst 0, 1) := by decide +kernel
theorem dX9_judge_59 : decode cX9_judge 59 = .ok (.invokevirtual 191, 3) := by decide +kernel
theorem dX9_judge_62 : decode cX9_judge 62 = .ok (.iadd, 1) := by decide +kernel
theorem dX9_judge_63 : decode cX9_judge 63 = .ok (.ireturn, 1) := by decide +kernel
theorem dX9_judge_64 : decode cX9_judge 64 = .ok (.aload_n 0, 1) := by decide +kernel
theorem dX9_judge_65 : decode cX9_judge 65 = .ok (.getfield 49, 3) := by decide +kernel
theorem dX9_judge_68 : decode cX9_judge 68 = .ok (.iload_n 1, 1) := by decide +kernel
theorem dX9_judge_69 : decode cX9_judge 69 = .ok (.iload_n 2, 1) := by decide +kernel
theorem dX9_judge_70 : decode cX9_judge 70 = .ok (.iload_n 3, 1) := by decide +kernel
theorem dX9_judge_71 : decode cX9_judge 71 = .ok (.iconst 0, 1) := by decide +kernel
theorem dX9_judge_72 : decode cX9_judge 72 = .ok (.invokevirtual 191, 3) := by decide +kernel
theorem dX9_judge_75 : decode cX9_judge 75 = .ok (.ireturn, 1) := by decide +kernel
theorem dX9_judge_76 : decode cX9_judge 76 = .ok (.aload_n 0, 1) := by decide +kernel
theorem dX9_judge_77 : decode cX9_judge 77 = .ok (.getfield 49, 3) := by decide +kernel
theorem dX9_judge_80 : decode cX9_judge 80 = .ok (.iload_n 1, 1) := by decide +kernel
theorem dX9_judge_81 : decode cX9_judge 81 = .ok (.iload_n 2, 1) := by decide +kernel
theorem dX9_judge_82 : decode cX9_judge 82 = .ok (.iload_n 3, 1) := by decide +kernel
theorem dX9_judge_83 : decode cX9_judge 83 = .ok (.iconst 0, 1) := by decide +kernel
theorem dX9_judge_84 : decode cX9_judge 84 = .ok (.iload 4, 2) := by decide +kernel
theorem dX9_judge_86 : decode cX9_judge 86 = .ok (.invokevirtual 195, 3) := by decide +kernel
theorem dX9_judge_89 : decode cX9_judge 89 = .ok (.ireturn, 1) := by decide +kernel
theorem dX9_judge_90 : decode cX9_judge 90 = .ok (.aload_n 0, 1) := by decide +kernel
theorem dX9_judge_91 : decode cX9_judge 91 = .ok (.iload_n 1, 1) := by decide +kernel
theorem dX9_judge_92 : decode cX9_judge 92 = .ok (.iload_n 2, 1) := by decide +kernel
theorem dX9_judge_93 : decode cX9_judge 93 = .ok (.iload_n 3, 1) := by decide +kernel
theorem dX9_judge_94 : decode cX9_judge 94 = .ok (.iload 4, 2) := by decide +kernel
theorem dX9_judge_96 : decode cX9_judge 96 = .ok (.invokevirtual 199, 3) := by decide +kernel
theorem dX9_judge_99 : decode cX9_judge 99 = .ok (.ireturn, 1) := by decide +kernel
theorem dX9_judge_100 : decode cX9_judge 100 = .ok (.iconst (-1), 1) := by decide +kernel
theorem dX9_judge_101 : decode cX9_judge 101 = .ok (.ireturn, 1) := by decide +kernel
set_option maxHeartbeats 4000000 in
set_option maxRecDepth 100000 in
/-- WellCourt.fine -/
theorem s_fine (l : Launch) (G : va_G) (cy : Nat → ClassId) (sK sV : Nat → Nat) (ad : Nat → Nat → Nat) (sz : Nat) (st : gS) (hB : gBd bX st) (x : Int32) (y : Int32) (w : Int32) (v : Int32) (Xx : Int) (Xy : Int) (Xw : Int) (Xv : Int) (kx : x.toInt = Xx) (ky : y.toInt = Xy) (kw : w.toInt = Xw) (kv : v.toInt = Xv) : gsMi l yX9_fine cX9_fine 7 (some .int) ({ frames := 2, cells := 0, slots := 0, locals := 50 } : Room) G cy sK sV (shX cy ad) cnX ad sz [.ref (ad 0 0), .int x, .int y, .int w, .int v] st (fun (r : Int32) (u : gS) => gBN bX kX [] st u ∧ (((0 < (2 * sW (pJn (st 18 0) (st 18 2) (st 18 4) (st 18 5) Xx Xy Xw 0 Xv) (st 18 3) (st 16 0 1).toNatClampNeg - sW (pJn (st 18 0) (st 18 2) (st 18 4) (st 18 5) Xx Xy Xw 1 Xv) (st 18 3) (st 16 0 1).toNatClampNeg).toInt ∧ r = (2 * sW (pJn (st 18 0) (st 18 2) (st 18 4) (st 18 5) Xx Xy Xw 0 Xv) (st 18 3) (st 16 0 1).toNatClampNeg - sW (pJn (st 18 0) (st 18 2) (st 18 4) (st 18 5) Xx Xy Xw 1 Xv) (st 18 3) (st 16 0 1).toNatClampNeg)) ∨ ((2 * sW (pJn (st 18 0) (st 18 2) (st 18 4) (st 18 5) Xx Xy Xw 0 Xv) (st 18 3) (st 16 0 1).toNatClampNeg - sW (pJn (st 18 0) (st 18 2) (st 18 4) (st 18 5) Xx Xy Xw 1 Xv) (st 18 3) (st 16 0 1).toNatClampNeg).toInt ≤ 0 ∧ r.toInt = 0)))) := by
  refine gs_start (fun A => gsQi G (shX cy ad) cnX ad _ A) (by decide) (Nat.le_of_ble_eq_true rfl) ?_
  intro p e s m below meth c A ls H hx hb hr hml hlocks hown hts hK hov hE hI hM hm hS hA hl
  have hl : lv_has ls 7 [(0, .ref (ad 0 0)), (1, .int x), (2, .int y), (3, .int w), (4, .int v)] := hl
  have hB_st : gBN bX kX [] st st := gBN.rf hB
  refine lv_aload_n hx hb dX9_fine_0 rfl (lv_at hl 0 rfl) ?_
  refine gs_get (C := RX9) (T := TX9) (N := 12) hx hb hts inX9 hown hK hM 0 0 5 (by decide) rfl rfl (by decide) (hts _ gm_296) (fun _ h9 => h9) rfl dX9_fine_1 ?_
  refine lv_iload_n hx hb dX9_fine_4 rfl (lv_at hl 1 rfl) ?_
  refine lv_iload_n hx hb dX9_fine_5 rfl (lv_at hl 2 rfl) ?_
  refine lv_iload_n hx hb dX9_fine_6 rfl (lv_at hl 3 rfl) ?_
  refine lv_iconst (v := 0) hx hb dX9_fine_7 (by decide) ?_
  refine lv_iload hx hb dX9_fine_8 (lv_at hl 4 rfl) ?_
  refine gs_calli (va_runV (As := [.int x, .int y, .int w, .int 0, .int v]) (rest := []) ⟨hx, hb, hml, hown, hts⟩ (s_X5_sumKnown0 l G cy sK sV ad H.size st hB_st.1 x y w v x.toInt y.toInt w.toInt v.toInt rfl rfl rfl rfl ) ⟨(gz_cb (n := 5) hts gm_676 gm_8 gm_679 ⟨by decide +kernel, by decide +kernel, by decide +kernel⟩ ⟨Nat.le_of_ble_eq_true rfl, Nat.le_of_ble_eq_true rfl⟩), hts _ gm_677, hts _ gm_678⟩ (gs_preV hK hov hE hI hM hm hS hA 16 0 (by decide) rfl rfl) rfl rfl hl.1 rfl (lv_room (Nat.le_of_ble_eq_true rfl)) dX9_fine_10 ⟨Nat.le_of_ble_eq_true rfl, Nat.le_of_ble_eq_true rfl⟩) hm hS hA (fun r_1 st_1 H locs hw_1 hM hS => ?_)
  obtain ⟨n_1, hw_1⟩ := hw_1
  have n_1 := gBN.nil n_1
  subst n_1
  have hbhw_10 : (0 : Int) ≤ (st 16 0 1).toInt ∧ (st 16 0 1).toInt ≤ (300 : Int) := hB_st.1 16 0 1
  have hw_1_0 := hw_1
  refine lv_istore (lv' := [(5, .int r_1), (0, .ref (ad 0 0)), (1, .int x), (2, .int y), (3, .int w), (4, .int v)]) hx hb dX9_fine_13 hl (by decide) rfl (fun ls hl => ?_)
  refine lv_aload_n hx hb dX9_fine_15 rfl (lv_at hl 1 rfl) ?_
  refine gs_get (C := RX9) (T := TX9) (N := 12) hx hb hts inX9 hown hK hM 0 0 5 (by decide) rfl rfl (by decide) (hts _ gm_296) (fun _ h9 => h9) rfl dX9_fine_16 ?_
  refine lv_iload_n hx hb dX9_fine_19 rfl (lv_at hl 2 rfl) ?_
  refine lv_iload_n hx hb dX9_fine_20 rfl (lv_at hl 3 rfl) ?_
  refine lv_iload_n hx hb dX9_fine_21 rfl (lv_at hl 4 rfl) ?_
  refine lv_iconst (v := 1) hx hb dX9_fine_22 (by decide) ?_
  refine lv_iload hx hb dX9_fine_23 (lv_at hl 5 rfl) ?_
  refine gs_calli (va_runV (As := [.int x, .int y, .int w, .int 1, .int v]) (rest := []) ⟨hx, hb, hml, hown, hts⟩ (s_X5_sumKnown1 l G cy sK sV ad H.size st hB_st.1 x y w v x.toInt y.toInt w.toInt v.toInt rfl rfl rfl rfl ) ⟨(gz_cb (n := 5) hts gm_676 gm_8 gm_679 ⟨by decide +kernel, by decide +kernel, by decide +kernel⟩ ⟨Nat.le_of_ble_eq_true rfl, Nat.le_of_ble_eq_true rfl⟩), hts _ gm_677, hts _ gm_678⟩ (gs_preV hK hov hE hI hM hm hS hA 16 0 (by decide) rfl rfl) rfl rfl hl.1 rfl (lv_room (Nat.le_of_ble_eq_true rfl)) dX9_fine_25 ⟨Nat.le_of_ble_eq_true rfl, Nat.le_of_ble_eq_true rfl⟩) hm hS hA (fun r_2 st_2 H locs hw_2 hM hS => ?_)
  obtain ⟨n_2, hw_2⟩ := hw_2
  have n_2 := gBN.nil n_2
  subst n_2
  have hw_2_0 := hw_2
  refine lv_istore (lv' := [(6, .int r_2), (5, .int r_1), (0, .ref (ad 0 0)), (1, .int x), (2, .int y), (3, .int w), (4, .int v)]) hx hb dX9_fine_28 hl (by decide) rfl (fun ls hl => ?_)
  refine lv_iconst (v := 2) hx hb dX9_fine_30 (by decide) ?_
  refine lv_iload hx hb dX9_fine_31 (lv_at hl 1 rfl) ?_
  refine lv_imul hx hb dX9_fine_33 ?_
  refine lv_topi (fun x_3 ex_3 => ?_)
  refine lv_iload hx hb dX9_fine_34 (lv_at hl 0 rfl) ?_
  refine lv_isub hx hb dX9_fine_36 ?_
  refine lv_topi (fun x_4 ex_4 => ?_)
  refine lv_iconst (v := 0) hx hb dX9_fine_37 (by decide) ?_
  refine va_mmax hx hb (hml.trans hl.1.symm) hown (hts _ gm_688) (hts _ gm_537) (hts _ gm_17) (hts _ gm_538) (Nat.le_of_ble_eq_true rfl) (Nat.le_of_ble_eq_true rfl) (Nat.le_of_ble_eq_true rfl) (Nat.le_of_ble_eq_true rfl) dX9_fine_38 ?_
  refine lv_topi (fun x_5 ex_5 => ?_)
  have tx_5 := gs_max ex_5
  have ux_5 : (0 : Int32).toInt = 0 := (by decide)
  exact gs_iret hx hb hr hlocks hM hS rfl ⟨hB_st, (by have h5 : x_4 = (2 * sW (pJn (st 18 0) (st 18 2) (st 18 4) (st 18 5) Xx Xy Xw 0 Xv) (st 18 3) (st 16 0 1).toNatClampNeg - sW (pJn (st 18 0) (st 18 2) (st 18 4) (st 18 5) Xx Xy Xw 1 Xv) (st 18 3) (st 16 0 1).toNatClampNeg) := (by have h4 := hw_1_0; rw [kx, ky, kw, kv] at h4; have h3 := hw_2_0; rw [kx, ky, kw, kv] at h3; rw [ex_4, ex_3, h4, h3]); rw [← h5]; exact gx_max ex_5)⟩ (by exact Nat.le_refl _) (by exact Nat.le_refl _) dX9_fine_41

set_option maxHeartbeats 4000000 in
set_option maxRecDepth 100000 in
/-- WellCourt.judge -/
theorem s_judge (l : Launch) (G : va_G) (cy : Nat → ClassId) (sK sV : Nat → Nat) (ad : Nat → Nat → Nat) (sz : Nat) (st : gS) (hB : gBd bX st) (x : Int32) (y : Int32) (w : Int32) (v : Int32) (t : Int32) (Xx : Int) (Xy : Int) (Xw : Int) (Xv : Int) (Xt : Int) (kx : x.toInt = Xx) (ky : y.toInt = Xy) (kw : w.toInt = Xw) (kv : v.toInt = Xv) (kt : t.toInt = Xt) : gsMi l yX9_judge cX9_judge 6 (some .int) ({ frames := 3, cells := 0, slots := 0, locals := 76 } : Room) G cy sK sV (shX cy ad) cnX ad sz [.ref (ad 0 0), .int x, .int y, .int w, .int v, .int t] st (fun (r : Int32) (u : gS) => gBN bX kX [] st u ∧ ((((0 ≤ Xx ∧ Xx ≤ 5 ∧ 0 ≤ Xt ∧ Xt ≤ 3) ∧ ((Xt = 0 ∧ r = sW (pJr (st 18 0) (st 18 2) (st 18 4) Xx Xy Xw 1) (st 18 3) (st 16 0 1).toNatClampNeg + sW (pJr (st 18 0) (st 18 2) (st 18 4) Xx Xy Xw 0) (st 18 3) (st 16 0 1).toNatClampNeg) ∨ (Xt = 1 ∧ r = sW (pJr (st 18 0) (st 18 2) (st 18 4) Xx Xy Xw 0) (st 18 3) (st 16 0 1).toNatClampNeg) ∨ (Xt = 2 ∧ r = sW (pJn (st 18 0) (st 18 2) (st 18 4) (st 18 5) Xx Xy Xw 0 Xv) (st 18 3) (st 16 0 1).toNatClampNeg) ∨ (Xt = 3 ∧ ((0 < (2 * sW (pJn (st 18 0) (st 18 2) (st 18 4) (st 18 5) Xx Xy Xw 0 Xv) (st 18 3) (st 16 0 1).toNatClampNeg - sW (pJn (st 18 0) (st 18 2) (st 18 4) (st 18 5) Xx Xy Xw 1 Xv) (st 18 3) (st 16 0 1).toNatClampNeg).toInt ∧ r = (2 * sW (pJn (st 18 0) (st 18 2) (st 18 4) (st 18 5) Xx Xy Xw 0 Xv) (st 18 3) (st 16 0 1).toNatClampNeg - sW (pJn (st 18 0) (st 18 2) (st 18 4) (st 18 5) Xx Xy Xw 1 Xv) (st 18 3) (st 16 0 1).toNatClampNeg)) ∨ ((2 * sW (pJn (st 18 0) (st 18 2) (st 18 4) (st 18 5) Xx Xy Xw 0 Xv) (st 18 3) (st 16 0 1).toNatClampNeg - sW (pJn (st 18 0) (st 18 2) (st 18 4) (st 18 5) Xx Xy Xw 1 Xv) (st 18 3) (st 16 0 1).toNatClampNeg).toInt ≤ 0 ∧ r.toInt = 0))))) ∨ (¬ (0 ≤ Xx ∧ Xx ≤ 5 ∧ 0 ≤ Xt ∧ Xt ≤ 3) ∧ r.toInt = -1)))) := by
  refine gs_start (fun A => gsQi G (shX cy ad) cnX ad _ A) (by decide) (Nat.le_of_ble_eq_true rfl) ?_
  intro p e s m below meth c A ls H hx hb hr hml hlocks hown hts hK hov hE hI hM hm hS hA hl
  have hl : lv_has ls 6 [(0, .ref (ad 0 0)), (1, .int x), (2, .int y), (3, .int w), (4, .int v), (5, .int t)] := hl
  have hB_st : gBN bX kX [] st st := gBN.rf hB
  refine lv_iload_n hx hb dX9_judge_0 rfl (lv_at hl 1 rfl) ?_
  refine gs_calli (va_runS (As := [.int x]) (rest := []) ⟨hx, hb, hml, hown, hts⟩ (s_isClan l G cy sK sV ad H.size st hB_st.1 x x.toInt rfl ) ⟨(gz_cb (n := 1) hts gm_600 gm_1 gm_487 ⟨by decide +kernel, by decide +kernel, by decide +kernel⟩ ⟨Nat.le_of_ble_eq_true rfl, Nat.le_of_ble_eq_true rfl⟩), hts _ gm_486⟩ (gs_preS hK hov hE hI hM hm hS hA) rfl rfl hl.1 rfl (lv_room (Nat.le_of_ble_eq_true rfl)) dX9_judge_1 ⟨Nat.le_of_ble_eq_true rfl, Nat.le_of_ble_eq_true rfl⟩) hm hS hA (fun r_1 st_1 H locs hw_1 hM hS => ?_)
  obtain ⟨n_1, hw_1⟩ := hw_1
  have n_1 := gBN.nil n_1
  subst n_1
  rcases hw_1 with ⟨rfl, hw_1_0, hw_1_1⟩ | ⟨rfl, hw_1_0⟩
  · skip
    refine lv_if_ne (tgt := 9) hx hb dX9_judge_4 (by decide) (fun _ => ?_) (fun h9 => absurd h9 (by decide))
    refine lv_iload hx hb dX9_judge_9 (lv_at hl 5 rfl) ?_
    rcases (show t.toInt < 0 ∨ 3 < t.toInt ∨ t.toInt = 0 ∨ t.toInt = 1 ∨ t.toInt = 2 ∨ t.toInt = 3 by omega) with h_2 | h_2 | h_2 | h_2 | h_2 | h_2
    · refine lv_tableOut (tgt := 100) hx hb dX9_judge_11 (Or.inl h_2) (by decide) ?_
      refine lv_iconst (v := (-1)) hx hb dX9_judge_100 (by decide) ?_
      exact gs_iret hx hb hr hlocks hM hS rfl ⟨hB_st, (Or.inr ⟨by omega, by decide⟩)⟩ (by exact Nat.le_refl _) (by exact Nat.le_refl _) dX9_judge_101
    · refine lv_tableOut (tgt := 100) hx hb dX9_judge_11 (Or.inr h_2) (by decide) ?_
      refine lv_iconst (v := (-1)) hx hb dX9_judge_100 (by decide) ?_
      exact gs_iret hx hb hr hlocks hM hS rfl ⟨hB_st, (Or.inr ⟨by omega, by decide⟩)⟩ (by exact Nat.le_refl _) (by exact Nat.le_refl _) dX9_judge_101
    · refine lv_tableIn (tgt := 40) hx hb dX9_judge_11 (by omega) (by omega) (by rw [h_2]; rfl) (by decide) ?_
      refine lv_aload_n hx hb dX9_judge_40 rfl (lv_at hl 0 rfl) ?_
      refine gs_get (C := RX9) (T := TX9) (N := 12) hx hb hts inX9 hown hK hM 0 0 5 (by decide) rfl rfl (by decide) (hts _ gm_296) (fun _ h9 => h9) rfl dX9_judge_41 ?_
      refine lv_iload_n hx hb dX9_judge_44 rfl (lv_at hl 1 rfl) ?_
      refine lv_iload_n hx hb dX9_judge_45 rfl (lv_at hl 2 rfl) ?_
      refine lv_iload_n hx hb dX9_judge_46 rfl (lv_at hl 3 rfl) ?_
      refine lv_iconst (v := 1) hx hb dX9_judge_47 (by decide) ?_
      refine gs_calli (va_runV (As := [.int x, .int y, .int w, .int 1]) (rest := []) ⟨hx, hb, hml, hown, hts⟩ (s_X5_sum1 l G cy sK sV ad H.size st hB_st.1 x y w x.toInt y.toInt w.toInt rfl rfl rfl ) ⟨(gz_cb (n := 4) hts gm_671 gm_8 gm_674 ⟨by decide +kernel, by decide +kernel, by decide +kernel⟩ ⟨Nat.le_of_ble_eq_true rfl, Nat.le_of_ble_eq_true rfl⟩), hts _ gm_672, hts _ gm_673⟩ (gs_preV hK hov hE hI hM hm hS hA 16 0 (by decide) rfl rfl) rfl rfl hl.1 rfl (lv_room (Nat.le_of_ble_eq_true rfl)) dX9_judge_48 ⟨Nat.le_of_ble_eq_true rfl, Nat.le_of_ble_eq_true rfl⟩) hm hS hA (fun r_3 st_3 H locs hw_3 hM hS => ?_)
      obtain ⟨n_3, hw_3⟩ := hw_3
      have n_3 := gBN.nil n_3
      subst n_3
      have hbhw_30 : (0 : Int) ≤ (st 16 0 1).toInt ∧ (st 16 0 1).toInt ≤ (300 : Int) := hB_st.1 16 0 1
      have hw_3_0 := hw_3
      refine lv_aload_n hx hb dX9_judge_51 rfl (lv_at hl 0 rfl) ?_
      refine gs_get (C := RX9) (T := TX9) (N := 12) hx hb hts inX9 hown hK hM 0 0 5 (by decide) rfl rfl (by decide) (hts _ gm_296) (fun _ h9 => h9) rfl dX9_judge_52 ?_
      refine lv_iload_n hx hb dX9_judge_55 rfl (lv_at hl 1 rfl) ?_
      refine lv_iload_n hx hb dX9_judge_56 rfl (lv_at hl 2 rfl) ?_
      refine lv_iload_n hx hb dX9_judge_57 rfl (lv_at hl 3 rfl) ?_
      refine lv_iconst (v := 0) hx hb dX9_judge_58 (by decide) ?_
      refine gs_calli (va_runV (As := [.int x, .int y, .int w, .int 0]) (rest := [.int r_3]) ⟨hx, hb, hml, hown, hts⟩ (s_X5_sum0 l G cy sK sV ad H.size st hB_st.1 x y w x.toInt y.toInt w.toInt rfl rfl rfl ) ⟨(gz_cb (n := 4) hts gm_671 gm_8 gm_674 ⟨by decide +kernel, by decide +kernel, by decide +kernel⟩ ⟨Nat.le_of_ble_eq_true rfl, Nat.le_of_ble_eq_true rfl⟩), hts _ gm_672, hts _ gm_673⟩ (gs_preV hK hov hE hI hM hm hS hA 16 0 (by decide) rfl rfl) rfl rfl hl.1 rfl (lv_room (Nat.le_of_ble_eq_true rfl)) dX9_judge_59 ⟨Nat.le_of_ble_eq_true rfl, Nat.le_of_ble_eq_true rfl⟩) hm hS hA (fun r_4 st_4 H locs hw_4 hM hS => ?_)
      obtain ⟨n_4, hw_4⟩ := hw_4
      have n_4 := gBN.nil n_4
      subst n_4
      have hw_4_0 := hw_4
      refine lv_iadd hx hb dX9_judge_62 ?_
      refine lv_topi (fun x_5 ex_5 => ?_)
      exact gs_iret hx hb hr hlocks hM hS rfl ⟨hB_st, (Or.inl ⟨⟨by omega, by omega, by omega, by omega⟩, Or.inl ⟨by omega, (by have h4 := hw_3_0; rw [kx, ky, kw] at h4; have h3 := hw_4_0; rw [kx, ky, kw] at h3; rw [ex_5, h4, h3])⟩⟩)⟩ (by exact Nat.le_refl _) (by exact Nat.le_refl _) dX9_judge_63
    · refine lv_tableIn (tgt := 64) hx hb dX9_judge_11 (by omega) (by omega) (by rw [h_2]; rfl) (by decide) ?_
      refine lv_aload_n hx hb dX9_judge_64 rfl (lv_at hl 0 rfl) ?_
      refine gs_get (C := RX9) (T := TX9) (N := 12) hx hb hts inX9 hown hK hM 0 0 5 (by decide) rfl rfl (by decide) (hts _ gm_296) (fun _ h9 => h9) rfl dX9_judge_65 ?_
      refine lv_iload_n hx hb dX9_judge_68 rfl (lv_at hl 1 rfl) ?_
      refine lv_iload_n hx hb dX9_judge_69 rfl (lv_at hl 2 rfl) ?_
      refine lv_iload_n hx hb dX9_judge_70 rfl (lv_at hl 3 rfl) ?_
      refine lv_iconst (v := 0) hx hb dX9_judge_71 (by decide) ?_
      refine gs_calli (va_runV (As := [.int x, .int y, .int w, .int 0]) (rest := []) ⟨hx, hb, hml, hown, hts⟩ (s_X5_sum0 l G cy sK sV ad H.size st hB_st.1 x y w x.toInt y.toInt w.toInt rfl rfl rfl ) ⟨(gz_cb (n := 4) hts gm_671 gm_8 gm_674 ⟨by decide +kernel, by decide +kernel, by decide +kernel⟩ ⟨Nat.le_of_ble_eq_true rfl, Nat.le_of_ble_eq_true rfl⟩), hts _ gm_672, hts _ gm_673⟩ (gs_preV hK hov hE hI hM hm hS hA 16 0 (by decide) rfl rfl) rfl rfl hl.1 rfl (lv_room (Nat.le_of_ble_eq_true rfl)) dX9_judge_72 ⟨Nat.le_of_ble_eq_true rfl, Nat.le_of_ble_eq_true rfl⟩) hm hS hA (fun r_6 st_6 H locs hw_6 hM hS => ?_)
      obtain ⟨n_6, hw_6⟩ := hw_6
      have n_6 := gBN.nil n_6
      subst n_6
      have hbhw_60 : (0 : Int) ≤ (st 16 0 1).toInt ∧ (st 16 0 1).toInt ≤ (300 : Int) := hB_st.1 16 0 1
      have hw_6_0 := hw_6
      exact gs_iret hx hb hr hlocks hM hS rfl ⟨hB_st, (Or.inl ⟨⟨by omega, by omega, by omega, by omega⟩, Or.inr (Or.inl (⟨by omega, (by have h9 := hw_6_0; rw [kx, ky, kw] at h9; exact h9)⟩))⟩)⟩ (by exact Nat.le_refl _) (by exact Nat.le_refl _) dX9_judge_75
    · refine lv_tableIn (tgt := 76) hx hb dX9_judge_11 (by omega) (by omega) (by rw [h_2]; rfl) (by decide) ?_
      refine lv_aload_n hx hb dX9_judge_76 rfl (lv_at hl 0 rfl) ?_
      refine gs_get (C := RX9) (T := TX9) (N := 12) hx hb hts inX9 hown hK hM 0 0 5 (by decide) rfl rfl (by decide) (hts _ gm_296) (fun _ h9 => h9) rfl dX9_judge_77 ?_
      refine lv_iload_n hx hb dX9_judge_80 rfl (lv_at hl 1 rfl) ?_
      refine lv_iload_n hx hb dX9_judge_81 rfl (lv_at hl 2 rfl) ?_
      refine lv_iload_n hx hb dX9_judge_82 rfl (lv_at hl 3 rfl) ?_
      refine lv_iconst (v := 0) hx hb dX9_judge_83 (by decide) ?_
      refine lv_iload hx hb dX9_judge_84 (lv_at hl 4 rfl) ?_
      refine gs_calli (va_runV (As := [.int x, .int y, .int w, .int 0, .int v]) (rest := []) ⟨hx, hb, hml, hown, hts⟩ (s_X5_sumKnown0 l G cy sK sV ad H.size st hB_st.1 x y w v x.toInt y.toInt w.toInt v.toInt rfl rfl rfl rfl ) ⟨(gz_cb (n := 5) hts gm_676 gm_8 gm_679 ⟨by decide +kernel, by decide +kernel, by decide +kernel⟩ ⟨Nat.le_of_ble_eq_true rfl, Nat.le_of_ble_eq_true rfl⟩), hts _ gm_677, hts _ gm_678⟩ (gs_preV hK hov hE hI hM hm hS hA 16 0 (by decide) rfl rfl) rfl rfl hl.1 rfl (lv_room (Nat.le_of_ble_eq_true rfl)) dX9_judge_86 ⟨Nat.le_of_ble_eq_true rfl, Nat.le_of_ble_eq_true rfl⟩) hm hS hA (fun r_7 st_7 H locs hw_7 hM hS => ?_)
      obtain ⟨n_7, hw_7⟩ := hw_7
      have n_7 := gBN.nil n_7
      subst n_7
      have hbhw_70 : (0 : Int) ≤ (st 16 0 1).toInt ∧ (st 16 0 1).toInt ≤ (300 : Int) := hB_st.1 16 0 1
      have hw_7_0 := hw_7
      exact gs_iret hx hb hr hlocks hM hS rfl ⟨hB_st, (Or.inl ⟨⟨by omega, by omega, by omega, by omega⟩, Or.inr (Or.inr (Or.inl (⟨by omega, (by have h9 := hw_7_0; rw [kx, ky, kw, kv] at h9; exact h9)⟩)))⟩)⟩ (by exact Nat.le_refl _) (by exact Nat.le_refl _) dX9_judge_89
    · refine lv_tableIn (tgt := 90) hx hb dX9_judge_11 (by omega) (by omega) (by rw [h_2]; rfl) (by decide) ?_
      refine lv_aload_n hx hb dX9_judge_90 rfl (lv_at hl 0 rfl) ?_
      refine lv_iload_n hx hb dX9_judge_91 rfl (lv_at hl 1 rfl) ?_
      refine lv_iload_n hx hb dX9_judge_92 rfl (lv_at hl 2 rfl) ?_
      refine lv_iload_n hx hb dX9_judge_93 rfl (lv_at hl 3 rfl) ?_
      refine lv_iload hx hb dX9_judge_94 (lv_at hl 4 rfl) ?_
      refine gs_calli (va_runV (As := [.int x, .int y, .int w, .int v]) (rest := []) ⟨hx, hb, hml, hown, hts⟩ (s_fine l G cy sK sV ad H.size st hB_st.1 x y w v x.toInt y.toInt w.toInt v.toInt rfl rfl rfl rfl ) ⟨(gz_cb (n := 4) hts gm_684 gm_1 gm_687 ⟨by decide +kernel, by decide +kernel, by decide +kernel⟩ ⟨Nat.le_of_ble_eq_true rfl, Nat.le_of_ble_eq_true rfl⟩), hts _ gm_686, hts _ gs_22⟩ (gs_preV hK hov hE hI hM hm hS hA 0 0 (by decide) rfl rfl) rfl rfl hl.1 rfl (lv_room (Nat.le_of_ble_eq_true rfl)) dX9_judge_96 ⟨Nat.le_of_ble_eq_true rfl, Nat.le_of_ble_eq_true rfl⟩) hm hS hA (fun r_8 st_8 H locs hw_8 hM hS => ?_)
      obtain ⟨n_8, hw_8⟩ := hw_8
      have n_8 := gBN.nil n_8
      subst n_8
      have hbhw_80 : (0 : Int) ≤ (st 16 0 1).toInt ∧ (st 16 0 1).toInt ≤ (300 : Int) := hB_st.1 16 0 1
      have hw_8_0 := hw_8
      exact gs_iret hx hb hr hlocks hM hS rfl ⟨hB_st, (Or.inl ⟨⟨by omega, by omega, by omega, by omega⟩, Or.inr (Or.inr (Or.inr (⟨by omega, (by have h9 := hw_8_0; rw [kx, ky, kw, kv] at h9; exact h9)⟩)))⟩)⟩ (by exact Nat.le_refl _) (by exact Nat.le_refl _) dX9_judge_99
  · skip
    refine lv_if_ne (tgt := 9) hx hb dX9_judge_4 (by decide) (fun h9 => absurd (by decide) h9) (fun _ => ?_)
    refine lv_iconst (v := (-1)) hx hb dX9_judge_7 (by decide) ?_
    exact gs_iret hx hb hr hlocks hM hS rfl ⟨hB_st, (Or.inr ⟨by omega, by decide⟩)⟩ (by exact Nat.le_refl _) (by exact Nat.le_refl _) dX9_judge_8
