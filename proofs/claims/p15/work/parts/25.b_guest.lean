theorem gm_1220 : (Jvm.Cond.methodLink "WellCourtModel" (274 : Nat) ({ cls := "WellCourtModel", name := "isRight", desc := "(II[III[II)Z" } : Jvm.MethodName)) ∈ gz_T := gz_at 1220 (by decide +kernel) rfl
theorem gm_1222 : (Jvm.Cond.instanceMethod ({ cls := "WellCourtModel", name := "isRight", desc := "(II[III[II)Z" } : Jvm.MethodName)) ∈ gz_T := gz_at 1222 (by decide +kernel) rfl
theorem gm_1223 : (Jvm.Cond.code ({ cls := "WellCourtModel", name := "isRight", desc := "(II[III[II)Z" } : Jvm.MethodName) prog_12_method_34_code (10 : Nat) (Option.some Jvm.ClassFile.FieldType.boolean)) ∈ gz_T := gz_at 1223 (by decide +kernel) rfl
theorem gs_52 : (Jvm.Cond.selects "WellCourtModel" ({ cls := "WellCourtModel", name := "isRight", desc := "(II[III[II)Z" } : Jvm.MethodName) ({ cls := "WellCourtModel", name := "isRight", desc := "(II[III[II)Z" } : Jvm.MethodName)) ∈ gz_T := gz_sel 52 (by decide +kernel) rfl
theorem dX10_fault_0 : decode cX10_fault 0 = .ok (.aload_n 0, 1) := by decide +kernel
theorem dX10_fault_1 : decode cX10_fault 1 = .ok (.iconst 0, 1) := by decide +kernel
theorem dX10_fault_2 : decode cX10_fault 2 = .ok (.putfield 1, 3) := by decide +kernel
theorem dX10_fault_5 : decode cX10_fault 5 = .ok (.aload_n 0, 1) := by decide +kernel
theorem dX10_fault_6 : decode cX10_fault 6 = .ok (.getfield 170, 3) := by decide +kernel
theorem dX10_fault_9 : decode cX10_fault 9 = .ok (.ireturn, 1) := by decide +kernel
theorem dX10_guestRule_0 : decode cX10_guestRule 0 = .ok (.aload_n 0, 1) := by decide +kernel
theorem dX10_guestRule_1 : decode cX10_guestRule 1 = .ok (.getfield 30, 3) := by decide +kernel
theorem dX10_guestRule_4 : decode cX10_guestRule 4 = .ok (.sipush 200, 3) := by decide +kernel
theorem dX10_guestRule_7 : decode cX10_guestRule 7 = .ok (.iload_n 1, 1) := by decide +kernel
theorem dX10_guestRule_8 : decode cX10_guestRule 8 = .ok (.imul, 1) := by decide +kernel
theorem dX10_guestRule_9 : decode cX10_guestRule 9 = .ok (.aload_n 0, 1) := by decide +kernel
theorem dX10_guestRule_10 : decode cX10_guestRule 10 = .ok (.getfield 213, 3) := by decide +kernel
theorem dX10_guestRule_13 : decode cX10_guestRule 13 = .ok (.iadd, 1) := by decide +kernel
theorem dX10_guestRule_14 : decode cX10_guestRule 14 = .ok (.iaload, 1) := by decide +kernel
theorem dX10_guestRule_15 : decode cX10_guestRule 15 = .ok (.istore_n 3, 1) := by decide +kernel
theorem dX10_guestRule_16 : decode cX10_guestRule 16 = .ok (.bipush 24, 2) := by decide +kernel
theorem dX10_guestRule_18 : decode cX10_guestRule 18 = .ok (.aload_n 0, 1) := by decide +kernel
theorem dX10_guestRule_19 : decode cX10_guestRule 19 = .ok (.getfield 201, 3) := by decide +kernel
theorem dX10_guestRule_22 : decode cX10_guestRule 22 = .ok (.imul, 1) := by decide +kernel
theorem dX10_guestRule_23 : decode cX10_guestRule 23 = .ok (.istore 4, 2) := by decide +kernel
theorem dX10_guestRule_25 : decode cX10_guestRule 25 = .ok (.iload 4, 2) := by decide +kernel
theorem dX10_guestRule_27 : decode cX10_guestRule 27 = .ok (.bipush 24, 2) := by decide +kernel
theorem dX10_guestRule_29 : decode cX10_guestRule 29 = .ok (.aload_n 0, 1) := by decide +kernel
theorem dX10_guestRule_30 : decode cX10_guestRule 30 = .ok (.getfield 201, 3) := by decide +kernel
theorem dX10_guestRule_33 : decode cX10_guestRule 33 = .ok (.imul, 1) := by decide +kernel
theorem dX10_guestRule_34 : decode cX10_guestRule 34 = .ok (.aload_n 0, 1) := by decide +kernel
theorem dX10_guestRule_35 : decode cX10_guestRule 35 = .ok (.getfield 210, 3) := by decide +kernel
theorem dX10_guestRule_38 : decode cX10_guestRule 38 = .ok (.iadd, 1) := by decide +kernel
theorem dX10_guestRule_39 : decode cX10_guestRule 39 = .ok (.if_icmp .ge 56, 3) := by decide +kernel
theorem dX10_guestRule_42 : decode cX10_guestRule 42 = .ok (.aload_n 0, 1) := by decide +kernel
theorem dX10_guestRule_43 : decode cX10_guestRule 43 = .ok (.getfield 37, 3) := by decide +kernel
theorem dX10_guestRule_46 : decode cX10_guestRule 46 = .ok (.iload 4, 2) := by decide +kernel
theorem dX10_guestRule_48 : decode cX10_guestRule 48 = .ok (.iaload, 1) := by decide +kernel
theorem dX10_guestRule_49 : decode cX10_guestRule 49 = .ok (.iconst 1, 1) := by decide +kernel
theorem dX10_guestRule_50 : decode cX10_guestRule 50 = .ok (.if_icmp .ne 39, 3) := by decide +kernel
theorem dX10_guestRule_53 : decode cX10_guestRule 53 = .ok (.aload_n 0, 1) := by decide +kernel
theorem dX10_guestRule_54 : decode cX10_guestRule 54 = .ok (.getfield 40, 3) := by decide +kernel
theorem dX10_guestRule_57 : decode cX10_guestRule 57 = .ok (.iload 4, 2) := by decide +kernel
theorem dX10_guestRule_59 : decode cX10_guestRule 59 = .ok (.iaload, 1) := by decide +kernel
theorem dX10_guestRule_60 : decode cX10_guestRule 60 = .ok (.iload_n 2, 1) := by decide +kernel
theorem dX10_guestRule_61 : decode cX10_guestRule 61 = .ok (.if_icmp .ne 28, 3) := by decide +kernel
theorem dX10_guestRule_64 : decode cX10_guestRule 64 = .ok (.aload_n 0, 1) := by decide +kernel
theorem dX10_guestRule_65 : decode cX10_guestRule 65 = .ok (.getfield 43, 3) := by decide +kernel
theorem dX10_guestRule_68 : decode cX10_guestRule 68 = .ok (.iload 4, 2) := by decide +kernel
theorem dX10_guestRule_70 : decode cX10_guestRule 70 = .ok (.iaload, 1) := by decide +kernel
theorem dX10_guestRule_71 : decode cX10_guestRule 71 = .ok (.iload_n 1, 1) := by decide +kernel
theorem dX10_guestRule_72 : decode cX10_guestRule 72 = .ok (.if_icmp .ne 17, 3) := by decide +kernel
theorem dX10_guestRule_75 : decode cX10_guestRule 75 = .ok (.aload_n 0, 1) := by decide +kernel
theorem dX10_guestRule_76 : decode cX10_guestRule 76 = .ok (.getfield 46, 3) := by decide +kernel
theorem dX10_guestRule_79 : decode cX10_guestRule 79 = .ok (.iload 4, 2) := by decide +kernel
theorem dX10_guestRule_81 : decode cX10_guestRule 81 = .ok (.iaload, 1) := by decide +kernel
theorem dX10_guestRule_82 : decode cX10_guestRule 82 = .ok (.iload_n 3, 1) := by decide +kernel
theorem dX10_guestRule_83 : decode cX10_guestRule 83 = .ok (.if_icmp .ne 6, 3) := by decide +kernel
theorem dX10_guestRule_86 : decode cX10_guestRule 86 = .ok (.iload 4, 2) := by decide +kernel
theorem dX10_guestRule_88 : decode cX10_guestRule 88 = .ok (.ireturn, 1) := by decide +kernel
theorem dX10_guestRule_89 : decode cX10_guestRule 89 = .ok (.iinc 4 1, 3) := by decide +kernel
theorem dX10_guestRule_92 : decode cX10_guestRule 92 = .ok (.goto (-67), 3) := by decide +kernel
theorem dX10_guestRule_95 : decode cX10_guestRule 95 = .ok (.iconst (-1), 1) := by decide +kernel
theorem dX10_guestRule_96 : decode cX10_guestRule 96 = .ok (.ireturn, 1) := by decide +kernel
theorem dX10_isClan_0 : decode cX10_isClan 0 = .ok (.iload_n 0, 1) := by decide +kernel
theorem dX10_isClan_1 : decode cX10_isClan 1 = .ok (.ifCond .lt 13, 3) := by decide +kernel
theorem dX10_isClan_4 : decode cX10_isClan 4 = .ok (.iload_n 0, 1) := by decide +kernel
theorem dX10_isClan_5 : decode cX10_isClan 5 = .ok (.bipush 6, 2) := by decide +kernel
theorem dX10_isClan_7 : decode cX10_isClan 7 = .ok (.if_icmp .ge 7, 3) := by decide +kernel
theorem dX10_isClan_10 : decode cX10_isClan 10 = .ok (.iconst 1, 1) := by decide +kernel
theorem dX10_isClan_11 : decode cX10_isClan 11 = .ok (.goto 4, 3) := by decide +kernel
theorem dX10_isClan_14 : decode cX10_isClan 14 = .ok (.iconst 0, 1) := by decide +kernel
theorem dX10_isClan_15 : decode cX10_isClan 15 = .ok (.ireturn, 1) := by decide +kernel
theorem dX10_isRightNow_0 : decode cX10_isRightNow 0 = .ok (.aload_n 0, 1) := by decide +kernel
theorem dX10_isRightNow_1 : decode cX10_isRightNow 1 = .ok (.iload_n 1, 1) := by decide +kernel
theorem dX10_isRightNow_2 : decode cX10_isRightNow 2 = .ok (.iload_n 2, 1) := by decide +kernel
theorem dX10_isRightNow_3 : decode cX10_isRightNow 3 = .ok (.aload_n 0, 1) := by decide +kernel
theorem dX10_isRightNow_4 : decode cX10_isRightNow 4 = .ok (.getfield 30, 3) := by decide +kernel
theorem dX10_isRightNow_7 : decode cX10_isRightNow 7 = .ok (.aload_n 0, 1) := by decide +kernel
theorem dX10_isRightNow_8 : decode cX10_isRightNow 8 = .ok (.getfield 213, 3) := by decide +kernel
theorem dX10_isRightNow_11 : decode cX10_isRightNow 11 = .ok (.sipush 200, 3) := by decide +kernel
theorem dX10_isRightNow_14 : decode cX10_isRightNow 14 = .ok (.aload_n 0, 1) := by decide +kernel
theorem dX10_isRightNow_15 : decode cX10_isRightNow 15 = .ok (.getfield 27, 3) := by decide +kernel
theorem dX10_isRightNow_18 : decode cX10_isRightNow 18 = .ok (.iconst 0, 1) := by decide +kernel
theorem dX10_isRightNow_19 : decode cX10_isRightNow 19 = .ok (.invokevirtual 274, 3) := by decide +kernel
theorem dX10_isRightNow_22 : decode cX10_isRightNow 22 = .ok (.ireturn, 1) := by decide +kernel
set_option maxHeartbeats 4000000 in
set_option maxRecDepth 100000 in
/-- WellCourtModel.isClan -/
theorem m_isClan (l : Launch) (G : va_G) (cy : Nat → ClassId) (sK sV : Nat → Nat) (ad : Nat → Nat → Nat) (sz : Nat) (st : gS) (hB : gBd bM st) (x : Int32) (Xx : Int) (kx : x.toInt = Xx) : gsMi l yX10_isClan cX10_isClan 1 (some .boolean) ({ frames := 0, cells := 0, slots := 0, locals := 0 } : Room) G cy sK sV (shM cy ad) cnM ad sz [.int x] st (fun (r : Int32) (u : gS) => gBN bM kM [] st u ∧ ((r = 1 ∧ (0 ≤ Xx) ∧ (Xx ≤ 5)) ∨ (r = 0 ∧ (Xx < 0 ∨ 5 < Xx)))) := by
  refine gs_start (fun A => gsQi G (shM cy ad) cnM ad _ A) (by decide) (Nat.le_of_ble_eq_true rfl) ?_
  intro p e s m below meth c A ls H hx hb hr hml hlocks hown hts hK hov hE hI hM hm hS hA hl
  have hl : lv_has ls 1 [(0, .int x)] := hl
  have hB_st : gBN bM kM [] st st := gBN.rf hB
  refine lv_iload_n hx hb dX10_isClan_0 rfl (lv_at hl 0 rfl) ?_
  refine lv_if_lt (tgt := 14) hx hb dX10_isClan_1 (by decide) (fun c_1 => ?_) (fun c_1 => ?_)
  · have ic_1 := gz_lt (rfl : x.toInt = x.toInt) (by decide : (0 : Int32).toInt = 0) c_1
    refine lv_iconst (v := 0) hx hb dX10_isClan_14 (by decide) ?_
    exact gs_iret hx hb hr hlocks hM hS (by decide) ⟨hB_st, (Or.inr (⟨rfl, (by have hl0 : (0 : Int32).toInt = 0 := (by decide); omega)⟩))⟩ (by exact Nat.le_refl _) (by exact Nat.le_refl _) dX10_isClan_15
  · have ic_1 := gz_nlt (rfl : x.toInt = x.toInt) (by decide : (0 : Int32).toInt = 0) c_1
    refine lv_iload_n hx hb dX10_isClan_4 rfl (lv_at hl 0 rfl) ?_
    refine lv_bipush (v := 6) hx hb dX10_isClan_5 (by decide) ?_
    refine lv_icmp_ge (tgt := 14) hx hb dX10_isClan_7 (by decide) (fun c_2 => ?_) (fun c_2 => ?_)
    · have ic_2 := gz_le (by decide : (6 : Int32).toInt = 6) (rfl : x.toInt = x.toInt) c_2
      refine lv_iconst (v := 0) hx hb dX10_isClan_14 (by decide) ?_
      exact gs_iret hx hb hr hlocks hM hS (by decide) ⟨hB_st, (Or.inr (⟨rfl, (by have hl0 : (0 : Int32).toInt = 0 := (by decide); omega)⟩))⟩ (by exact Nat.le_refl _) (by exact Nat.le_refl _) dX10_isClan_15
    · have ic_2 := gz_nle (by decide : (6 : Int32).toInt = 6) (rfl : x.toInt = x.toInt) c_2
      refine lv_iconst (v := 1) hx hb dX10_isClan_10 (by decide) ?_
      refine lv_goto (tgt := 15) hx hb dX10_isClan_11 (by decide) ?_
      exact gs_iret hx hb hr hlocks hM hS (by decide) ⟨hB_st, (Or.inl (⟨rfl, (by have hl0 : (1 : Int32).toInt = 1 := (by decide); omega), (by have hl0 : (1 : Int32).toInt = 1 := (by decide); omega)⟩))⟩ (by exact Nat.le_refl _) (by exact Nat.le_refl _) dX10_isClan_15

set_option maxHeartbeats 4000000 in
set_option maxRecDepth 100000 in
/-- WellCourtModel.fault -/
theorem m_fault (l : Launch) (G : va_G) (cy : Nat → ClassId) (sK sV : Nat → Nat) (ad : Nat → Nat → Nat) (sz : Nat) (st : gS) (hB : gBd bM st) : gsMi l yX10_fault cX10_fault 1 (some .int) ({ frames := 0, cells := 0, slots := 0, locals := 0 } : Room) G cy sK sV (shM cy ad) cnM ad sz [.ref (ad 0 0)] st (fun (r : Int32) (u : gS) => gBN bM kM [0] st u ∧ (True)) := by
  refine gs_start (fun A => gsQi G (shM cy ad) cnM ad _ A) (by decide) (Nat.le_of_ble_eq_true rfl) ?_
  intro p e s m below meth c A ls H hx hb hr hml hlocks hown hts hK hov hE hI hM hm hS hA hl
  have hl : lv_has ls 1 [(0, .ref (ad 0 0))] := hl
  have hB_st : gBN bM kM [0] st st := gBN.rf hB
  refine lv_aload_n hx hb dX10_fault_0 rfl (lv_at hl 0 rfl) ?_
  refine lv_iconst (v := 0) hx hb dX10_fault_1 (by decide) ?_
  refine gs_put (C := RX10) (T := TX10) (N := 59) (ty := .int) (val := .int 0) hx hb hts inX10 tyX10 tyX10_ok nmX10 hown hK hI hm hM hS 0 0 0 (by decide) rfl rfl (by decide) (hts _ gm_901) (fun _ h9 => h9) rfl (0 : Int32) rfl (by decide +kernel) rfl rfl (Nat.le_of_ble_eq_true rfl) dX10_fault_2 (fun st_1 H locs est_1 hM hS => ?_)
  have hB_st_1 : gBN bM kM [0] st st_1 := by rw [est_1]; exact hB_st.up (show (0 : Nat) ∈ _ from by decide) (gi_lo _) (gi_hi _)
  refine lv_aload_n hx hb dX10_fault_5 rfl (lv_at hl 0 rfl) ?_
  refine gs_get (C := RX10) (T := TX10) (N := 59) hx hb hts inX10 hown hK hM 0 0 15 (by decide) rfl rfl (by decide) (hts _ gm_916) (fun _ h9 => h9) rfl dX10_fault_6 ?_
  refine lv_topi (fun x_2 ex_2 => ?_)
  have ex_2 : (st 0 0 15) = x_2 := Eq.symm (ex_2.trans ((congrFun (congrFun (congrFun est_1 0) 0) 15).trans (gU_other (by decide))))
  subst ex_2
  exact gs_iret hx hb hr hlocks hM hS rfl ⟨hB_st_1, trivial⟩ (by exact Nat.le_refl _) (by exact Nat.le_refl _) dX10_fault_9

set_option maxHeartbeats 4000000 in
set_option maxRecDepth 100000 in
/-- WellCourtModel.isRightNow -/
theorem m_isRightNow (l : Launch) (G : va_G) (cy : Nat → ClassId) (sK sV : Nat → Nat) (ad : Nat → Nat → Nat) (sz : Nat) (st : gS) (hB : gBd bM st) (x : Int32) (y : Int32) (Xx : Int) (Xy : Int) (kx : x.toInt = Xx) (ky : y.toInt = Xy) (hx0 : 0 ≤ Xx) (hx1 : Xx < 6) (rs : List Rl) (bk : Nat) (hbk : (st 0 0 28).toInt = (bk : Int)) (hru : (st 0 0 29).toInt = (rs.length : Int)) (hLM : LM rs st bk) (hwf : ∀ r ∈ rs, wfR r) : gsMi l yX10_isRightNow cX10_isRightNow 3 (some .boolean) ({ frames := 1, cells := 0, slots := 0, locals := 29 } : Room) G cy sK sV (shM cy ad) cnM ad sz [.ref (ad 0 0), .int x, .int y] st (fun (r : Int32) (u : gS) => gBN bM kM [] st u ∧ ((r = 1 ∧ (rtM rs (fun a9 => (st 6 0 (200 * a9 + (st 0 0 7).toNatClampNeg)).toInt) (fun a9 => (st 1 0 a9).toInt) (fun a9 => (st 5 0 a9).toInt) x.toNatClampNeg Xy)) ∨ (r = 0 ∧ (¬ rtM rs (fun a9 => (st 6 0 (200 * a9 + (st 0 0 7).toNatClampNeg)).toInt) (fun a9 => (st 1 0 a9).toInt) (fun a9 => (st 5 0 a9).toInt) x.toNatClampNeg Xy)))) := by
  refine gs_start (fun A => gsQi G (shM cy ad) cnM ad _ A) (by decide) (Nat.le_of_ble_eq_true rfl) ?_
  intro p e s m below meth c A ls H hx hb hr hml hlocks hown hts hK hov hE hI hM hm hS hA hl
  have hl : lv_has ls 3 [(0, .ref (ad 0 0)), (1, .int x), (2, .int y)] := hl
  have hB_st : gBN bM kM [] st st := gBN.rf hB
  refine lv_aload_n hx hb dX10_isRightNow_0 rfl (lv_at hl 0 rfl) ?_
  refine lv_iload_n hx hb dX10_isRightNow_1 rfl (lv_at hl 1 rfl) ?_
  refine lv_iload_n hx hb dX10_isRightNow_2 rfl (lv_at hl 2 rfl) ?_
  refine lv_aload_n hx hb dX10_isRightNow_3 rfl (lv_at hl 0 rfl) ?_
  refine gs_get (C := RX10) (T := TX10) (N := 59) hx hb hts inX10 hown hK hM 0 0 6 (by decide) rfl rfl (by decide) (hts _ gm_907) (fun _ h9 => h9) rfl dX10_isRightNow_4 ?_
  refine lv_aload_n hx hb dX10_isRightNow_7 rfl (lv_at hl 0 rfl) ?_
  refine gs_get (C := RX10) (T := TX10) (N := 59) hx hb hts inX10 hown hK hM 0 0 7 (by decide) rfl rfl (by decide) (hts _ gm_908) (fun _ h9 => h9) rfl dX10_isRightNow_8 ?_
  have bf_1 : (0 : Int) ≤ (st 0 0 7).toInt ∧ (st 0 0 7).toInt ≤ (199 : Int) := hB_st.1 0 0 7
  refine lv_sipush (v := 200) hx hb dX10_isRightNow_11 (by decide) ?_
  refine lv_aload_n hx hb dX10_isRightNow_14 rfl (lv_at hl 0 rfl) ?_
  refine gs_get (C := RX10) (T := TX10) (N := 59) hx hb hts inX10 hown hK hM 0 0 5 (by decide) rfl rfl (by decide) (hts _ gm_906) (fun _ h9 => h9) rfl dX10_isRightNow_15 ?_
  refine lv_iconst (v := 0) hx hb dX10_isRightNow_18 (by decide) ?_
  refine gs_calli (va_runV (As := [.int x, .int y, .ref (ad 6 0), .int (st 0 0 7), .int 200, .ref (ad 5 0), .int 0]) (rest := []) ⟨hx, hb, hml, hown, hts⟩ (m_isRightA l G cy sK sV ad H.size st hB_st.1 x y (st 0 0 7) x.toInt y.toInt ((st 0 0 7).toInt) rfl rfl rfl (by first | decide | omega) (by first | decide | omega) (by first | decide | omega) (by first | decide | omega) rs bk hbk hru (LM.all hLM mA.rf) hwf) ⟨(gz_cb (n := 7) hts gm_1220 gm_12 gm_1223 ⟨by decide +kernel, by decide +kernel, by decide +kernel⟩ ⟨Nat.le_of_ble_eq_true rfl, Nat.le_of_ble_eq_true rfl⟩), hts _ gm_1222, hts _ gs_52⟩ (gs_preV hK hov hE hI hM hm hS hA 0 0 (by decide) rfl rfl) rfl rfl hl.1 rfl (lv_room (Nat.le_of_ble_eq_true rfl)) dX10_isRightNow_19 ⟨Nat.le_of_ble_eq_true rfl, Nat.le_of_ble_eq_true rfl⟩) hm hS hA (fun r_2 st_2 H locs hw_2 hM hS => ?_)
  obtain ⟨n_2, hw_2⟩ := hw_2
  have n_2 := gBN.nil n_2
  subst n_2
  have hbhw_20 : (0 : Int) ≤ (st 0 0 7).toInt ∧ (st 0 0 7).toInt ≤ (199 : Int) := hB_st.1 0 0 7
  rcases hw_2 with ⟨rfl, hw_2_0⟩ | ⟨rfl, hw_2_0⟩
  · skip
    exact gs_iret hx hb hr hlocks hM hS (by decide) ⟨hB_st, (Or.inl ⟨rfl, (by rw [← ky]; exact hw_2_0)⟩)⟩ (by exact Nat.le_refl _) (by exact Nat.le_refl _) dX10_isRightNow_22
  · skip
    exact gs_iret hx hb hr hlocks hM hS (by decide) ⟨hB_st, (Or.inr ⟨rfl, (by rw [← ky]; exact hw_2_0)⟩)⟩ (by exact Nat.le_refl _) (by exact Nat.le_refl _) dX10_isRightNow_22

set_option maxHeartbeats 4000000 in
set_option maxRecDepth 100000 in
/-- WellCourtModel.guestRule -/
theorem m_guestRule (l : Launch) (G : va_G) (cy : Nat → ClassId) (sK sV : Nat → Nat) (ad : Nat → Nat → Nat) (sz : Nat) (st : gS) (hB : gBd bM st) (x : Int32) (y : Int32) (Xx : Int) (Xy : Int) (kx : x.toInt = Xx) (ky : y.toInt = Xy) (hx0 : 0 ≤ Xx) (hx1 : Xx < 6) (rs : List Rl) (bk : Nat) (hbk : (st 0 0 28).toInt = (bk : Int)) (hru : (st 0 0 29).toInt = (rs.length : Int)) (hLM : LM rs st bk) (hwf : ∀ r ∈ rs, wfR r) : gsMi l yX10_guestRule cX10_guestRule 5 (some .int) ({ frames := 0, cells := 0, slots := 0, locals := 0 } : Room) G cy sK sV (shM cy ad) cnM ad sz [.ref (ad 0 0), .int x, .int y] st (fun (r : Int32) (u : gS) => gBN bM kM [] st u ∧ (((r.toInt = -1 ∧ gstT rs Xy Xx (st 6 0 (200 * x.toNatClampNeg + (st 0 0 7).toNatClampNeg)).toInt = -1) ∨ (0 ≤ r.toInt ∧ r.toInt < 48 ∧ (st 12 0 r.toNatClampNeg).toInt = gstT rs Xy Xx (st 6 0 (200 * x.toNatClampNeg + (st 0 0 7).toNatClampNeg)).toInt ∧ 0 ≤ gstT rs Xy Xx (st 6 0 (200 * x.toNatClampNeg + (st 0 0 7).toNatClampNeg)).toInt)))) := by
  refine gs_start (fun A => gsQi G (shM cy ad) cnM ad _ A) (by decide) (Nat.le_of_ble_eq_true rfl) ?_
  intro p e s m below meth c A ls H hx hb hr hml hlocks hown hts hK hov hE hI hM hm hS hA hl
  have hl : lv_has ls 5 [(0, .ref (ad 0 0)), (1, .int x), (2, .int y)] := hl
  have hB_st : gBN bM kM [] st st := gBN.rf hB
  have bb1 : (0 : Int) ≤ (st 0 0 28).toInt ∧ (st 0 0 28).toInt ≤ (1 : Int) := hB 0 0 28
  have bb3 : (0 : Int) ≤ (st 0 0 30).toInt ∧ (st 0 0 30).toInt ≤ (20 : Int) := hB 0 0 30
  have bb2 : (0 : Int) ≤ (st 0 0 29).toInt ∧ (st 0 0 29).toInt ≤ (20 : Int) := hB 0 0 29
  have cx9 := gs_cl (x := x) (by omega)
  generalize hQe : MQ below _ _ s _ _ A = Q
  refine lv_aload_n hx hb dX10_guestRule_0 rfl (lv_at hl 0 rfl) ?_
  refine gs_get (C := RX10) (T := TX10) (N := 59) hx hb hts inX10 hown hK hM 0 0 6 (by decide) rfl rfl (by decide) (hts _ gm_907) (fun _ h9 => h9) rfl dX10_guestRule_1 ?_
  refine lv_sipush (v := 200) hx hb dX10_guestRule_4 (by decide) ?_
  refine lv_iload_n hx hb dX10_guestRule_7 rfl (lv_at hl 1 rfl) ?_
  refine lv_imul hx hb dX10_guestRule_8 ?_
  refine lv_topi (fun x_1 ex_1 => ?_)
  try have tx_1 : x_1.toInt = 200 * x.toInt := by rw [ex_1]; exact gz_mulI (x := 200) (y := x.toInt) (by decide) rfl (by omega) (by omega)
  refine lv_aload_n hx hb dX10_guestRule_9 rfl (lv_at hl 0 rfl) ?_
  refine gs_get (C := RX10) (T := TX10) (N := 59) hx hb hts inX10 hown hK hM 0 0 7 (by decide) rfl rfl (by decide) (hts _ gm_908) (fun _ h9 => h9) rfl dX10_guestRule_10 ?_
  have bf_2 : (0 : Int) ≤ (st 0 0 7).toInt ∧ (st 0 0 7).toInt ≤ (199 : Int) := hB_st.1 0 0 7
  refine lv_iadd hx hb dX10_guestRule_13 ?_
  refine lv_topi (fun x_3 ex_3 => ?_)
  try have tx_3 : x_3.toInt = x_1.toInt + (st 0 0 7).toInt := by rw [ex_3]; exact gz_addI (x := x_1.toInt) (y := (st 0 0 7).toInt) rfl rfl (by omega) (by omega)
  refine gs_iald hx hb hK hM 6 0 (by decide) rfl (vp_in_iff.mpr ⟨by omega, by omega⟩) dX10_guestRule_14 ?_
  refine lv_topi (fun x_4 ex_4 => ?_)
  have qx_4 : x_4.toInt = (st 6 0 (x_3.toNatClampNeg)).toInt := congrArg Int32.toInt ex_4
  have hO9 : x_4.toInt = (st 6 0 (200 * x.toNatClampNeg + (st 0 0 7).toNatClampNeg)).toInt := (by have c_x_3 := gs_cl (x := x_3) (by omega); have c_x := gs_cl (x := x) (by omega); have c_d := gs_cl (x := st 0 0 7) (by have h9 : (0 : Int) ≤ (st 0 0 7).toInt ∧ (st 0 0 7).toInt ≤ (199 : Int) := hB 0 0 7; omega); rw [qx_4, show x_3.toNatClampNeg = 200 * x.toNatClampNeg + (st 0 0 7).toNatClampNeg by omega])
  refine lv_istore_n (lv' := [(3, .int x_4), (0, .ref (ad 0 0)), (1, .int x), (2, .int y)]) hx hb dX10_guestRule_15 rfl hl (by decide) rfl (fun ls hl => ?_)
  refine lv_bipush (v := 24) hx hb dX10_guestRule_16 (by decide) ?_
  refine lv_aload_n hx hb dX10_guestRule_18 rfl (lv_at hl 1 rfl) ?_
  refine gs_get (C := RX10) (T := TX10) (N := 59) hx hb hts inX10 hown hK hM 0 0 28 (by decide) rfl rfl (by decide) (hts _ gm_929) (fun _ h9 => h9) rfl dX10_guestRule_19 ?_
  have bf_5 : (0 : Int) ≤ (st 0 0 28).toInt ∧ (st 0 0 28).toInt ≤ (1 : Int) := hB_st.1 0 0 28
  refine lv_imul hx hb dX10_guestRule_22 ?_
  refine lv_topi (fun x_6 ex_6 => ?_)
  try have tx_6 : x_6.toInt = 24 * (st 0 0 28).toInt := by rw [ex_6]; exact gz_mulI (x := 24) (y := (st 0 0 28).toInt) (by decide) rfl (by omega) (by omega)
  refine lv_istore (lv' := [(4, .int x_6), (3, .int x_4), (0, .ref (ad 0 0)), (1, .int x), (2, .int y)]) hx hb dX10_guestRule_23 hl (by decide) rfl (fun ls hl => ?_)
  have lp7 : ∀ (n7 : Nat)  (y7_0 : Int32) (H : Heap) (locs : List Loc) (ls : Array Slot), (48 - y7_0.toInt).toNat < n7 →  (24 * (bk : Int) ≤ y7_0.toInt) → (noG st Xy Xx (st 6 0 (200 * x.toNatClampNeg + (st 0 0 7).toNatClampNeg)).toInt (24 * bk) y7_0.toInt) → gM G (shM cy ad) cnM ad st H → va_S A s.heap H locs → lv_has ls 5 [(4, .int y7_0), (3, .int x_4), (0, .ref (ad 0 0)), (1, .int x), (2, .int y)] → W p l e ({ frames := 0, cells := 0, slots := 0, locals := 0 } : Room) s m [.ref (ad 0 0), .int x, .int y].toArray below meth c H locs 0 0 Q (F0 m 25 ls []) := by
    intro n7
    induction n7 with
    | zero => intro  y7_0 H locs ls h9; exact absurd h9 (Nat.not_lt_zero _)
    | succ n7 ih_7 =>
      intro  y7_0 H locs ls hme7  hv7_0 hv7_1 hM hS hl
      have hb7_0 : (0 : Int) ≤ (st 0 0 7).toInt ∧ (st 0 0 7).toInt ≤ (199 : Int) := hB_st.1 0 0 7
      refine lv_iload hx hb dX10_guestRule_25 (lv_at hl 0 rfl) ?_
      refine lv_bipush (v := 24) hx hb dX10_guestRule_27 (by decide) ?_
      refine lv_aload_n hx hb dX10_guestRule_29 rfl (lv_at hl 2 rfl) ?_
      refine gs_get (C := RX10) (T := TX10) (N := 59) hx hb hts inX10 hown hK hM 0 0 28 (by decide) rfl rfl (by decide) (hts _ gm_929) (fun _ h9 => h9) rfl dX10_guestRule_30 ?_
      have bf_8 : (0 : Int) ≤ (st 0 0 28).toInt ∧ (st 0 0 28).toInt ≤ (1 : Int) := hB_st.1 0 0 28
      refine lv_imul hx hb dX10_guestRule_33 ?_
      refine lv_topi (fun x_9 ex_9 => ?_)
      try have tx_9 : x_9.toInt = 24 * (st 0 0 28).toInt := by rw [ex_9]; exact gz_mulI (x := 24) (y := (st 0 0 28).toInt) (by decide) rfl (by omega) (by omega)
      refine lv_aload_n hx hb dX10_guestRule_34 rfl (lv_at hl 2 rfl) ?_
      refine gs_get (C := RX10) (T := TX10) (N := 59) hx hb hts inX10 hown hK hM 0 0 29 (by decide) rfl rfl (by decide) (hts _ gm_930) (fun _ h9 => h9) rfl dX10_guestRule_35 ?_
      have bf_10 : (0 : Int) ≤ (st 0 0 29).toInt ∧ (st 0 0 29).toInt ≤ (20 : Int) := hB_st.1 0 0 29
      refine lv_iadd hx hb dX10_guestRule_38 ?_
      refine lv_topi (fun x_11 ex_11 => ?_)
      try have tx_11 : x_11.toInt = x_9.toInt + (st 0 0 29).toInt := by rw [ex_11]; exact gz_addI (x := x_9.toInt) (y := (st 0 0 29).toInt) rfl rfl (by omega) (by omega)
      refine lv_icmp_ge (tgt := 95) hx hb dX10_guestRule_39 (by decide) (fun c_12 => ?_) (fun c_12 => ?_)
      · have ic_12 := gz_le (rfl : x_11.toInt = x_11.toInt) (rfl : y7_0.toInt = y7_0.toInt) c_12
        refine lv_iconst (v := (-1)) hx hb dX10_guestRule_95 (by decide) ?_
        rw [← hQe]
        exact gs_iret hx hb hr hlocks hM hS rfl ⟨hB_st, (Or.inl ⟨by decide, LM.gst0 hLM hv7_1 (by omega)⟩)⟩ (by exact Nat.le_refl _) (by exact Nat.le_refl _) dX10_guestRule_96
      · have ic_12 := gz_nle (rfl : x_11.toInt = x_11.toInt) (rfl : y7_0.toInt = y7_0.toInt) c_12
        have lc_12 := gi_hi x_11
        refine lv_aload_n hx hb dX10_guestRule_42 rfl (lv_at hl 2 rfl) ?_
        refine gs_get (C := RX10) (T := TX10) (N := 59) hx hb hts inX10 hown hK hM 0 0 20 (by decide) rfl rfl (by decide) (hts _ gm_921) (fun _ h9 => h9) rfl dX10_guestRule_43 ?_
        refine lv_iload hx hb dX10_guestRule_46 (lv_at hl 0 rfl) ?_
        refine gs_iald hx hb hK hM 8 0 (by decide) rfl (vp_in_iff.mpr ⟨by omega, by omega⟩) dX10_guestRule_48 ?_
        refine lv_topi (fun x_13 ex_13 => ?_)
        have qx_13 : x_13.toInt = (st 8 0 (y7_0.toNatClampNeg)).toInt := congrArg Int32.toInt ex_13
        refine lv_iconst (v := 1) hx hb dX10_guestRule_49 (by decide) ?_
        refine lv_icmp_ne (tgt := 89) hx hb dX10_guestRule_50 (by decide) (fun c_14 => ?_) (fun c_14 => ?_)
        · have ic_14 := gz_ne (rfl : x_13.toInt = x_13.toInt) (by decide : (1 : Int32).toInt = 1) c_14
          obtain ⟨x_15, ex_15⟩ : ∃ y : Int32, y = y7_0 + 1 := ⟨_, rfl⟩
          try have tx_15 : x_15.toInt = y7_0.toInt + 1 := by rw [ex_15]; exact gz_addP (x := y7_0.toInt) (y := 1) rfl (by decide) (by omega) (by omega)
          refine lv_iinc (v := (x_15)) (lv' := [(4, .int x_15), (3, .int x_4), (0, .ref (ad 0 0)), (1, .int x), (2, .int y)]) hx hb dX10_guestRule_89 hl (k := 0) rfl (by rw [ex_15]; rfl) (by decide) rfl (fun ls hl => ?_)
          refine lv_goto (tgt := 25) hx hb dX10_guestRule_92 (by decide) ?_
          exact ih_7  (x_15 : Int32) H _ ls (by omega)  (by omega) (noG.step hv7_1 (by omega) (by omega) (by omega)) hM hS (lv_sub hl [0, 1, 2, 3, 4] rfl)
        · have ic_14 := gz_eqn (rfl : x_13.toInt = x_13.toInt) (by decide : (1 : Int32).toInt = 1) c_14
          refine lv_aload_n hx hb dX10_guestRule_53 rfl (lv_at hl 2 rfl) ?_
          refine gs_get (C := RX10) (T := TX10) (N := 59) hx hb hts inX10 hown hK hM 0 0 21 (by decide) rfl rfl (by decide) (hts _ gm_922) (fun _ h9 => h9) rfl dX10_guestRule_54 ?_
          refine lv_iload hx hb dX10_guestRule_57 (lv_at hl 0 rfl) ?_
          refine gs_iald hx hb hK hM 9 0 (by decide) rfl (vp_in_iff.mpr ⟨by omega, by omega⟩) dX10_guestRule_59 ?_
          refine lv_topi (fun x_16 ex_16 => ?_)
          have qx_16 : x_16.toInt = (st 9 0 (y7_0.toNatClampNeg)).toInt := congrArg Int32.toInt ex_16
          have bx_16 : (0 : Int) ≤ x_16.toInt ∧ x_16.toInt ≤ (5 : Int) := by rw [qx_16]; exact hB_st.1 9 0 (y7_0.toNatClampNeg)
          refine lv_iload_n hx hb dX10_guestRule_60 rfl (lv_at hl 4 rfl) ?_
          refine lv_icmp_ne (tgt := 89) hx hb dX10_guestRule_61 (by decide) (fun c_17 => ?_) (fun c_17 => ?_)
          · have ic_17 := gz_ne (rfl : x_16.toInt = x_16.toInt) (rfl : y.toInt = y.toInt) c_17
            obtain ⟨x_18, ex_18⟩ : ∃ y : Int32, y = y7_0 + 1 := ⟨_, rfl⟩
            try have tx_18 : x_18.toInt = y7_0.toInt + 1 := by rw [ex_18]; exact gz_addP (x := y7_0.toInt) (y := 1) rfl (by decide) (by omega) (by omega)
            refine lv_iinc (v := (x_18)) (lv' := [(4, .int x_18), (3, .int x_4), (0, .ref (ad 0 0)), (1, .int x), (2, .int y)]) hx hb dX10_guestRule_89 hl (k := 0) rfl (by rw [ex_18]; rfl) (by decide) rfl (fun ls hl => ?_)
            refine lv_goto (tgt := 25) hx hb dX10_guestRule_92 (by decide) ?_
            exact ih_7  (x_18 : Int32) H _ ls (by omega)  (by omega) (noG.step hv7_1 (by omega) (by omega) (by omega)) hM hS (lv_sub hl [0, 1, 2, 3, 4] rfl)
          · have ic_17 := gz_eqn (rfl : x_16.toInt = x_16.toInt) (rfl : y.toInt = y.toInt) c_17
            refine lv_aload_n hx hb dX10_guestRule_64 rfl (lv_at hl 2 rfl) ?_
            refine gs_get (C := RX10) (T := TX10) (N := 59) hx hb hts inX10 hown hK hM 0 0 22 (by decide) rfl rfl (by decide) (hts _ gm_923) (fun _ h9 => h9) rfl dX10_guestRule_65 ?_
            refine lv_iload hx hb dX10_guestRule_68 (lv_at hl 0 rfl) ?_
            refine gs_iald hx hb hK hM 10 0 (by decide) rfl (vp_in_iff.mpr ⟨by omega, by omega⟩) dX10_guestRule_70 ?_
            refine lv_topi (fun x_19 ex_19 => ?_)
            have qx_19 : x_19.toInt = (st 10 0 (y7_0.toNatClampNeg)).toInt := congrArg Int32.toInt ex_19
            refine lv_iload_n hx hb dX10_guestRule_71 rfl (lv_at hl 3 rfl) ?_
            refine lv_icmp_ne (tgt := 89) hx hb dX10_guestRule_72 (by decide) (fun c_20 => ?_) (fun c_20 => ?_)
            · have ic_20 := gz_ne (rfl : x_19.toInt = x_19.toInt) (rfl : x.toInt = x.toInt) c_20
              obtain ⟨x_21, ex_21⟩ : ∃ y : Int32, y = y7_0 + 1 := ⟨_, rfl⟩
              try have tx_21 : x_21.toInt = y7_0.toInt + 1 := by rw [ex_21]; exact gz_addP (x := y7_0.toInt) (y := 1) rfl (by decide) (by omega) (by omega)
              refine lv_iinc (v := (x_21)) (lv' := [(4, .int x_21), (3, .int x_4), (0, .ref (ad 0 0)), (1, .int x), (2, .int y)]) hx hb dX10_guestRule_89 hl (k := 0) rfl (by rw [ex_21]; rfl) (by decide) rfl (fun ls hl => ?_)
              refine lv_goto (tgt := 25) hx hb dX10_guestRule_92 (by decide) ?_
              exact ih_7  (x_21 : Int32) H _ ls (by omega)  (by omega) (noG.step hv7_1 (by omega) (by omega) (by omega)) hM hS (lv_sub hl [0, 1, 2, 3, 4] rfl)
            · have ic_20 := gz_eqn (rfl : x_19.toInt = x_19.toInt) (rfl : x.toInt = x.toInt) c_20
              refine lv_aload_n hx hb dX10_guestRule_75 rfl (lv_at hl 2 rfl) ?_
              refine gs_get (C := RX10) (T := TX10) (N := 59) hx hb hts inX10 hown hK hM 0 0 23 (by decide) rfl rfl (by decide) (hts _ gm_924) (fun _ h9 => h9) rfl dX10_guestRule_76 ?_
              refine lv_iload hx hb dX10_guestRule_79 (lv_at hl 0 rfl) ?_
              refine gs_iald hx hb hK hM 11 0 (by decide) rfl (vp_in_iff.mpr ⟨by omega, by omega⟩) dX10_guestRule_81 ?_
              refine lv_topi (fun x_22 ex_22 => ?_)
              have qx_22 : x_22.toInt = (st 11 0 (y7_0.toNatClampNeg)).toInt := congrArg Int32.toInt ex_22
              refine lv_iload_n hx hb dX10_guestRule_82 rfl (lv_at hl 1 rfl) ?_
              refine lv_icmp_ne (tgt := 89) hx hb dX10_guestRule_83 (by decide) (fun c_23 => ?_) (fun c_23 => ?_)
              · have ic_23 := gz_ne (rfl : x_22.toInt = x_22.toInt) (rfl : x_4.toInt = x_4.toInt) c_23
                obtain ⟨x_24, ex_24⟩ : ∃ y : Int32, y = y7_0 + 1 := ⟨_, rfl⟩
                try have tx_24 : x_24.toInt = y7_0.toInt + 1 := by rw [ex_24]; exact gz_addP (x := y7_0.toInt) (y := 1) rfl (by decide) (by omega) (by omega)
                refine lv_iinc (v := (x_24)) (lv' := [(4, .int x_24), (3, .int x_4), (0, .ref (ad 0 0)), (1, .int x), (2, .int y)]) hx hb dX10_guestRule_89 hl (k := 0) rfl (by rw [ex_24]; rfl) (by decide) rfl (fun ls hl => ?_)
                refine lv_goto (tgt := 25) hx hb dX10_guestRule_92 (by decide) ?_
                exact ih_7  (x_24 : Int32) H _ ls (by omega)  (by omega) (noG.step hv7_1 (by omega) (by omega) (by omega)) hM hS (lv_sub hl [0, 1, 2, 3, 4] rfl)
              · have ic_23 := gz_eqn (rfl : x_22.toInt = x_22.toInt) (rfl : x_4.toInt = x_4.toInt) c_23
                refine lv_iload hx hb dX10_guestRule_86 (lv_at hl 0 rfl) ?_
                rw [← hQe]
                exact gs_iret hx hb hr hlocks hM hS rfl ⟨hB_st, (Or.inr ⟨by omega, by omega, LM.gst1 hLM hwf hv7_1 (by omega) (by omega) (by omega) (by omega) (by omega) (by omega)⟩)⟩ (by exact Nat.le_refl _) (by exact Nat.le_refl _) dX10_guestRule_88
  exact lp7 ((48 - (x_6 : Int32).toInt).toNat + 1)  (x_6 : Int32) H _ ls (Nat.lt_succ_self _)  (by omega) (noG.nil (by omega)) hM hS (lv_sub hl [0, 1, 2, 3, 4] rfl)
