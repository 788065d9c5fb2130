theorem gm_292 : (Jvm.Cond.fieldLink "WellCourt" (21 : Nat) "WellCourt" "reader" "LWellCourt$Reader;") ∈ gz_T := gz_at 292 (by decide +kernel) rfl
theorem gm_299 : (Jvm.Cond.fieldLink "WellCourt" (67 : Nat) "WellCourt" "draft" "LWellCourt$Law;") ∈ gz_T := gz_at 299 (by decide +kernel) rfl
theorem gm_302 : (Jvm.Cond.fieldLink "WellCourt" (83 : Nat) "WellCourt" "latestFault" "I") ∈ gz_T := gz_at 302 (by decide +kernel) rfl
theorem gm_358 : (Jvm.Cond.methodLink "WellCourt" (117 : Nat) ({ cls := "WellCourt$Law", name := "clear", desc := "()V" } : Jvm.MethodName)) ∈ gz_T := gz_at 358 (by decide +kernel) rfl
theorem gm_359 : (Jvm.Cond.instanceMethod ({ cls := "WellCourt$Law", name := "clear", desc := "()V" } : Jvm.MethodName)) ∈ gz_T := gz_at 359 (by decide +kernel) rfl
theorem gm_360 : (Jvm.Cond.selects "WellCourt$Law" ({ cls := "WellCourt$Law", name := "clear", desc := "()V" } : Jvm.MethodName) ({ cls := "WellCourt$Law", name := "clear", desc := "()V" } : Jvm.MethodName)) ∈ gz_T := gz_at 360 (by decide +kernel) rfl
theorem gm_361 : (Jvm.Cond.code ({ cls := "WellCourt$Law", name := "clear", desc := "()V" } : Jvm.MethodName) prog_6_method_2_code (1 : Nat) (Option.none : Option Jvm.ClassFile.FieldType)) ∈ gz_T := gz_at 361 (by decide +kernel) rfl
theorem gm_363 : (Jvm.Cond.methodLink "WellCourt" (120 : Nat) ({ cls := "WellCourt$Reader", name := "readText", desc := "(LWellCourt$Law;)Z" } : Jvm.MethodName)) ∈ gz_T := gz_at 363 (by decide +kernel) rfl
theorem gm_364 : (Jvm.Cond.instanceMethod ({ cls := "WellCourt$Reader", name := "readText", desc := "(LWellCourt$Law;)Z" } : Jvm.MethodName)) ∈ gz_T := gz_at 364 (by decide +kernel) rfl
theorem gm_365 : (Jvm.Cond.selects "WellCourt$Reader" ({ cls := "WellCourt$Reader", name := "readText", desc := "(LWellCourt$Law;)Z" } : Jvm.MethodName) ({ cls := "WellCourt$Reader", name := "readText", desc := "(LWellCourt$Law;)Z" } : Jvm.MethodName)) ∈ gz_T := gz_at 365 (by decide +kernel) rfl
theorem gm_366 : (Jvm.Cond.code ({ cls := "WellCourt$Reader", name := "readText", desc := "(LWellCourt$Law;)Z" } : Jvm.MethodName) prog_9_method_2_code (4 : Nat) (Option.some Jvm.ClassFile.FieldType.boolean)) ∈ gz_T := gz_at 366 (by decide +kernel) rfl
theorem gm_532 : (Jvm.Cond.methodLink "WellCourt" (130 : Nat) ({ cls := "WellCourt$Calendar", name := "tellTurns", desc := "(LWellCourt$Law;I)V" } : Jvm.MethodName)) ∈ gz_T := gz_at 532 (by decide +kernel) rfl
theorem gm_533 : (Jvm.Cond.instanceMethod ({ cls := "WellCourt$Calendar", name := "tellTurns", desc := "(LWellCourt$Law;I)V" } : Jvm.MethodName)) ∈ gz_T := gz_at 533 (by decide +kernel) rfl
theorem gm_534 : (Jvm.Cond.selects "WellCourt$Calendar" ({ cls := "WellCourt$Calendar", name := "tellTurns", desc := "(LWellCourt$Law;I)V" } : Jvm.MethodName) ({ cls := "WellCourt$Calendar", name := "tellTurns", desc := "(LWellCourt$Law;I)V" } : Jvm.MethodName)) ∈ gz_T := gz_at 534 (by decide +kernel) rfl
theorem gm_535 : (Jvm.Cond.code ({ cls := "WellCourt$Calendar", name := "tellTurns", desc := "(LWellCourt$Law;I)V" } : Jvm.MethodName) prog_2_method_3_code (5 : Nat) (Option.none : Option Jvm.ClassFile.FieldType)) ∈ gz_T := gz_at 535 (by decide +kernel) rfl
theorem gn_58 : (Jvm.Cond.fieldLinkNest "WellCourt" (124 : Nat) "WellCourt$Reader" "faultKind" "I" "WellCourt") ∈ gzN := gz_nest 58 (by decide +kernel) rfl
theorem gn_60 : (Jvm.Cond.fieldLinkNest "WellCourt" (127 : Nat) "WellCourt$Reader" "faultPlace" "I" "WellCourt") ∈ gzN := gz_nest 60 (by decide +kernel) rfl
theorem gn_190 : (Jvm.Cond.fieldLinkNest "WellCourt" (137 : Nat) "WellCourt$Law" "rules" "I" "WellCourt") ∈ gzN := gz_nest 190 (by decide +kernel) rfl
theorem dX9_fault_0 : decode cX9_fault 0 = .ok (.aload_n 0, 1) := by decide +kernel
theorem dX9_fault_1 : decode cX9_fault 1 = .ok (.getfield 83, 3) := by decide +kernel
theorem dX9_fault_4 : decode cX9_fault 4 = .ok (.ireturn, 1) := by decide +kernel
theorem dX9_rights_0 : decode cX9_rights 0 = .ok (.aload_n 0, 1) := by decide +kernel
theorem dX9_rights_1 : decode cX9_rights 1 = .ok (.getfield 67, 3) := by decide +kernel
theorem dX9_rights_4 : decode cX9_rights 4 = .ok (.invokevirtual 117, 3) := by decide +kernel
theorem dX9_rights_7 : decode cX9_rights 7 = .ok (.aload_n 0, 1) := by decide +kernel
theorem dX9_rights_8 : decode cX9_rights 8 = .ok (.getfield 21, 3) := by decide +kernel
theorem dX9_rights_11 : decode cX9_rights 11 = .ok (.aload_n 0, 1) := by decide +kernel
theorem dX9_rights_12 : decode cX9_rights 12 = .ok (.getfield 67, 3) := by decide +kernel
theorem dX9_rights_15 : decode cX9_rights 15 = .ok (.invokevirtual 120, 3) := by decide +kernel
theorem dX9_rights_18 : decode cX9_rights 18 = .ok (.istore_n 1, 1) := by decide +kernel
theorem dX9_rights_19 : decode cX9_rights 19 = .ok (.aload_n 0, 1) := by decide +kernel
theorem dX9_rights_20 : decode cX9_rights 20 = .ok (.getfield 10, 3) := by decide +kernel
theorem dX9_rights_23 : decode cX9_rights 23 = .ok (.iconst 0, 1) := by decide +kernel
theorem dX9_rights_24 : decode cX9_rights 24 = .ok (.putfield 86, 3) := by decide +kernel
theorem dX9_rights_27 : decode cX9_rights 27 = .ok (.aload_n 0, 1) := by decide +kernel
theorem dX9_rights_28 : decode cX9_rights 28 = .ok (.aload_n 0, 1) := by decide +kernel
theorem dX9_rights_29 : decode cX9_rights 29 = .ok (.getfield 21, 3) := by decide +kernel
theorem dX9_rights_32 : decode cX9_rights 32 = .ok (.getfield 124, 3) := by decide +kernel
theorem dX9_rights_35 : decode cX9_rights 35 = .ok (.putfield 83, 3) := by decide +kernel
theorem dX9_rights_38 : decode cX9_rights 38 = .ok (.iload_n 1, 1) := by decide +kernel
theorem dX9_rights_39 : decode cX9_rights 39 = .ok (.ifCond .ne 13, 3) := by decide +kernel
theorem dX9_rights_42 : decode cX9_rights 42 = .ok (.iconst (-1), 1) := by decide +kernel
theorem dX9_rights_43 : decode cX9_rights 43 = .ok (.aload_n 0, 1) := by decide +kernel
theorem dX9_rights_44 : decode cX9_rights 44 = .ok (.getfield 21, 3) := by decide +kernel
theorem dX9_rights_47 : decode cX9_rights 47 = .ok (.getfield 127, 3) := by decide +kernel
theorem dX9_rights_50 : decode cX9_rights 50 = .ok (.isub, 1) := by decide +kernel
theorem dX9_rights_51 : decode cX9_rights 51 = .ok (.ireturn, 1) := by decide +kernel
theorem dX9_rights_52 : decode cX9_rights 52 = .ok (.aload_n 0, 1) := by decide +kernel
theorem dX9_rights_53 : decode cX9_rights 53 = .ok (.getfield 63, 3) := by decide +kernel
theorem dX9_rights_56 : decode cX9_rights 56 = .ok (.astore_n 2, 1) := by decide +kernel
theorem dX9_rights_57 : decode cX9_rights 57 = .ok (.aload_n 0, 1) := by decide +kernel
theorem dX9_rights_58 : decode cX9_rights 58 = .ok (.aload_n 0, 1) := by decide +kernel
theorem dX9_rights_59 : decode cX9_rights 59 = .ok (.getfield 67, 3) := by decide +kernel
theorem dX9_rights_62 : decode cX9_rights 62 = .ok (.putfield 63, 3) := by decide +kernel
theorem dX9_rights_65 : decode cX9_rights 65 = .ok (.aload_n 0, 1) := by decide +kernel
theorem dX9_rights_66 : decode cX9_rights 66 = .ok (.aload_n 2, 1) := by decide +kernel
theorem dX9_rights_67 : decode cX9_rights 67 = .ok (.putfield 67, 3) := by decide +kernel
theorem dX9_rights_70 : decode cX9_rights 70 = .ok (.aload_n 0, 1) := by decide +kernel
theorem dX9_rights_71 : decode cX9_rights 71 = .ok (.getfield 35, 3) := by decide +kernel
theorem dX9_rights_74 : decode cX9_rights 74 = .ok (.aload_n 0, 1) := by decide +kernel
theorem dX9_rights_75 : decode cX9_rights 75 = .ok (.getfield 63, 3) := by decide +kernel
theorem dX9_rights_78 : decode cX9_rights 78 = .ok (.aload_n 0, 1) := by decide +kernel
theorem dX9_rights_79 : decode cX9_rights 79 = .ok (.getfield 79, 3) := by decide +kernel
theorem dX9_rights_82 : decode cX9_rights 82 = .ok (.invokevirtual 130, 3) := by decide +kernel
theorem dX9_rights_85 : decode cX9_rights 85 = .ok (.aload_n 0, 1) := by decide +kernel
theorem dX9_rights_86 : decode cX9_rights 86 = .ok (.invokevirtual 134, 3) := by decide +kernel
theorem dX9_rights_89 : decode cX9_rights 89 = .ok (.aload_n 0, 1) := by decide +kernel
theorem dX9_rights_90 : decode cX9_rights 90 = .ok (.getfield 63, 3) := by decide +kernel
theorem dX9_rights_93 : decode cX9_rights 93 = .ok (.getfield 137, 3) := by decide +kernel
theorem dX9_rights_96 : decode cX9_rights 96 = .ok (.ireturn, 1) := by decide +kernel
set_option maxHeartbeats 4000000 in
set_option maxRecDepth 100000 in
/-- WellCourt.rights -/
theorem s_rights (l : Launch) (G : va_G) (cy : Nat → ClassId) (sK sV : Nat → Nat) (ad : Nat → Nat → Nat) (sz : Nat) (st : gS) (hB : gBd bX st) (F : Nat → Int32) (N : Int) (hF : st 2 0 = F) (hN : (st 1 0 1).toInt = N) (ro : List Rl) (hLa : LXa ro st (st 0 0 7).toNatClampNeg) (hsel : (st 0 0 7).toInt + (st 0 0 8).toInt = 1) : gsMi l yX9_rights cX9_rights 3 (some .int) ({ frames := 8, cells := 0, slots := 0, locals := 176 } : Room) G cy sK sV (shX cy ad) cnX ad sz [.ref (ad 0 0)] st (fun (r : Int32) (u : gS) => gBN bX kX [7, 8, 11, 101, 301, 302, 303, 304, 305, 1100, 1500, 2500, 2505, 2509, 2700, 2800, 2900, 3000, 3100, 3200, 3300, 3400, 3500, 3600, 3700] st u ∧ (((∃ rs : List Rl, pText F N (cLex F N) 20 [] 0 = some rs ∧ LXa rs u (u 0 0 7).toNatClampNeg ∧ (∀ r ∈ rs, wfR r) ∧ (u 0 0 7).toInt = (st 0 0 8).toInt ∧ (u 0 0 8).toInt = (st 0 0 7).toInt ∧ stC rs (st 14 15) (fun w9 d9 => if (st 0 0 10).toInt ≤ (d9 : Int) then ownT rs w9 d9 else (st 11 w9 d9).toInt) u (st 0 0 10).toInt) ∨ (pText F N (cLex F N) 20 [] 0 = none ∧ LXa ro u (u 0 0 7).toNatClampNeg ∧ (u 0 0 7).toInt = (st 0 0 7).toInt ∧ (u 0 0 8).toInt = (st 0 0 8).toInt ∧ u 11 = st 11 ∧ u 15 = st 15)) ∧ ((u 1 0 1).toInt = 0))) := by
  refine gs_start (fun A => gsQi G (shX cy ad) cnX ad _ A) (by decide) (Nat.le_of_ble_eq_true rfl) ?_
  intro p e s m below meth c A ls H hx hb hr hml hlocks hown hts hK hov hE hI hM hm hS hA hl
  have hl : lv_has ls 3 [(0, .ref (ad 0 0))] := hl
  have hB_st : gBN bX kX [7, 8, 11, 101, 301, 302, 303, 304, 305, 1100, 1500, 2500, 2505, 2509, 2700, 2800, 2900, 3000, 3100, 3200, 3300, 3400, 3500, 3600, 3700] st st := gBN.rf hB
  have b10 : (0 : Int) ≤ (st 0 0 10).toInt ∧ (st 0 0 10).toInt ≤ (199 : Int) := hB 0 0 10
  have bs7 : (0 : Int) ≤ (st 0 0 7).toInt ∧ (st 0 0 7).toInt ≤ (1 : Int) := hB 0 0 7
  have bs8 : (0 : Int) ≤ (st 0 0 8).toInt ∧ (st 0 0 8).toInt ≤ (1 : Int) := hB 0 0 8
  refine lv_aload_n hx hb dX9_rights_0 rfl (lv_at hl 0 rfl) ?_
  refine gs_get (C := RX9) (T := TX9) (N := 12) hx hb hts inX9 hown hK hM 0 0 8 (by decide) rfl rfl (by decide) (hts _ gm_299) (fun _ h9 => h9) rfl dX9_rights_1 ?_
  have h_1 : (0 : Int) ≤ (st 0 0 8).toInt ∧ (st 0 0 8).toInt ≤ (1 : Int) := hB_st.1 0 0 8
  refine gs_callv (va_runV (As := []) (rest := []) ⟨hx, hb, hml, hown, hts⟩ (s_X4_clear l G cy sK sV ad H.size st hB_st.1 (st 0 0 8) h_1 ) ⟨(gz_cb (n := 0) hts gm_358 gm_10 gm_361 ⟨by decide +kernel, by decide +kernel, by decide +kernel⟩ ⟨Nat.le_of_ble_eq_true rfl, Nat.le_of_ble_eq_true rfl⟩), hts _ gm_359, hts _ gm_360⟩ (gs_preV hK hov hE hI hM hm hS hA 25 ((st 0 0 8).toNatClampNeg) (gs_sel h_1) rfl rfl) rfl rfl hl.1 rfl (lv_room (Nat.le_of_ble_eq_true rfl)) dX9_rights_4 ⟨Nat.le_of_ble_eq_true rfl, Nat.le_of_ble_eq_true rfl⟩) hm hS hA (fun st_2 H locs hw_2 hM hS => ?_)
  obtain ⟨n_2, hw_2⟩ := hw_2
  have hB_st_2 : gBN bX kX [7, 8, 11, 101, 301, 302, 303, 304, 305, 1100, 1500, 2500, 2505, 2509, 2700, 2800, 2900, 3000, 3100, 3200, 3300, 3400, 3500, 3600, 3700] st st_2 := hB_st.call n_2 (by decide)
  have hbhw_20 : (0 : Int) ≤ (st 0 0 8).toInt ∧ (st 0 0 8).toInt ≤ (1 : Int) := hB_st.1 0 0 8
  obtain ⟨hw_2_0, hw_2_1⟩ := hw_2
  refine lv_aload_n hx hb dX9_rights_7 rfl (lv_at hl 0 rfl) ?_
  refine gs_get (C := RX9) (T := TX9) (N := 12) hx hb hts inX9 hown hK hM 0 0 1 (by decide) rfl rfl (by decide) (hts _ gm_292) (fun _ h9 => h9) rfl dX9_rights_8 ?_
  refine lv_aload_n hx hb dX9_rights_11 rfl (lv_at hl 0 rfl) ?_
  refine gs_get (C := RX9) (T := TX9) (N := 12) hx hb hts inX9 hown hK hM 0 0 8 (by decide) rfl rfl (by decide) (hts _ gm_299) (fun _ h9 => h9) rfl dX9_rights_12 ?_
  have h_3 : (0 : Int) ≤ (st_2 0 0 8).toInt ∧ (st_2 0 0 8).toInt ≤ (1 : Int) := hB_st_2.1 0 0 8
  refine gs_calli (va_runV (As := [.ref (ad 25 ((st_2 0 0 8).toNatClampNeg))]) (rest := []) ⟨hx, hb, hml, hown, hts⟩ (s_X7_readText l G cy sK sV ad H.size st_2 hB_st_2.1 (st_2 0 0 8) h_3 F N (((funext (fun j9 => n_2.2 2 0 j9 (show (200 : Nat) ∉ _ from by decide))).trans rfl).trans hF) ((congrArg Int32.toInt ((n_2.2 1 0 1 (show (101 : Nat) ∉ _ from by decide)))).trans hN) (show LXa [] st_2 (st_2 0 0 8).toNatClampNeg from (by rw [show st_2 0 0 8 = st 0 0 8 from (n_2.2 0 0 8 (show (8 : Nat) ∉ _ from by decide))]; exact hw_2_0))) ⟨(gz_cb (n := 1) hts gm_363 gm_3 gm_366 ⟨by decide +kernel, by decide +kernel, by decide +kernel⟩ ⟨Nat.le_of_ble_eq_true rfl, Nat.le_of_ble_eq_true rfl⟩), hts _ gm_364, hts _ gm_365⟩ (gs_preV hK hov hE hI hM hm hS hA 3 0 (by decide) rfl rfl) rfl rfl hl.1 rfl (lv_room (Nat.le_of_ble_eq_true rfl)) dX9_rights_15 ⟨Nat.le_of_ble_eq_true rfl, Nat.le_of_ble_eq_true rfl⟩) hm hS hA (fun r_4 st_4 H locs hw_4 hM hS => ?_)
  obtain ⟨n_4, hw_4⟩ := hw_4
  have hB_st_4 : gBN bX kX [7, 8, 11, 101, 301, 302, 303, 304, 305, 1100, 1500, 2500, 2505, 2509, 2700, 2800, 2900, 3000, 3100, 3200, 3300, 3400, 3500, 3600, 3700] st st_4 := hB_st_2.call n_4 (by decide)
  have hqhw_40 : (st_2 0 0 8).toInt = ((st 0 0 8) : Int32).toInt := congrArg Int32.toInt ((n_2.2 0 0 8 (show (8 : Nat) ∉ _ from by decide)))
  have hbhw_41 : (0 : Int) ≤ (st_2 0 0 8).toInt ∧ (st_2 0 0 8).toInt ≤ (1 : Int) := hB_st_2.1 0 0 8
  rcases hw_4 with ⟨rfl, hw_4_0, hw_4_1⟩ | ⟨rfl, hw_4_0, hw_4_1⟩
  · skip
    obtain ⟨rs, hT9, hL9, hw9, hr9⟩ := hw_4_0
    refine lv_istore_n (lv' := [(1, .int 1), (0, .ref (ad 0 0))]) hx hb dX9_rights_18 rfl hl (by decide) rfl (fun ls hl => ?_)
    refine lv_aload_n hx hb dX9_rights_19 rfl (lv_at hl 1 rfl) ?_
    refine gs_get (C := RX9) (T := TX9) (N := 12) hx hb hts inX9 hown hK hM 0 0 0 (by decide) rfl rfl (by decide) (hts _ gm_291) (fun _ h9 => h9) rfl dX9_rights_20 ?_
    refine lv_iconst (v := 0) hx hb dX9_rights_23 (by decide) ?_
    refine gs_putN (host := "WellCourt") (C := RX8) (T := TX8) (N := 2) (ty := .int) (val := .int 0) hx hb hts inX8 tyX8 tyX8_ok nmX8 hown hK hI hm hM hS 1 0 1 (by decide) rfl rfl (by decide) (va_Nw.use rfl (hov.2.2 _ gn_40)) (fun _ h9 => h9) rfl (0 : Int32) rfl (by decide +kernel) rfl rfl (Nat.le_of_ble_eq_true rfl) dX9_rights_24 (fun st_5 H locs est_5 hM hS => ?_)
    have hB_st_5 : gBN bX kX [7, 8, 11, 101, 301, 302, 303, 304, 305, 1100, 1500, 2500, 2505, 2509, 2700, 2800, 2900, 3000, 3100, 3200, 3300, 3400, 3500, 3600, 3700] st st_5 := by rw [est_5]; exact hB_st_4.up (show (101 : Nat) ∈ _ from by decide) (show (0 : Int) ≤ ((0 : Int32)).toInt from by decide) (show ((0 : Int32)).toInt ≤ (800 : Int) from by decide)
    refine lv_aload_n hx hb dX9_rights_27 rfl (lv_at hl 1 rfl) ?_
    refine lv_aload_n hx hb dX9_rights_28 rfl (lv_at hl 1 rfl) ?_
    refine gs_get (C := RX9) (T := TX9) (N := 12) hx hb hts inX9 hown hK hM 0 0 1 (by decide) rfl rfl (by decide) (hts _ gm_292) (fun _ h9 => h9) rfl dX9_rights_29 ?_
    refine gs_getN (host := "WellCourt") (C := RX7) (T := TX7) (N := 6) hx hb hts inX7 hown hK hM 3 0 4 (by decide) rfl rfl (by decide) (va_Nw.use rfl (hov.2.2 _ gn_58)) (fun _ h9 => h9) rfl dX9_rights_32 ?_
    refine lv_topi (fun x_6 ex_6 => ?_)
    have ex_6 : (st_4 3 0 4) = x_6 := Eq.symm (ex_6.trans ((congrFun (congrFun (congrFun est_5 3) 0) 4).trans (congrFun (congrFun (gU_k (by decide)) 0) 4)))
    subst ex_6
    refine gs_put (C := RX9) (T := TX9) (N := 12) (ty := .int) (val := .int (st_4 3 0 4)) hx hb hts inX9 tyX9 tyX9_ok nmX9 hown hK hI hm hM hS 0 0 11 (by decide) rfl rfl (by decide) (hts _ gm_302) (fun _ h9 => h9) rfl ((st_4 3 0 4) : Int32) rfl (by decide +kernel) rfl rfl (Nat.le_of_ble_eq_true rfl) dX9_rights_35 (fun st_8 H locs est_8 hM hS => ?_)
    have hB_st_8 : gBN bX kX [7, 8, 11, 101, 301, 302, 303, 304, 305, 1100, 1500, 2500, 2505, 2509, 2700, 2800, 2900, 3000, 3100, 3200, 3300, 3400, 3500, 3600, 3700] st st_8 := by rw [est_8]; exact hB_st_5.up (show (11 : Nat) ∈ _ from by decide) (gi_lo _) (gi_hi _)
    refine lv_iload_n hx hb dX9_rights_38 rfl (lv_at hl 0 rfl) ?_
    refine lv_if_ne (tgt := 52) hx hb dX9_rights_39 (by decide) (fun _ => ?_) (fun h9 => absurd h9 (by decide))
    refine lv_aload_n hx hb dX9_rights_52 rfl (lv_at hl 1 rfl) ?_
    refine gs_get (C := RX9) (T := TX9) (N := 12) hx hb hts inX9 hown hK hM 0 0 7 (by decide) rfl rfl (by decide) (hts _ gm_298) (fun _ h9 => h9) rfl dX9_rights_53 ?_
    have h_9 : (0 : Int) ≤ (st_8 0 0 7).toInt ∧ (st_8 0 0 7).toInt ≤ (1 : Int) := hB_st_8.1 0 0 7
    refine lv_astore_n (lv' := [(2, .ref (ad 25 ((st_8 0 0 7).toNatClampNeg))), (1, .int 1), (0, .ref (ad 0 0))]) hx hb dX9_rights_56 rfl hl (by decide) rfl (fun ls hl => ?_)
    refine lv_aload_n hx hb dX9_rights_57 rfl (lv_at hl 2 rfl) ?_
    refine lv_aload_n hx hb dX9_rights_58 rfl (lv_at hl 2 rfl) ?_
    refine gs_get (C := RX9) (T := TX9) (N := 12) hx hb hts inX9 hown hK hM 0 0 8 (by decide) rfl rfl (by decide) (hts _ gm_299) (fun _ h9 => h9) rfl dX9_rights_59 ?_
    have h_10 : (0 : Int) ≤ (st_8 0 0 8).toInt ∧ (st_8 0 0 8).toInt ≤ (1 : Int) := hB_st_8.1 0 0 8
    refine gs_put (C := RX9) (T := TX9) (N := 12) (ty := .object "WellCourt$Law") (val := .ref (ad 25 ((st_8 0 0 8).toNatClampNeg))) hx hb hts inX9 tyX9 tyX9_ok nmX9 hown hK hI hm hM hS 0 0 7 (by decide) rfl rfl (by decide) (hts _ gm_298) (fun _ h9 => h9) rfl ((st_8 0 0 8) : Int32) rfl (by decide +kernel) rfl rfl (Nat.le_of_ble_eq_true rfl) dX9_rights_62 (fun st_11 H locs est_11 hM hS => ?_)
    have hB_st_11 : gBN bX kX [7, 8, 11, 101, 301, 302, 303, 304, 305, 1100, 1500, 2500, 2505, 2509, 2700, 2800, 2900, 3000, 3100, 3200, 3300, 3400, 3500, 3600, 3700] st st_11 := by rw [est_11]; exact hB_st_8.up (show (7 : Nat) ∈ _ from by decide) (show (0 : Int) ≤ (st_8 0 0 8).toInt from by omega) (show (st_8 0 0 8).toInt ≤ (1 : Int) from by omega)
    refine lv_aload_n hx hb dX9_rights_65 rfl (lv_at hl 2 rfl) ?_
    refine lv_aload_n hx hb dX9_rights_66 rfl (lv_at hl 0 rfl) ?_
    refine gs_put (C := RX9) (T := TX9) (N := 12) (ty := .object "WellCourt$Law") (val := .ref (ad 25 ((st_8 0 0 7).toNatClampNeg))) hx hb hts inX9 tyX9 tyX9_ok nmX9 hown hK hI hm hM hS 0 0 8 (by decide) rfl rfl (by decide) (hts _ gm_299) (fun _ h9 => h9) rfl ((st_8 0 0 7) : Int32) rfl (by decide +kernel) rfl rfl (Nat.le_of_ble_eq_true rfl) dX9_rights_67 (fun st_12 H locs est_12 hM hS => ?_)
    have hB_st_12 : gBN bX kX [7, 8, 11, 101, 301, 302, 303, 304, 305, 1100, 1500, 2500, 2505, 2509, 2700, 2800, 2900, 3000, 3100, 3200, 3300, 3400, 3500, 3600, 3700] st st_12 := by rw [est_12]; exact hB_st_11.up (show (8 : Nat) ∈ _ from by decide) (show (0 : Int) ≤ (st_8 0 0 7).toInt from by omega) (show (st_8 0 0 7).toInt ≤ (1 : Int) from by omega)
    refine lv_aload_n hx hb dX9_rights_70 rfl (lv_at hl 2 rfl) ?_
    refine gs_get (C := RX9) (T := TX9) (N := 12) hx hb hts inX9 hown hK hM 0 0 3 (by decide) rfl rfl (by decide) (hts _ gm_294) (fun _ h9 => h9) rfl dX9_rights_71 ?_
    refine lv_aload_n hx hb dX9_rights_74 rfl (lv_at hl 2 rfl) ?_
    refine gs_get (C := RX9) (T := TX9) (N := 12) hx hb hts inX9 hown hK hM 0 0 7 (by decide) rfl rfl (by decide) (hts _ gm_298) (fun _ h9 => h9) rfl dX9_rights_75 ?_
    have h_13 : (0 : Int) ≤ (st_12 0 0 7).toInt ∧ (st_12 0 0 7).toInt ≤ (1 : Int) := hB_st_12.1 0 0 7
    refine lv_aload_n hx hb dX9_rights_78 rfl (lv_at hl 2 rfl) ?_
    refine gs_get (C := RX9) (T := TX9) (N := 12) hx hb hts inX9 hown hK hM 0 0 10 (by decide) rfl rfl (by decide) (hts _ gm_301) (fun _ h9 => h9) rfl dX9_rights_79 ?_
    refine lv_topi (fun x_14 ex_14 => ?_)
    have ex_14 : (st 0 0 10) = x_14 := Eq.symm (ex_14.trans (((congrFun (congrFun (congrFun est_12 0) 0) 10).trans (gU_other (by decide))).trans (((congrFun (congrFun (congrFun est_11 0) 0) 10).trans (gU_other (by decide))).trans (((congrFun (congrFun (congrFun est_8 0) 0) 10).trans (gU_other (by decide))).trans (((congrFun (congrFun (congrFun est_5 0) 0) 10).trans (congrFun (congrFun (gU_k (by decide)) 0) 10)).trans ((n_4.2 0 0 10 (show (10 : Nat) ∉ _ from by decide)).trans (n_2.2 0 0 10 (show (10 : Nat) ∉ _ from by decide))))))))
    subst ex_14
    have bf_15 : (0 : Int) ≤ (st 0 0 10).toInt ∧ (st 0 0 10).toInt ≤ (199 : Int) := hB_st.1 0 0 10
    refine gs_callv (va_runV (As := [.ref (ad 25 ((st_12 0 0 7).toNatClampNeg)), .int (st 0 0 10)]) (rest := []) ⟨hx, hb, hml, hown, hts⟩ (s_X0_tellTurns l G cy sK sV ad H.size st_12 hB_st_12.1 (st_12 0 0 7) (st 0 0 10) ((st 0 0 10).toInt) rfl h_13 (by first | decide | omega) rs (show LXa rs st_12 (st_12 0 0 7).toNatClampNeg from (by rw [show st_12 0 0 7 = st 0 0 8 from ((((congrFun (congrFun (congrFun est_12 0) 0) 7).trans (gU_other (by decide))).trans ((congrFun (congrFun (congrFun est_11 0) 0) 7).trans (gU_same _ _ _ _ _))).trans (((congrFun (congrFun (congrFun est_8 0) 0) 8).trans (gU_other (by decide))).trans (((congrFun (congrFun (congrFun est_5 0) 0) 8).trans (congrFun (congrFun (gU_k (by decide)) 0) 8)).trans ((n_4.2 0 0 8 (show (8 : Nat) ∉ _ from by decide)).trans (n_2.2 0 0 8 (show (8 : Nat) ∉ _ from by decide))))))]; have h9 := (LXa.upk (LXa.upk (LXa.upk (LXa.upk hL9 est_5 (by decide)) est_8 (by decide)) est_11 (by decide)) est_12 (by decide)); rw [show st_2 0 0 8 = st 0 0 8 from (n_2.2 0 0 8 (show (8 : Nat) ∉ _ from by decide))] at h9; exact h9)).1) ⟨(gz_cb (n := 2) hts gm_532 gm_5 gm_535 ⟨by decide +kernel, by decide +kernel, by decide +kernel⟩ ⟨Nat.le_of_ble_eq_true rfl, Nat.le_of_ble_eq_true rfl⟩), hts _ gm_533, hts _ gm_534⟩ (gs_preV hK hov hE hI hM hm hS hA 9 0 (by decide) rfl rfl) rfl rfl hl.1 rfl (lv_room (Nat.le_of_ble_eq_true rfl)) dX9_rights_82 ⟨Nat.le_of_ble_eq_true rfl, Nat.le_of_ble_eq_true rfl⟩) hm hS hA (fun st_16 H locs hw_16 hM hS => ?_)
    obtain ⟨n_16, hw_16⟩ := hw_16
    have hB_st_16 : gBN bX kX [7, 8, 11, 101, 301, 302, 303, 304, 305, 1100, 1500, 2500, 2505, 2509, 2700, 2800, 2900, 3000, 3100, 3200, 3300, 3400, 3500, 3600, 3700] st st_16 := hB_st_12.call n_16 (by decide)
    have hw_16_0 := hw_16
    refine lv_aload_n hx hb dX9_rights_85 rfl (lv_at hl 2 rfl) ?_
    refine gs_callv (va_runV (As := []) (rest := []) ⟨hx, hb, hml, hown, hts⟩ (s_settleToday l G cy sK sV ad H.size st_16 hB_st_16.1  rs (show LXa rs st_16 (st_16 0 0 7).toNatClampNeg from (by rw [show st_16 0 0 7 = st 0 0 8 from (((n_16.2 0 0 7 (show (7 : Nat) ∉ _ from by decide)).trans (((congrFun (congrFun (congrFun est_12 0) 0) 7).trans (gU_other (by decide))).trans ((congrFun (congrFun (congrFun est_11 0) 0) 7).trans (gU_same _ _ _ _ _)))).trans (((congrFun (congrFun (congrFun est_8 0) 0) 8).trans (gU_other (by decide))).trans (((congrFun (congrFun (congrFun est_5 0) 0) 8).trans (congrFun (congrFun (gU_k (by decide)) 0) 8)).trans ((n_4.2 0 0 8 (show (8 : Nat) ∉ _ from by decide)).trans (n_2.2 0 0 8 (show (8 : Nat) ∉ _ from by decide))))))]; have h9 := (LXa.keep (LXa.upk (LXa.upk (LXa.upk (LXa.upk hL9 est_5 (by decide)) est_8 (by decide)) est_11 (by decide)) est_12 (by decide)) n_16.2 (by decide)); rw [show st_2 0 0 8 = st 0 0 8 from (n_2.2 0 0 8 (show (8 : Nat) ∉ _ from by decide))] at h9; exact h9)) hw9) ⟨(gz_cb (n := 0) hts gm_543 gm_1 gm_546 ⟨by decide +kernel, by decide +kernel, by decide +kernel⟩ ⟨Nat.le_of_ble_eq_true rfl, Nat.le_of_ble_eq_true rfl⟩), hts _ gm_545, hts _ gs_16⟩ (gs_preV hK hov hE hI hM hm hS hA 0 0 (by decide) rfl rfl) rfl rfl hl.1 rfl (lv_room (Nat.le_of_ble_eq_true rfl)) dX9_rights_86 ⟨Nat.le_of_ble_eq_true rfl, Nat.le_of_ble_eq_true rfl⟩) hm hS hA (fun st_17 H locs hw_17 hM hS => ?_)
    obtain ⟨n_17, hw_17⟩ := hw_17
    have hB_st_17 : gBN bX kX [7, 8, 11, 101, 301, 302, 303, 304, 305, 1100, 1500, 2500, 2505, 2509, 2700, 2800, 2900, 3000, 3100, 3200, 3300, 3400, 3500, 3600, 3700] st st_17 := hB_st_16.call n_17 (by decide)
    have hqhw_170 : (st_16 0 0 10).toInt = ((st 0 0 10) : Int32).toInt := congrArg Int32.toInt (((n_16.2 0 0 10 (show (10 : Nat) ∉ _ from by decide)).trans (((congrFun (congrFun (congrFun est_12 0) 0) 10).trans (gU_other (by decide))).trans (((congrFun (congrFun (congrFun est_11 0) 0) 10).trans (gU_other (by decide))).trans (((congrFun (congrFun (congrFun est_8 0) 0) 10).trans (gU_other (by decide))).trans (((congrFun (congrFun (congrFun est_5 0) 0) 10).trans (congrFun (congrFun (gU_k (by decide)) 0) 10)).trans ((n_4.2 0 0 10 (show (10 : Nat) ∉ _ from by decide)).trans (n_2.2 0 0 10 (show (10 : Nat) ∉ _ from by decide)))))))))
    have hbhw_171 : (0 : Int) ≤ (st_16 0 0 10).toInt ∧ (st_16 0 0 10).toInt ≤ (199 : Int) := hB_st_16.1 0 0 10
    have hw_17_0 := hw_17
    refine lv_aload_n hx hb dX9_rights_89 rfl (lv_at hl 2 rfl) ?_
    refine gs_get (C := RX9) (T := TX9) (N := 12) hx hb hts inX9 hown hK hM 0 0 7 (by decide) rfl rfl (by decide) (hts _ gm_298) (fun _ h9 => h9) rfl dX9_rights_90 ?_
    have h_18 : (0 : Int) ≤ (st_17 0 0 7).toInt ∧ (st_17 0 0 7).toInt ≤ (1 : Int) := hB_st_17.1 0 0 7
    refine gs_getN (host := "WellCourt") (C := RX4) (T := TX4) (N := 14) hx hb hts inX4 hown hK hM 25 ((st_17 0 0 7).toNatClampNeg) 0 (gs_sel h_18) rfl rfl (by decide) (va_Nw.use rfl (hov.2.2 _ gn_190)) (fun _ h9 => h9) rfl dX9_rights_93 ?_
    refine lv_topi (fun x_19 ex_19 => ?_)
    have ex_19 : (st_4 25 ((st_17 0 0 7).toNatClampNeg) 0) = x_19 := Eq.symm (ex_19.trans ((n_17.2 25 ((st_17 0 0 7).toNatClampNeg) 0 (show (2500 : Nat) ∉ _ from by decide)).trans ((n_16.2 25 ((st_17 0 0 7).toNatClampNeg) 0 (show (2500 : Nat) ∉ _ from by decide)).trans (((congrFun (congrFun (congrFun est_12 25) ((st_17 0 0 7).toNatClampNeg)) 0).trans (congrFun (congrFun (gU_k (by decide)) ((st_17 0 0 7).toNatClampNeg)) 0)).trans (((congrFun (congrFun (congrFun est_11 25) ((st_17 0 0 7).toNatClampNeg)) 0).trans (congrFun (congrFun (gU_k (by decide)) ((st_17 0 0 7).toNatClampNeg)) 0)).trans (((congrFun (congrFun (congrFun est_8 25) ((st_17 0 0 7).toNatClampNeg)) 0).trans (congrFun (congrFun (gU_k (by decide)) ((st_17 0 0 7).toNatClampNeg)) 0)).trans ((congrFun (congrFun (congrFun est_5 25) ((st_17 0 0 7).toNatClampNeg)) 0).trans (congrFun (congrFun (gU_k (by decide)) ((st_17 0 0 7).toNatClampNeg)) 0))))))))
    subst ex_19
    exact gs_iret hx hb hr hlocks hM hS rfl ⟨hB_st_17, (Or.inl ⟨rs, hT9, (show LXa rs st_17 (st_17 0 0 7).toNatClampNeg from (by rw [show st_17 0 0 7 = st 0 0 8 from (((n_17.2 0 0 7 (show (7 : Nat) ∉ _ from by decide)).trans ((n_16.2 0 0 7 (show (7 : Nat) ∉ _ from by decide)).trans (((congrFun (congrFun (congrFun est_12 0) 0) 7).trans (gU_other (by decide))).trans ((congrFun (congrFun (congrFun est_11 0) 0) 7).trans (gU_same _ _ _ _ _))))).trans (((congrFun (congrFun (congrFun est_8 0) 0) 8).trans (gU_other (by decide))).trans (((congrFun (congrFun (congrFun est_5 0) 0) 8).trans (congrFun (congrFun (gU_k (by decide)) 0) 8)).trans ((n_4.2 0 0 8 (show (8 : Nat) ∉ _ from by decide)).trans (n_2.2 0 0 8 (show (8 : Nat) ∉ _ from by decide))))))]; have h9 := (LXa.keep (LXa.keep (LXa.upk (LXa.upk (LXa.upk (LXa.upk hL9 est_5 (by decide)) est_8 (by decide)) est_11 (by decide)) est_12 (by decide)) n_16.2 (by decide)) n_17.2 (by decide)); rw [show st_2 0 0 8 = st 0 0 8 from (n_2.2 0 0 8 (show (8 : Nat) ∉ _ from by decide))] at h9; exact h9)), hw9, congrArg Int32.toInt (((n_17.2 0 0 7 (show (7 : Nat) ∉ _ from by decide)).trans ((n_16.2 0 0 7 (show (7 : Nat) ∉ _ from by decide)).trans (((congrFun (congrFun (congrFun est_12 0) 0) 7).trans (gU_other (by decide))).trans ((congrFun (congrFun (congrFun est_11 0) 0) 7).trans (gU_same _ _ _ _ _))))).trans (((congrFun (congrFun (congrFun est_8 0) 0) 8).trans (gU_other (by decide))).trans (((congrFun (congrFun (congrFun est_5 0) 0) 8).trans (congrFun (congrFun (gU_k (by decide)) 0) 8)).trans ((n_4.2 0 0 8 (show (8 : Nat) ∉ _ from by decide)).trans (n_2.2 0 0 8 (show (8 : Nat) ∉ _ from by decide)))))), congrArg Int32.toInt (((n_17.2 0 0 8 (show (8 : Nat) ∉ _ from by decide)).trans ((n_16.2 0 0 8 (show (8 : Nat) ∉ _ from by decide)).trans ((congrFun (congrFun (congrFun est_12 0) 0) 8).trans (gU_same _ _ _ _ _)))).trans (((congrFun (congrFun (congrFun est_8 0) 0) 7).trans (gU_other (by decide))).trans (((congrFun (congrFun (congrFun est_5 0) 0) 7).trans (congrFun (congrFun (gU_k (by decide)) 0) 7)).trans ((n_4.2 0 0 7 (show (7 : Nat) ∉ _ from by decide)).trans (n_2.2 0 0 7 (show (7 : Nat) ∉ _ from by decide)))))), (by have h9 := hw_17_0; rw [show st_16 14 15 = st 14 15 from congrFun ((funext fun i9 => funext fun j9 => n_16.2 14 i9 j9 (show (1400 : Nat) ∉ _ from by decide)).trans (((congrFun est_12 14).trans (gU_k (by decide))).trans (((congrFun est_11 14).trans (gU_k (by decide))).trans (((congrFun est_8 14).trans (gU_k (by decide))).trans (((congrFun est_5 14).trans (gU_k (by decide))).trans ((funext fun i9 => funext fun j9 => n_4.2 14 i9 j9 (show (1400 : Nat) ∉ _ from by decide)).trans ((funext fun i9 => funext fun j9 => n_2.2 14 i9 j9 (show (1400 : Nat) ∉ _ from by decide)).trans rfl))))))) 15, show st_16 0 0 10 = st 0 0 10 from ((n_16.2 0 0 10 (show (10 : Nat) ∉ _ from by decide)).trans (((congrFun (congrFun (congrFun est_12 0) 0) 10).trans (gU_other (by decide))).trans (((congrFun (congrFun (congrFun est_11 0) 0) 10).trans (gU_other (by decide))).trans (((congrFun (congrFun (congrFun est_8 0) 0) 10).trans (gU_other (by decide))).trans (((congrFun (congrFun (congrFun est_5 0) 0) 10).trans (congrFun (congrFun (gU_k (by decide)) 0) 10)).trans ((n_4.2 0 0 10 (show (10 : Nat) ∉ _ from by decide)).trans (n_2.2 0 0 10 (show (10 : Nat) ∉ _ from by decide))))))))] at h9; refine stC.congr h9 (by omega) (by omega) (fun w9 d9 h1 h2 => ?_); have h8 := hw_16_0 w9 d9 h1 h2; rw [show st_12 11 = st 11 from (((congrFun est_12 11).trans (gU_k (by decide))).trans (((congrFun est_11 11).trans (gU_k (by decide))).trans (((congrFun est_8 11).trans (gU_k (by decide))).trans (((congrFun est_5 11).trans (gU_k (by decide))).trans ((funext fun i9 => funext fun j9 => n_4.2 11 i9 j9 (show (1100 : Nat) ∉ _ from by decide)).trans ((funext fun i9 => funext fun j9 => n_2.2 11 i9 j9 (show (1100 : Nat) ∉ _ from by decide)).trans rfl))))))] at h8; show (st_16 11 w9 d9).toInt = _; rw [h8]; by_cases h7 : (st 0 0 10).toInt ≤ (d9 : Int); rw [if_pos ⟨by omega, h7⟩, if_pos h7]; rw [if_neg (fun h6 => h7 h6.2), if_neg h7])⟩), (by have hq0 : (st_17 1 0 1).toInt = 0 := (congrArg Int32.toInt (((n_17.2 1 0 1 (show (101 : Nat) ∉ _ from by decide)).trans ((n_16.2 1 0 1 (show (101 : Nat) ∉ _ from by decide)).trans (((congrFun (congrFun (congrFun est_12 1) 0) 1).trans (congrFun (congrFun (gU_k (by decide)) 0) 1)).trans (((congrFun (congrFun (congrFun est_11 1) 0) 1).trans (congrFun (congrFun (gU_k (by decide)) 0) 1)).trans (((congrFun (congrFun (congrFun est_8 1) 0) 1).trans (congrFun (congrFun (gU_k (by decide)) 0) 1)).trans ((congrFun (congrFun (congrFun est_5 1) 0) 1).trans (gU_same _ _ _ _ _))))))))).trans (by decide); omega)⟩ (by exact Nat.le_refl _) (by exact Nat.le_refl _) dX9_rights_96
  · skip
    refine lv_istore_n (lv' := [(1, .int 0), (0, .ref (ad 0 0))]) hx hb dX9_rights_18 rfl hl (by decide) rfl (fun ls hl => ?_)
    refine lv_aload_n hx hb dX9_rights_19 rfl (lv_at hl 1 rfl) ?_
    refine gs_get (C := RX9) (T := TX9) (N := 12) hx hb hts inX9 hown hK hM 0 0 0 (by decide) rfl rfl (by decide) (hts _ gm_291) (fun _ h9 => h9) rfl dX9_rights_20 ?_
    refine lv_iconst (v := 0) hx hb dX9_rights_23 (by decide) ?_
    refine gs_putN (host := "WellCourt") (C := RX8) (T := TX8) (N := 2) (ty := .int) (val := .int 0) hx hb hts inX8 tyX8 tyX8_ok nmX8 hown hK hI hm hM hS 1 0 1 (by decide) rfl rfl (by decide) (va_Nw.use rfl (hov.2.2 _ gn_40)) (fun _ h9 => h9) rfl (0 : Int32) rfl (by decide +kernel) rfl rfl (Nat.le_of_ble_eq_true rfl) dX9_rights_24 (fun st_21 H locs est_21 hM hS => ?_)
    have hB_st_21 : gBN bX kX [7, 8, 11, 101, 301, 302, 303, 304, 305, 1100, 1500, 2500, 2505, 2509, 2700, 2800, 2900, 3000, 3100, 3200, 3300, 3400, 3500, 3600, 3700] st st_21 := by rw [est_21]; exact hB_st_4.up (show (101 : Nat) ∈ _ from by decide) (show (0 : Int) ≤ ((0 : Int32)).toInt from by decide) (show ((0 : Int32)).toInt ≤ (800 : Int) from by decide)
    refine lv_aload_n hx hb dX9_rights_27 rfl (lv_at hl 1 rfl) ?_
    refine lv_aload_n hx hb dX9_rights_28 rfl (lv_at hl 1 rfl) ?_
    refine gs_get (C := RX9) (T := TX9) (N := 12) hx hb hts inX9 hown hK hM 0 0 1 (by decide) rfl rfl (by decide) (hts _ gm_292) (fun _ h9 => h9) rfl dX9_rights_29 ?_
    refine gs_getN (host := "WellCourt") (C := RX7) (T := TX7) (N := 6) hx hb hts inX7 hown hK hM 3 0 4 (by decide) rfl rfl (by decide) (va_Nw.use rfl (hov.2.2 _ gn_58)) (fun _ h9 => h9) rfl dX9_rights_32 ?_
    refine lv_topi (fun x_22 ex_22 => ?_)
    have ex_22 : (st_4 3 0 4) = x_22 := Eq.symm (ex_22.trans ((congrFun (congrFun (congrFun est_21 3) 0) 4).trans (congrFun (congrFun (gU_k (by decide)) 0) 4)))
    subst ex_22
    refine gs_put (C := RX9) (T := TX9) (N := 12) (ty := .int) (val := .int (st_4 3 0 4)) hx hb hts inX9 tyX9 tyX9_ok nmX9 hown hK hI hm hM hS 0 0 11 (by decide) rfl rfl (by decide) (hts _ gm_302) (fun _ h9 => h9) rfl ((st_4 3 0 4) : Int32) rfl (by decide +kernel) rfl rfl (Nat.le_of_ble_eq_true rfl) dX9_rights_35 (fun st_24 H locs est_24 hM hS => ?_)
    have hB_st_24 : gBN bX kX [7, 8, 11, 101, 301, 302, 303, 304, 305, 1100, 1500, 2500, 2505, 2509, 2700, 2800, 2900, 3000, 3100, 3200, 3300, 3400, 3500, 3600, 3700] st st_24 := by rw [est_24]; exact hB_st_21.up (show (11 : Nat) ∈ _ from by decide) (gi_lo _) (gi_hi _)
    refine lv_iload_n hx hb dX9_rights_38 rfl (lv_at hl 0 rfl) ?_
    refine lv_if_ne (tgt := 52) hx hb dX9_rights_39 (by decide) (fun h9 => absurd (by decide) h9) (fun _ => ?_)
    refine lv_iconst (v := (-1)) hx hb dX9_rights_42 (by decide) ?_
    refine lv_aload_n hx hb dX9_rights_43 rfl (lv_at hl 1 rfl) ?_
    refine gs_get (C := RX9) (T := TX9) (N := 12) hx hb hts inX9 hown hK hM 0 0 1 (by decide) rfl rfl (by decide) (hts _ gm_292) (fun _ h9 => h9) rfl dX9_rights_44 ?_
    refine gs_getN (host := "WellCourt") (C := RX7) (T := TX7) (N := 6) hx hb hts inX7 hown hK hM 3 0 5 (by decide) rfl rfl (by decide) (va_Nw.use rfl (hov.2.2 _ gn_60)) (fun _ h9 => h9) rfl dX9_rights_47 ?_
    refine lv_topi (fun x_25 ex_25 => ?_)
    have ex_25 : (st_4 3 0 5) = x_25 := Eq.symm (ex_25.trans (((congrFun (congrFun (congrFun est_24 3) 0) 5).trans (congrFun (congrFun (gU_k (by decide)) 0) 5)).trans ((congrFun (congrFun (congrFun est_21 3) 0) 5).trans (congrFun (congrFun (gU_k (by decide)) 0) 5))))
    subst ex_25
    refine lv_isub hx hb dX9_rights_50 ?_
    refine lv_topi (fun x_27 ex_27 => ?_)
    exact gs_iret hx hb hr hlocks hM hS rfl ⟨hB_st_24, (Or.inr ⟨hw_4_0, (by rw [show st_24 0 0 7 = st 0 0 7 from (((congrFun (congrFun (congrFun est_24 0) 0) 7).trans (gU_other (by decide))).trans (((congrFun (congrFun (congrFun est_21 0) 0) 7).trans (congrFun (congrFun (gU_k (by decide)) 0) 7)).trans ((n_4.2 0 0 7 (show (7 : Nat) ∉ _ from by decide)).trans (n_2.2 0 0 7 (show (7 : Nat) ∉ _ from by decide)))))]; exact (LXa.upk (LXa.upk (LXa.oth (LXa.oth hLa hw_2_1 (by have c7 := gs_cl (x := st 0 0 7) (by omega); have c8 := gs_cl (x := st 0 0 8) (by omega); omega)) hw_4_1 (by rw [show st_2 0 0 8 = st 0 0 8 from (n_2.2 0 0 8 (show (8 : Nat) ∉ _ from by decide))]; have c7 := gs_cl (x := st 0 0 7) (by omega); have c8 := gs_cl (x := st 0 0 8) (by omega); omega)) est_21 (by decide)) est_24 (by decide))), congrArg Int32.toInt (((congrFun (congrFun (congrFun est_24 0) 0) 7).trans (gU_other (by decide))).trans (((congrFun (congrFun (congrFun est_21 0) 0) 7).trans (congrFun (congrFun (gU_k (by decide)) 0) 7)).trans ((n_4.2 0 0 7 (show (7 : Nat) ∉ _ from by decide)).trans (n_2.2 0 0 7 (show (7 : Nat) ∉ _ from by decide))))), congrArg Int32.toInt (((congrFun (congrFun (congrFun est_24 0) 0) 8).trans (gU_other (by decide))).trans (((congrFun (congrFun (congrFun est_21 0) 0) 8).trans (congrFun (congrFun (gU_k (by decide)) 0) 8)).trans ((n_4.2 0 0 8 (show (8 : Nat) ∉ _ from by decide)).trans (n_2.2 0 0 8 (show (8 : Nat) ∉ _ from by decide))))), (((congrFun est_24 11).trans (gU_k (by decide))).trans (((congrFun est_21 11).trans (gU_k (by decide))).trans ((funext fun i9 => funext fun j9 => n_4.2 11 i9 j9 (show (1100 : Nat) ∉ _ from by decide)).trans ((funext fun i9 => funext fun j9 => n_2.2 11 i9 j9 (show (1100 : Nat) ∉ _ from by decide)).trans rfl)))), (((congrFun est_24 15).trans (gU_k (by decide))).trans (((congrFun est_21 15).trans (gU_k (by decide))).trans ((funext fun i9 => funext fun j9 => n_4.2 15 i9 j9 (show (1500 : Nat) ∉ _ from by decide)).trans ((funext fun i9 => funext fun j9 => n_2.2 15 i9 j9 (show (1500 : Nat) ∉ _ from by decide)).trans rfl))))⟩), (by have hq0 : (st_24 1 0 1).toInt = 0 := (congrArg Int32.toInt ((((congrFun (congrFun (congrFun est_24 1) 0) 1).trans (congrFun (congrFun (gU_k (by decide)) 0) 1)).trans ((congrFun (congrFun (congrFun est_21 1) 0) 1).trans (gU_same _ _ _ _ _))))).trans (by decide); omega)⟩ (by exact Nat.le_refl _) (by exact Nat.le_refl _) dX9_rights_51

set_option maxHeartbeats 4000000 in
set_option maxRecDepth 100000 in
/-- WellCourt.fault -/
theorem s_fault (l : Launch) (G : va_G) (cy : Nat → ClassId) (sK sV : Nat → Nat) (ad : Nat → Nat → Nat) (sz : Nat) (st : gS) (hB : gBd bX st) : gsMi l yX9_fault cX9_fault 1 (some .int) ({ frames := 0, cells := 0, slots := 0, locals := 0 } : Room) G cy sK sV (shX cy ad) cnX ad sz [.ref (ad 0 0)] st (fun (r : Int32) (u : gS) => gBN bX kX [] st u ∧ (True)) := by
  refine gs_start (fun A => gsQi G (shX cy ad) cnX ad _ A) (by decide) (Nat.le_of_ble_eq_true rfl) ?_
  intro p e s m below meth c A ls H hx hb hr hml hlocks hown hts hK hov hE hI hM hm hS hA hl
  have hl : lv_has ls 1 [(0, .ref (ad 0 0))] := hl
  have hB_st : gBN bX kX [] st st := gBN.rf hB
  refine lv_aload_n hx hb dX9_fault_0 rfl (lv_at hl 0 rfl) ?_
  refine gs_get (C := RX9) (T := TX9) (N := 12) hx hb hts inX9 hown hK hM 0 0 11 (by decide) rfl rfl (by decide) (hts _ gm_302) (fun _ h9 => h9) rfl dX9_fault_1 ?_
  exact gs_iret hx hb hr hlocks hM hS rfl ⟨hB_st, trivial⟩ (by exact Nat.le_refl _) (by exact Nat.le_refl _) dX9_fault_4
