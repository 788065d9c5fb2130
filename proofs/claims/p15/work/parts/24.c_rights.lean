theorem gm_1114 : (Jvm.Cond.methodLink "WellCourtModel" (207 : Nat) ({ cls := "WellCourtModel", name := "rule", desc := "()Z" } : Jvm.MethodName)) ∈ gz_T := gz_at 1114 (by decide +kernel) rfl
theorem gm_1116 : (Jvm.Cond.instanceMethod ({ cls := "WellCourtModel", name := "rule", desc := "()Z" } : Jvm.MethodName)) ∈ gz_T := gz_at 1116 (by decide +kernel) rfl
theorem gm_1117 : (Jvm.Cond.code ({ cls := "WellCourtModel", name := "rule", desc := "()Z" } : Jvm.MethodName) prog_12_method_20_code (4 : Nat) (Option.some Jvm.ClassFile.FieldType.boolean)) ∈ gz_T := gz_at 1117 (by decide +kernel) rfl
theorem gm_1177 : (Jvm.Cond.methodLink "WellCourtModel" (216 : Nat) ({ cls := "WellCourtModel", name := "byTurns", desc := "(II)I" } : Jvm.MethodName)) ∈ gz_T := gz_at 1177 (by decide +kernel) rfl
theorem gm_1179 : (Jvm.Cond.instanceMethod ({ cls := "WellCourtModel", name := "byTurns", desc := "(II)I" } : Jvm.MethodName)) ∈ gz_T := gz_at 1179 (by decide +kernel) rfl
theorem gm_1180 : (Jvm.Cond.code ({ cls := "WellCourtModel", name := "byTurns", desc := "(II)I" } : Jvm.MethodName) prog_12_method_27_code (7 : Nat) (Option.some Jvm.ClassFile.FieldType.int)) ∈ gz_T := gz_at 1180 (by decide +kernel) rfl
theorem gm_1181 : (Jvm.Cond.methodLink "WellCourtModel" (220 : Nat) ({ cls := "WellCourtModel", name := "droughts", desc := "()V" } : Jvm.MethodName)) ∈ gz_T := gz_at 1181 (by decide +kernel) rfl
theorem gm_1183 : (Jvm.Cond.instanceMethod ({ cls := "WellCourtModel", name := "droughts", desc := "()V" } : Jvm.MethodName)) ∈ gz_T := gz_at 1183 (by decide +kernel) rfl
theorem gm_1184 : (Jvm.Cond.code ({ cls := "WellCourtModel", name := "droughts", desc := "()V" } : Jvm.MethodName) prog_12_method_29_code (3 : Nat) (Option.none : Option Jvm.ClassFile.FieldType)) ∈ gz_T := gz_at 1184 (by decide +kernel) rfl
theorem gs_34 : (Jvm.Cond.selects "WellCourtModel" ({ cls := "WellCourtModel", name := "rule", desc := "()Z" } : Jvm.MethodName) ({ cls := "WellCourtModel", name := "rule", desc := "()Z" } : Jvm.MethodName)) ∈ gz_T := gz_sel 34 (by decide +kernel) rfl
theorem gs_47 : (Jvm.Cond.selects "WellCourtModel" ({ cls := "WellCourtModel", name := "byTurns", desc := "(II)I" } : Jvm.MethodName) ({ cls := "WellCourtModel", name := "byTurns", desc := "(II)I" } : Jvm.MethodName)) ∈ gz_T := gz_sel 47 (by decide +kernel) rfl
theorem gs_48 : (Jvm.Cond.selects "WellCourtModel" ({ cls := "WellCourtModel", name := "droughts", desc := "()V" } : Jvm.MethodName) ({ cls := "WellCourtModel", name := "droughts", desc := "()V" } : Jvm.MethodName)) ∈ gz_T := gz_sel 48 (by decide +kernel) rfl
theorem dX10_rights_0 : decode cX10_rights 0 = .ok (.aload_n 0, 1) := by decide +kernel
theorem dX10_rights_1 : decode cX10_rights 1 = .ok (.iconst 0, 1) := by decide +kernel
theorem dX10_rights_2 : decode cX10_rights 2 = .ok (.putfield 1, 3) := by decide +kernel
theorem dX10_rights_5 : decode cX10_rights 5 = .ok (.aload_n 0, 1) := by decide +kernel
theorem dX10_rights_6 : decode cX10_rights 6 = .ok (.aload_n 0, 1) := by decide +kernel
theorem dX10_rights_7 : decode cX10_rights 7 = .ok (.getfield 133, 3) := by decide +kernel
theorem dX10_rights_10 : decode cX10_rights 10 = .ok (.putfield 143, 3) := by decide +kernel
theorem dX10_rights_13 : decode cX10_rights 13 = .ok (.aload_n 0, 1) := by decide +kernel
theorem dX10_rights_14 : decode cX10_rights 14 = .ok (.iconst 0, 1) := by decide +kernel
theorem dX10_rights_15 : decode cX10_rights 15 = .ok (.putfield 133, 3) := by decide +kernel
theorem dX10_rights_18 : decode cX10_rights 18 = .ok (.aload_n 0, 1) := by decide +kernel
theorem dX10_rights_19 : decode cX10_rights 19 = .ok (.iconst 0, 1) := by decide +kernel
theorem dX10_rights_20 : decode cX10_rights 20 = .ok (.putfield 140, 3) := by decide +kernel
theorem dX10_rights_23 : decode cX10_rights 23 = .ok (.aload_n 0, 1) := by decide +kernel
theorem dX10_rights_24 : decode cX10_rights 24 = .ok (.iconst 0, 1) := by decide +kernel
theorem dX10_rights_25 : decode cX10_rights 25 = .ok (.putfield 170, 3) := by decide +kernel
theorem dX10_rights_28 : decode cX10_rights 28 = .ok (.aload_n 0, 1) := by decide +kernel
theorem dX10_rights_29 : decode cX10_rights 29 = .ok (.getfield 201, 3) := by decide +kernel
theorem dX10_rights_32 : decode cX10_rights 32 = .ok (.istore_n 1, 1) := by decide +kernel
theorem dX10_rights_33 : decode cX10_rights 33 = .ok (.aload_n 0, 1) := by decide +kernel
theorem dX10_rights_34 : decode cX10_rights 34 = .ok (.iconst 1, 1) := by decide +kernel
theorem dX10_rights_35 : decode cX10_rights 35 = .ok (.aload_n 0, 1) := by decide +kernel
theorem dX10_rights_36 : decode cX10_rights 36 = .ok (.getfield 201, 3) := by decide +kernel
theorem dX10_rights_39 : decode cX10_rights 39 = .ok (.isub, 1) := by decide +kernel
theorem dX10_rights_40 : decode cX10_rights 40 = .ok (.putfield 201, 3) := by decide +kernel
theorem dX10_rights_43 : decode cX10_rights 43 = .ok (.aload_n 0, 1) := by decide +kernel
theorem dX10_rights_44 : decode cX10_rights 44 = .ok (.iconst 0, 1) := by decide +kernel
theorem dX10_rights_45 : decode cX10_rights 45 = .ok (.putfield 204, 3) := by decide +kernel
theorem dX10_rights_48 : decode cX10_rights 48 = .ok (.aload_n 0, 1) := by decide +kernel
theorem dX10_rights_49 : decode cX10_rights 49 = .ok (.invokevirtual 184, 3) := by decide +kernel
theorem dX10_rights_52 : decode cX10_rights 52 = .ok (.iconst 1, 1) := by decide +kernel
theorem dX10_rights_53 : decode cX10_rights 53 = .ok (.istore_n 2, 1) := by decide +kernel
theorem dX10_rights_54 : decode cX10_rights 54 = .ok (.iload_n 2, 1) := by decide +kernel
theorem dX10_rights_55 : decode cX10_rights 55 = .ok (.ifCond .eq 18, 3) := by decide +kernel
theorem dX10_rights_58 : decode cX10_rights 58 = .ok (.aload_n 0, 1) := by decide +kernel
theorem dX10_rights_59 : decode cX10_rights 59 = .ok (.getfield 153, 3) := by decide +kernel
theorem dX10_rights_62 : decode cX10_rights 62 = .ok (.ifCond .eq 11, 3) := by decide +kernel
theorem dX10_rights_65 : decode cX10_rights 65 = .ok (.aload_n 0, 1) := by decide +kernel
theorem dX10_rights_66 : decode cX10_rights 66 = .ok (.invokevirtual 207, 3) := by decide +kernel
theorem dX10_rights_69 : decode cX10_rights 69 = .ok (.istore_n 2, 1) := by decide +kernel
theorem dX10_rights_70 : decode cX10_rights 70 = .ok (.goto (-16), 3) := by decide +kernel
theorem dX10_rights_73 : decode cX10_rights 73 = .ok (.iload_n 2, 1) := by decide +kernel
theorem dX10_rights_74 : decode cX10_rights 74 = .ok (.ifCond .ne 15, 3) := by decide +kernel
theorem dX10_rights_77 : decode cX10_rights 77 = .ok (.aload_n 0, 1) := by decide +kernel
theorem dX10_rights_78 : decode cX10_rights 78 = .ok (.iload_n 1, 1) := by decide +kernel
theorem dX10_rights_79 : decode cX10_rights 79 = .ok (.putfield 201, 3) := by decide +kernel
theorem dX10_rights_82 : decode cX10_rights 82 = .ok (.iconst (-1), 1) := by decide +kernel
theorem dX10_rights_83 : decode cX10_rights 83 = .ok (.aload_n 0, 1) := by decide +kernel
theorem dX10_rights_84 : decode cX10_rights 84 = .ok (.getfield 173, 3) := by decide +kernel
theorem dX10_rights_87 : decode cX10_rights 87 = .ok (.isub, 1) := by decide +kernel
theorem dX10_rights_88 : decode cX10_rights 88 = .ok (.ireturn, 1) := by decide +kernel
theorem dX10_rights_89 : decode cX10_rights 89 = .ok (.aload_n 0, 1) := by decide +kernel
theorem dX10_rights_90 : decode cX10_rights 90 = .ok (.aload_n 0, 1) := by decide +kernel
theorem dX10_rights_91 : decode cX10_rights 91 = .ok (.getfield 204, 3) := by decide +kernel
theorem dX10_rights_94 : decode cX10_rights 94 = .ok (.putfield 210, 3) := by decide +kernel
theorem dX10_rights_97 : decode cX10_rights 97 = .ok (.iconst 0, 1) := by decide +kernel
theorem dX10_rights_98 : decode cX10_rights 98 = .ok (.istore_n 3, 1) := by decide +kernel
theorem dX10_rights_99 : decode cX10_rights 99 = .ok (.iload_n 3, 1) := by decide +kernel
theorem dX10_rights_100 : decode cX10_rights 100 = .ok (.bipush 6, 2) := by decide +kernel
theorem dX10_rights_102 : decode cX10_rights 102 = .ok (.if_icmp .ge 49, 3) := by decide +kernel
theorem dX10_rights_105 : decode cX10_rights 105 = .ok (.aload_n 0, 1) := by decide +kernel
theorem dX10_rights_106 : decode cX10_rights 106 = .ok (.getfield 213, 3) := by decide +kernel
theorem dX10_rights_109 : decode cX10_rights 109 = .ok (.istore 4, 2) := by decide +kernel
theorem dX10_rights_111 : decode cX10_rights 111 = .ok (.iload 4, 2) := by decide +kernel
theorem dX10_rights_113 : decode cX10_rights 113 = .ok (.sipush 199, 3) := by decide +kernel
theorem dX10_rights_116 : decode cX10_rights 116 = .ok (.if_icmp .gt 29, 3) := by decide +kernel
theorem dX10_rights_119 : decode cX10_rights 119 = .ok (.aload_n 0, 1) := by decide +kernel
theorem dX10_rights_120 : decode cX10_rights 120 = .ok (.getfield 30, 3) := by decide +kernel
theorem dX10_rights_123 : decode cX10_rights 123 = .ok (.sipush 200, 3) := by decide +kernel
theorem dX10_rights_126 : decode cX10_rights 126 = .ok (.iload_n 3, 1) := by decide +kernel
theorem dX10_rights_127 : decode cX10_rights 127 = .ok (.imul, 1) := by decide +kernel
theorem dX10_rights_128 : decode cX10_rights 128 = .ok (.iload 4, 2) := by decide +kernel
theorem dX10_rights_130 : decode cX10_rights 130 = .ok (.iadd, 1) := by decide +kernel
theorem dX10_rights_131 : decode cX10_rights 131 = .ok (.aload_n 0, 1) := by decide +kernel
theorem dX10_rights_132 : decode cX10_rights 132 = .ok (.iload_n 3, 1) := by decide +kernel
theorem dX10_rights_133 : decode cX10_rights 133 = .ok (.iload 4, 2) := by decide +kernel
theorem dX10_rights_135 : decode cX10_rights 135 = .ok (.invokevirtual 216, 3) := by decide +kernel
theorem dX10_rights_138 : decode cX10_rights 138 = .ok (.iastore, 1) := by decide +kernel
theorem dX10_rights_139 : decode cX10_rights 139 = .ok (.iinc 4 1, 3) := by decide +kernel
theorem dX10_rights_142 : decode cX10_rights 142 = .ok (.goto (-31), 3) := by decide +kernel
theorem dX10_rights_145 : decode cX10_rights 145 = .ok (.iinc 3 1, 3) := by decide +kernel
theorem dX10_rights_148 : decode cX10_rights 148 = .ok (.goto (-49), 3) := by decide +kernel
theorem dX10_rights_151 : decode cX10_rights 151 = .ok (.aload_n 0, 1) := by decide +kernel
theorem dX10_rights_152 : decode cX10_rights 152 = .ok (.invokevirtual 220, 3) := by decide +kernel
theorem dX10_rights_155 : decode cX10_rights 155 = .ok (.aload_n 0, 1) := by decide +kernel
theorem dX10_rights_156 : decode cX10_rights 156 = .ok (.getfield 210, 3) := by decide +kernel
theorem dX10_rights_159 : decode cX10_rights 159 = .ok (.ireturn, 1) := by decide +kernel
set_option maxHeartbeats 4000000 in
set_option maxRecDepth 100000 in
/-- WellCourtModel.rights -/
theorem m_rights (l : Launch) (G : va_G) (cy : Nat → ClassId) (sK sV : Nat → Nat) (ad : Nat → Nat → Nat) (sz : Nat) (st : gS) (hB : gBd bM st) (F : Nat → Int32) (N : Int) (hF : st 7 0 = F) (hN9 : (st 0 0 9).toInt = N) (b0 : Nat) (hb0 : (st 0 0 28).toInt = (b0 : Int)) (ro : List Rl) (hLO : LM ro st b0) (hwo : ∀ r ∈ ro, wfR r) (hlo : (st 0 0 29).toInt = (ro.length : Int)) : gsMi l yX10_rights cX10_rights 5 (some .int) ({ frames := 5, cells := 0, slots := 0, locals := 113 } : Room) G cy sK sV (shM cy ad) cnM ad sz [.ref (ad 0 0)] st (fun (r : Int32) (u : gS) => gBN bM kM [0, 9, 10, 11, 12, 13, 14, 15, 16, 17, 18, 19, 28, 29, 30, 59, 600, 800, 900, 1000, 1100, 1200, 1300, 1400, 1500] st u ∧ (((∃ rs : List Rl, pText F N (mLex F N) 20 [] 0 = some rs ∧ LM rs u (1 - b0) ∧ (∀ r ∈ rs, wfR r) ∧ unT rs ∧ (u 0 0 28).toInt = 1 - (st 0 0 28).toInt ∧ (u 0 0 29).toInt = (rs.length : Int) ∧ ∃ mid : Nat → Int32, ownL rs (st 6 0) mid (st 0 0 7).toInt 6 (st 0 0 7).toInt ∧ drL rs mid (u 6 0) (st 1 0) (st 5 0) (st 0 0 7).toInt 6) ∨ (pText F N (mLex F N) 20 [] 0 = none ∧ LM ro u b0 ∧ (u 0 0 28).toInt = (st 0 0 28).toInt ∧ (u 0 0 29).toInt = (st 0 0 29).toInt ∧ u 6 0 = st 6 0)) ∧ ((u 0 0 9).toInt = 0))) := by
  refine gs_start (fun A => gsQi G (shM cy ad) cnM ad _ A) (by decide) (Nat.le_of_ble_eq_true rfl) ?_
  intro p e s m below meth c A ls H hx hb hr hml hlocks hown hts hK hov hE hI hM hm hS hA hl
  have hl : lv_has ls 5 [(0, .ref (ad 0 0))] := hl
  have hB_st : gBN bM kM [0, 9, 10, 11, 12, 13, 14, 15, 16, 17, 18, 19, 28, 29, 30, 59, 600, 800, 900, 1000, 1100, 1200, 1300, 1400, 1500] st st := gBN.rf hB
  have bb1 : (0 : Int) ≤ (st 0 0 28).toInt ∧ (st 0 0 28).toInt ≤ (1 : Int) := hB 0 0 28
  have bb3 : (0 : Int) ≤ (st 0 0 30).toInt ∧ (st 0 0 30).toInt ≤ (20 : Int) := hB 0 0 30
  have bb2 : (0 : Int) ≤ (st 0 0 29).toInt ∧ (st 0 0 29).toInt ≤ (20 : Int) := hB 0 0 29
  have bb4 : (0 : Int) ≤ (st 0 0 7).toInt ∧ (st 0 0 7).toInt ≤ (199 : Int) := hB 0 0 7
  generalize hQe : MQ below _ _ s _ _ A = Q
  refine lv_aload_n hx hb dX10_rights_0 rfl (lv_at hl 0 rfl) ?_
  refine lv_iconst (v := 0) hx hb dX10_rights_1 (by decide) ?_
  refine gs_put (C := RX10) (T := TX10) (N := 59) (ty := .int) (val := .int 0) hx hb hts inX10 tyX10 tyX10_ok nmX10 hown hK hI hm hM hS 0 0 0 (by decide) rfl rfl (by decide) (hts _ gm_901) (fun _ h9 => h9) rfl (0 : Int32) rfl (by decide +kernel) rfl rfl (Nat.le_of_ble_eq_true rfl) dX10_rights_2 (fun st_1 H locs est_1 hM hS => ?_)
  have hB_st_1 : gBN bM kM [0, 9, 10, 11, 12, 13, 14, 15, 16, 17, 18, 19, 28, 29, 30, 59, 600, 800, 900, 1000, 1100, 1200, 1300, 1400, 1500] st st_1 := by rw [est_1]; exact hB_st.up (show (0 : Nat) ∈ _ from by decide) (gi_lo _) (gi_hi _)
  refine lv_aload_n hx hb dX10_rights_5 rfl (lv_at hl 0 rfl) ?_
  refine lv_aload_n hx hb dX10_rights_6 rfl (lv_at hl 0 rfl) ?_
  refine gs_get (C := RX10) (T := TX10) (N := 59) hx hb hts inX10 hown hK hM 0 0 9 (by decide) rfl rfl (by decide) (hts _ gm_910) (fun _ h9 => h9) rfl dX10_rights_7 ?_
  refine lv_topi (fun x_2 ex_2 => ?_)
  have ex_2 : (st 0 0 9) = x_2 := Eq.symm (ex_2.trans ((congrFun (congrFun (congrFun est_1 0) 0) 9).trans (gU_other (by decide))))
  subst ex_2
  have bf_3 : (0 : Int) ≤ (st 0 0 9).toInt ∧ (st 0 0 9).toInt ≤ (800 : Int) := hB_st.1 0 0 9
  refine gs_put (C := RX10) (T := TX10) (N := 59) (ty := .int) (val := .int (st 0 0 9)) hx hb hts inX10 tyX10 tyX10_ok nmX10 hown hK hI hm hM hS 0 0 10 (by decide) rfl rfl (by decide) (hts _ gm_911) (fun _ h9 => h9) rfl ((st 0 0 9) : Int32) rfl (by decide +kernel) rfl rfl (Nat.le_of_ble_eq_true rfl) dX10_rights_10 (fun st_4 H locs est_4 hM hS => ?_)
  have hB_st_4 : gBN bM kM [0, 9, 10, 11, 12, 13, 14, 15, 16, 17, 18, 19, 28, 29, 30, 59, 600, 800, 900, 1000, 1100, 1200, 1300, 1400, 1500] st st_4 := by rw [est_4]; exact hB_st_1.up (show (10 : Nat) ∈ _ from by decide) (show (0 : Int) ≤ (st 0 0 9).toInt from by omega) (show (st 0 0 9).toInt ≤ (800 : Int) from by omega)
  refine lv_aload_n hx hb dX10_rights_13 rfl (lv_at hl 0 rfl) ?_
  refine lv_iconst (v := 0) hx hb dX10_rights_14 (by decide) ?_
  refine gs_put (C := RX10) (T := TX10) (N := 59) (ty := .int) (val := .int 0) hx hb hts inX10 tyX10 tyX10_ok nmX10 hown hK hI hm hM hS 0 0 9 (by decide) rfl rfl (by decide) (hts _ gm_910) (fun _ h9 => h9) rfl (0 : Int32) rfl (by decide +kernel) rfl rfl (Nat.le_of_ble_eq_true rfl) dX10_rights_15 (fun st_5 H locs est_5 hM hS => ?_)
  have hB_st_5 : gBN bM kM [0, 9, 10, 11, 12, 13, 14, 15, 16, 17, 18, 19, 28, 29, 30, 59, 600, 800, 900, 1000, 1100, 1200, 1300, 1400, 1500] st st_5 := by rw [est_5]; exact hB_st_4.up (show (9 : Nat) ∈ _ from by decide) (show (0 : Int) ≤ ((0 : Int32)).toInt from by decide) (show ((0 : Int32)).toInt ≤ (800 : Int) from by decide)
  refine lv_aload_n hx hb dX10_rights_18 rfl (lv_at hl 0 rfl) ?_
  refine lv_iconst (v := 0) hx hb dX10_rights_19 (by decide) ?_
  refine gs_put (C := RX10) (T := TX10) (N := 59) (ty := .int) (val := .int 0) hx hb hts inX10 tyX10 tyX10_ok nmX10 hown hK hI hm hM hS 0 0 11 (by decide) rfl rfl (by decide) (hts _ gm_912) (fun _ h9 => h9) rfl (0 : Int32) rfl (by decide +kernel) rfl rfl (Nat.le_of_ble_eq_true rfl) dX10_rights_20 (fun st_6 H locs est_6 hM hS => ?_)
  have hB_st_6 : gBN bM kM [0, 9, 10, 11, 12, 13, 14, 15, 16, 17, 18, 19, 28, 29, 30, 59, 600, 800, 900, 1000, 1100, 1200, 1300, 1400, 1500] st st_6 := by rw [est_6]; exact hB_st_5.up (show (11 : Nat) ∈ _ from by decide) (show (0 : Int) ≤ ((0 : Int32)).toInt from by decide) (show ((0 : Int32)).toInt ≤ (800 : Int) from by decide)
  refine lv_aload_n hx hb dX10_rights_23 rfl (lv_at hl 0 rfl) ?_
  refine lv_iconst (v := 0) hx hb dX10_rights_24 (by decide) ?_
  refine gs_put (C := RX10) (T := TX10) (N := 59) (ty := .int) (val := .int 0) hx hb hts inX10 tyX10 tyX10_ok nmX10 hown hK hI hm hM hS 0 0 15 (by decide) rfl rfl (by decide) (hts _ gm_916) (fun _ h9 => h9) rfl (0 : Int32) rfl (by decide +kernel) rfl rfl (Nat.le_of_ble_eq_true rfl) dX10_rights_25 (fun st_7 H locs est_7 hM hS => ?_)
  have hB_st_7 : gBN bM kM [0, 9, 10, 11, 12, 13, 14, 15, 16, 17, 18, 19, 28, 29, 30, 59, 600, 800, 900, 1000, 1100, 1200, 1300, 1400, 1500] st st_7 := by rw [est_7]; exact hB_st_6.up (show (15 : Nat) ∈ _ from by decide) (gi_lo _) (gi_hi _)
  refine lv_aload_n hx hb dX10_rights_28 rfl (lv_at hl 0 rfl) ?_
  refine gs_get (C := RX10) (T := TX10) (N := 59) hx hb hts inX10 hown hK hM 0 0 28 (by decide) rfl rfl (by decide) (hts _ gm_929) (fun _ h9 => h9) rfl dX10_rights_29 ?_
  refine lv_topi (fun x_8 ex_8 => ?_)
  have ex_8 : (st 0 0 28) = x_8 := Eq.symm (ex_8.trans (((congrFun (congrFun (congrFun est_7 0) 0) 28).trans (gU_other (by decide))).trans (((congrFun (congrFun (congrFun est_6 0) 0) 28).trans (gU_other (by decide))).trans (((congrFun (congrFun (congrFun est_5 0) 0) 28).trans (gU_other (by decide))).trans (((congrFun (congrFun (congrFun est_4 0) 0) 28).trans (gU_other (by decide))).trans ((congrFun (congrFun (congrFun est_1 0) 0) 28).trans (gU_other (by decide))))))))
  subst ex_8
  have bf_9 : (0 : Int) ≤ (st 0 0 28).toInt ∧ (st 0 0 28).toInt ≤ (1 : Int) := hB_st.1 0 0 28
  refine lv_istore_n (lv' := [(1, .int (st 0 0 28)), (0, .ref (ad 0 0))]) hx hb dX10_rights_32 rfl hl (by decide) rfl (fun ls hl => ?_)
  refine lv_aload_n hx hb dX10_rights_33 rfl (lv_at hl 1 rfl) ?_
  refine lv_iconst (v := 1) hx hb dX10_rights_34 (by decide) ?_
  refine lv_aload_n hx hb dX10_rights_35 rfl (lv_at hl 1 rfl) ?_
  refine gs_get (C := RX10) (T := TX10) (N := 59) hx hb hts inX10 hown hK hM 0 0 28 (by decide) rfl rfl (by decide) (hts _ gm_929) (fun _ h9 => h9) rfl dX10_rights_36 ?_
  refine lv_topi (fun x_10 ex_10 => ?_)
  have ex_10 : (st 0 0 28) = x_10 := Eq.symm (ex_10.trans (((congrFun (congrFun (congrFun est_7 0) 0) 28).trans (gU_other (by decide))).trans (((congrFun (congrFun (congrFun est_6 0) 0) 28).trans (gU_other (by decide))).trans (((congrFun (congrFun (congrFun est_5 0) 0) 28).trans (gU_other (by decide))).trans (((congrFun (congrFun (congrFun est_4 0) 0) 28).trans (gU_other (by decide))).trans ((congrFun (congrFun (congrFun est_1 0) 0) 28).trans (gU_other (by decide))))))))
  subst ex_10
  have bf_11 : (0 : Int) ≤ (st 0 0 28).toInt ∧ (st 0 0 28).toInt ≤ (1 : Int) := hB_st.1 0 0 28
  refine lv_isub hx hb dX10_rights_39 ?_
  refine lv_topi (fun x_12 ex_12 => ?_)
  try have tx_12 : x_12.toInt = 1 - (st 0 0 28).toInt := by rw [ex_12]; exact gz_subI (x := 1) (y := (st 0 0 28).toInt) (by decide) rfl (by omega) (by omega)
  refine gs_put (C := RX10) (T := TX10) (N := 59) (ty := .int) (val := .int x_12) hx hb hts inX10 tyX10 tyX10_ok nmX10 hown hK hI hm hM hS 0 0 28 (by decide) rfl rfl (by decide) (hts _ gm_929) (fun _ h9 => h9) rfl (x_12 : Int32) rfl (by decide +kernel) rfl rfl (Nat.le_of_ble_eq_true rfl) dX10_rights_40 (fun st_13 H locs est_13 hM hS => ?_)
  have hB_st_13 : gBN bM kM [0, 9, 10, 11, 12, 13, 14, 15, 16, 17, 18, 19, 28, 29, 30, 59, 600, 800, 900, 1000, 1100, 1200, 1300, 1400, 1500] st st_13 := by rw [est_13]; exact hB_st_7.up (show (28 : Nat) ∈ _ from by decide) (show (0 : Int) ≤ x_12.toInt from by omega) (show x_12.toInt ≤ (1 : Int) from by omega)
  refine lv_aload_n hx hb dX10_rights_43 rfl (lv_at hl 1 rfl) ?_
  refine lv_iconst (v := 0) hx hb dX10_rights_44 (by decide) ?_
  refine gs_put (C := RX10) (T := TX10) (N := 59) (ty := .int) (val := .int 0) hx hb hts inX10 tyX10 tyX10_ok nmX10 hown hK hI hm hM hS 0 0 30 (by decide) rfl rfl (by decide) (hts _ gm_931) (fun _ h9 => h9) rfl (0 : Int32) rfl (by decide +kernel) rfl rfl (Nat.le_of_ble_eq_true rfl) dX10_rights_45 (fun st_14 H locs est_14 hM hS => ?_)
  have hB_st_14 : gBN bM kM [0, 9, 10, 11, 12, 13, 14, 15, 16, 17, 18, 19, 28, 29, 30, 59, 600, 800, 900, 1000, 1100, 1200, 1300, 1400, 1500] st st_14 := by rw [est_14]; exact hB_st_13.up (show (30 : Nat) ∈ _ from by decide) (show (0 : Int) ≤ ((0 : Int32)).toInt from by decide) (show ((0 : Int32)).toInt ≤ (20 : Int) from by decide)
  refine lv_aload_n hx hb dX10_rights_48 rfl (lv_at hl 1 rfl) ?_
  refine gs_callv (va_runV (As := []) (rest := []) ⟨hx, hb, hml, hown, hts⟩ (m_next0 l G cy sK sV ad H.size st_14 hB_st_14.1  F N (((congrFun (congrFun est_14 7) 0).trans ((congrFun (gU_k (by decide)) 0).trans ((congrFun (congrFun est_13 7) 0).trans ((congrFun (gU_k (by decide)) 0).trans ((congrFun (congrFun est_7 7) 0).trans ((congrFun (gU_k (by decide)) 0).trans ((congrFun (congrFun est_6 7) 0).trans ((congrFun (gU_k (by decide)) 0).trans ((congrFun (congrFun est_5 7) 0).trans ((congrFun (gU_k (by decide)) 0).trans ((congrFun (congrFun est_4 7) 0).trans ((congrFun (gU_k (by decide)) 0).trans ((congrFun (congrFun est_1 7) 0).trans ((congrFun (gU_k (by decide)) 0).trans rfl)))))))))))))).trans hF) ((congrArg Int32.toInt ((((congrFun (congrFun (congrFun est_14 0) 0) 10).trans (gU_other (by decide))).trans (((congrFun (congrFun (congrFun est_13 0) 0) 10).trans (gU_other (by decide))).trans (((congrFun (congrFun (congrFun est_7 0) 0) 10).trans (gU_other (by decide))).trans (((congrFun (congrFun (congrFun est_6 0) 0) 10).trans (gU_other (by decide))).trans (((congrFun (congrFun (congrFun est_5 0) 0) 10).trans (gU_other (by decide))).trans ((congrFun (congrFun (congrFun est_4 0) 0) 10).trans (gU_same _ _ _ _ _))))))))).trans hN9)) ⟨(gz_cb (n := 0) hts gm_1100 gm_12 gm_1103 ⟨by decide +kernel, by decide +kernel, by decide +kernel⟩ ⟨Nat.le_of_ble_eq_true rfl, Nat.le_of_ble_eq_true rfl⟩), hts _ gm_1102, hts _ gs_32⟩ (gs_preV hK hov hE hI hM hm hS hA 0 0 (by decide) rfl rfl) rfl rfl hl.1 rfl (lv_room (Nat.le_of_ble_eq_true rfl)) dX10_rights_49 ⟨Nat.le_of_ble_eq_true rfl, Nat.le_of_ble_eq_true rfl⟩) hm hS hA (fun st_15 H locs hw_15 hM hS => ?_)
  obtain ⟨n_15, hw_15⟩ := hw_15
  have hB_st_15 : gBN bM kM [0, 9, 10, 11, 12, 13, 14, 15, 16, 17, 18, 19, 28, 29, 30, 59, 600, 800, 900, 1000, 1100, 1200, 1300, 1400, 1500] st st_15 := hB_st_14.call n_15 (by decide)
  have hqhw_150 : (st_14 0 0 11).toInt = 0 := (congrArg Int32.toInt ((((congrFun (congrFun (congrFun est_14 0) 0) 11).trans (gU_other (by decide))).trans (((congrFun (congrFun (congrFun est_13 0) 0) 11).trans (gU_other (by decide))).trans (((congrFun (congrFun (congrFun est_7 0) 0) 11).trans (gU_other (by decide))).trans ((congrFun (congrFun (congrFun est_6 0) 0) 11).trans (gU_same _ _ _ _ _))))))).trans (by decide)
  have hw_15_0 := hw_15
  refine lv_iconst (v := 1) hx hb dX10_rights_52 (by decide) ?_
  refine lv_istore_n (lv' := [(2, .int 1), (1, .int (st 0 0 28)), (0, .ref (ad 0 0))]) hx hb dX10_rights_53 rfl hl (by decide) rfl (fun ls hl => ?_)
  have lp16 : ∀ (n16 : Nat) (sv16 : gS) (y16_0 : Int32) (H : Heap) (locs : List Loc) (ls : Array Slot), (21 - (sv16 0 0 30).toInt).toNat + y16_0.toInt.toNat < n16 → gBN bM kM [0, 9, 10, 11, 12, 13, 14, 15, 16, 17, 18, 19, 28, 29, 30, 59, 600, 800, 900, 1000, 1100, 1200, 1300, 1400, 1500] st sv16 → (0 ≤ y16_0.toInt) → (y16_0.toInt ≤ 1) → ((sv16 0 0 28).toInt = 1 - (st 0 0 28).toInt) → ((sv16 0 0 29).toInt = (st 0 0 29).toInt) → ((sv16 0 0 9).toInt = 0) → (txI F N (1 - b0) y16_0.toInt (sv16 0 0 30).toInt sv16) → (LM ro sv16 b0) → (sv16 6 0 = st 6 0) → ((sv16 0 0 30).toInt ≤ 20) → ((sv16 0 0 10).toInt = N) → gM G (shM cy ad) cnM ad sv16 H → va_S A s.heap H locs → lv_has ls 5 [(2, .int y16_0), (1, .int (st 0 0 28)), (0, .ref (ad 0 0))] → W p l e ({ frames := 5, cells := 0, slots := 0, locals := 113 } : Room) s m [.ref (ad 0 0)].toArray below meth c H locs 0 0 Q (F0 m 54 ls []) := by
    intro n16
    induction n16 with
    | zero => intro sv16 y16_0 H locs ls h9; exact absurd h9 (Nat.not_lt_zero _)
    | succ n16 ih_16 =>
      intro sv16 y16_0 H locs ls hme16 hB_sv16 hv16_0 hv16_1 hv16_2 hv16_3 hv16_4 hv16_5 hv16_6 hv16_7 hv16_8 hv16_9 hM hS hl
      have hb16_0 : (0 : Int) ≤ (sv16 0 0 30).toInt ∧ (sv16 0 0 30).toInt ≤ (20 : Int) := hB_sv16.1 0 0 30
      have hb16_1 : (0 : Int) ≤ (sv16 0 0 28).toInt ∧ (sv16 0 0 28).toInt ≤ (1 : Int) := hB_sv16.1 0 0 28
      have hb16_2 : (0 : Int) ≤ (st 0 0 28).toInt ∧ (st 0 0 28).toInt ≤ (1 : Int) := hB_st.1 0 0 28
      have hb16_3 : (0 : Int) ≤ (sv16 0 0 29).toInt ∧ (sv16 0 0 29).toInt ≤ (20 : Int) := hB_sv16.1 0 0 29
      have hb16_4 : (0 : Int) ≤ (st 0 0 29).toInt ∧ (st 0 0 29).toInt ≤ (20 : Int) := hB_st.1 0 0 29
      have hb16_5 : (0 : Int) ≤ (sv16 0 0 9).toInt ∧ (sv16 0 0 9).toInt ≤ (800 : Int) := hB_sv16.1 0 0 9
      have hb16_6 : (0 : Int) ≤ (sv16 0 0 10).toInt ∧ (sv16 0 0 10).toInt ≤ (800 : Int) := hB_sv16.1 0 0 10
      refine lv_iload_n hx hb dX10_rights_54 rfl (lv_at hl 0 rfl) ?_
      refine lv_if_eq (tgt := 73) hx hb dX10_rights_55 (by decide) (fun c_17 => ?_) (fun c_17 => ?_)
      · have ic_17 := gz_eq (rfl : y16_0.toInt = y16_0.toInt) (by decide : (0 : Int32).toInt = 0) c_17
        refine lv_iload_n hx hb dX10_rights_73 rfl (lv_at hl 0 rfl) ?_
        refine lv_if_ne (tgt := 89) hx hb dX10_rights_74 (by decide) (fun c_18 => ?_) (fun c_18 => ?_)
        · have ic_18 := gz_ne (rfl : y16_0.toInt = y16_0.toInt) (by decide : (0 : Int32).toInt = 0) c_18
          exfalso; omega
        · have ic_18 := gz_eqn (rfl : y16_0.toInt = y16_0.toInt) (by decide : (0 : Int32).toInt = 0) c_18
          refine lv_aload_n hx hb dX10_rights_77 rfl (lv_at hl 2 rfl) ?_
          refine lv_iload_n hx hb dX10_rights_78 rfl (lv_at hl 1 rfl) ?_
          refine gs_put (C := RX10) (T := TX10) (N := 59) (ty := .int) (val := .int (st 0 0 28)) hx hb hts inX10 tyX10 tyX10_ok nmX10 hown hK hI hm hM hS 0 0 28 (by decide) rfl rfl (by decide) (hts _ gm_929) (fun _ h9 => h9) rfl ((st 0 0 28) : Int32) rfl (by decide +kernel) rfl rfl (Nat.le_of_ble_eq_true rfl) dX10_rights_79 (fun st_19 H locs est_19 hM hS => ?_)
          have hB_st_19 : gBN bM kM [0, 9, 10, 11, 12, 13, 14, 15, 16, 17, 18, 19, 28, 29, 30, 59, 600, 800, 900, 1000, 1100, 1200, 1300, 1400, 1500] st st_19 := by rw [est_19]; exact hB_sv16.up (show (28 : Nat) ∈ _ from by decide) (show (0 : Int) ≤ (st 0 0 28).toInt from by omega) (show (st 0 0 28).toInt ≤ (1 : Int) from by omega)
          refine lv_iconst (v := (-1)) hx hb dX10_rights_82 (by decide) ?_
          refine lv_aload_n hx hb dX10_rights_83 rfl (lv_at hl 2 rfl) ?_
          refine gs_get (C := RX10) (T := TX10) (N := 59) hx hb hts inX10 hown hK hM 0 0 16 (by decide) rfl rfl (by decide) (hts _ gm_917) (fun _ h9 => h9) rfl dX10_rights_84 ?_
          refine lv_topi (fun x_20 ex_20 => ?_)
          have ex_20 : (sv16 0 0 16) = x_20 := Eq.symm (ex_20.trans ((congrFun (congrFun (congrFun est_19 0) 0) 16).trans (gU_other (by decide))))
          subst ex_20
          refine lv_isub hx hb dX10_rights_87 ?_
          refine lv_topi (fun x_22 ex_22 => ?_)
          rw [← hQe]
          exact gs_iret hx hb hr hlocks hM hS rfl ⟨hB_st_19, (Or.inr ⟨hv16_5.2 (by omega), (LM.all hv16_6 (mA.trans mA.rf (mA.upk est_19 (by decide)))), (by have hq0 : (st_19 0 0 28).toInt = ((st 0 0 28) : Int32).toInt := congrArg Int32.toInt (((congrFun (congrFun (congrFun est_19 0) 0) 28).trans (gU_same _ _ _ _ _))); have hb1 : (0 : Int) ≤ (st_19 0 0 28).toInt ∧ (st_19 0 0 28).toInt ≤ (1 : Int) := hB_st_19.1 0 0 28; have hb2 : (0 : Int) ≤ (st 0 0 28).toInt ∧ (st 0 0 28).toInt ≤ (1 : Int) := hB_st.1 0 0 28; omega), (by have hq0 : (st_19 0 0 29).toInt = ((sv16 0 0 29) : Int32).toInt := congrArg Int32.toInt (((congrFun (congrFun (congrFun est_19 0) 0) 29).trans (gU_other (by decide)))); have hb1 : (0 : Int) ≤ (st_19 0 0 29).toInt ∧ (st_19 0 0 29).toInt ≤ (20 : Int) := hB_st_19.1 0 0 29; have hb2 : (0 : Int) ≤ (st 0 0 29).toInt ∧ (st 0 0 29).toInt ≤ (20 : Int) := hB_st.1 0 0 29; omega), (((congrFun (congrFun est_19 6) 0).trans ((congrFun (gU_k (by decide)) 0).trans rfl)).trans hv16_7)⟩), (by have hq0 : (st_19 0 0 9).toInt = ((sv16 0 0 9) : Int32).toInt := congrArg Int32.toInt (((congrFun (congrFun (congrFun est_19 0) 0) 9).trans (gU_other (by decide)))); have hb1 : (0 : Int) ≤ (st_19 0 0 9).toInt ∧ (st_19 0 0 9).toInt ≤ (800 : Int) := hB_st_19.1 0 0 9; omega)⟩ (by exact Nat.le_refl _) (by exact Nat.le_refl _) dX10_rights_88
      · have ic_17 := gz_ne (rfl : y16_0.toInt = y16_0.toInt) (by decide : (0 : Int32).toInt = 0) c_17
        obtain ⟨rs, p9, hC9, hL9, hw9, hu9, hl9, hp9⟩ := hv16_5.1 (by omega)
        have hst9 := hC9.stop
        refine lv_aload_n hx hb dX10_rights_58 rfl (lv_at hl 2 rfl) ?_
        refine gs_get (C := RX10) (T := TX10) (N := 59) hx hb hts inX10 hown hK hM 0 0 12 (by decide) rfl rfl (by decide) (hts _ gm_913) (fun _ h9 => h9) rfl dX10_rights_59 ?_
        refine lv_if_eq (tgt := 73) hx hb dX10_rights_62 (by decide) (fun c_24 => ?_) (fun c_24 => ?_)
        · have ic_24 := gz_eq (rfl : (sv16 0 0 12).toInt = (sv16 0 0 12).toInt) (by decide : (0 : Int32).toInt = 0) c_24
          refine lv_iload_n hx hb dX10_rights_73 rfl (lv_at hl 0 rfl) ?_
          refine lv_if_ne (tgt := 89) hx hb dX10_rights_74 (by decide) (fun c_25 => ?_) (fun c_25 => ?_)
          · have ic_25 := gz_ne (rfl : y16_0.toInt = y16_0.toInt) (by decide : (0 : Int32).toInt = 0) c_25
            have hT9 : pText F N (mLex F N) 20 [] 0 = some rs := hp9.symm.trans (pText_end (hst9.mp (by omega)))
            refine lv_aload_n hx hb dX10_rights_89 rfl (lv_at hl 2 rfl) ?_
            refine lv_aload_n hx hb dX10_rights_90 rfl (lv_at hl 2 rfl) ?_
            refine gs_get (C := RX10) (T := TX10) (N := 59) hx hb hts inX10 hown hK hM 0 0 30 (by decide) rfl rfl (by decide) (hts _ gm_931) (fun _ h9 => h9) rfl dX10_rights_91 ?_
            have bf_26 : (0 : Int) ≤ (sv16 0 0 30).toInt ∧ (sv16 0 0 30).toInt ≤ (20 : Int) := hB_sv16.1 0 0 30
            refine gs_put (C := RX10) (T := TX10) (N := 59) (ty := .int) (val := .int (sv16 0 0 30)) hx hb hts inX10 tyX10 tyX10_ok nmX10 hown hK hI hm hM hS 0 0 29 (by decide) rfl rfl (by decide) (hts _ gm_930) (fun _ h9 => h9) rfl ((sv16 0 0 30) : Int32) rfl (by decide +kernel) rfl rfl (Nat.le_of_ble_eq_true rfl) dX10_rights_94 (fun st_27 H locs est_27 hM hS => ?_)
            have hB_st_27 : gBN bM kM [0, 9, 10, 11, 12, 13, 14, 15, 16, 17, 18, 19, 28, 29, 30, 59, 600, 800, 900, 1000, 1100, 1200, 1300, 1400, 1500] st st_27 := by rw [est_27]; exact hB_sv16.up (show (29 : Nat) ∈ _ from by decide) (show (0 : Int) ≤ (sv16 0 0 30).toInt from by omega) (show (sv16 0 0 30).toInt ≤ (20 : Int) from by omega)
            refine lv_iconst (v := 0) hx hb dX10_rights_97 (by decide) ?_
            refine lv_istore_n (lv' := [(3, .int 0), (2, .int y16_0), (1, .int (st 0 0 28)), (0, .ref (ad 0 0))]) hx hb dX10_rights_98 rfl hl (by decide) rfl (fun ls hl => ?_)
            have lp28 : ∀ (n28 : Nat) (sv28 : gS) (y28_0 : Int32) (H : Heap) (locs : List Loc) (ls : Array Slot), (6 - y28_0.toInt).toNat < n28 → gBN bM kM [0, 9, 10, 11, 12, 13, 14, 15, 16, 17, 18, 19, 28, 29, 30, 59, 600, 800, 900, 1000, 1100, 1200, 1300, 1400, 1500] st sv28 → (0 ≤ y28_0.toInt) → (ownL rs (st 6 0) (sv28 6 0) (st 0 0 7).toInt y28_0.toInt (st 0 0 7).toInt) → (LM rs sv28 (1 - b0)) → ((sv28 0 0 28).toInt = 1 - (st 0 0 28).toInt) → ((sv28 0 0 29).toInt = (rs.length : Int)) → ((sv28 0 0 9).toInt = 0) → gM G (shM cy ad) cnM ad sv28 H → va_S A s.heap H locs → lv_has ls 5 [(3, .int y28_0), (2, .int y16_0), (1, .int (st 0 0 28)), (0, .ref (ad 0 0))] → W p l e ({ frames := 5, cells := 0, slots := 0, locals := 113 } : Room) s m [.ref (ad 0 0)].toArray below meth c H locs 0 0 Q (F0 m 99 ls []) := by
              intro n28
              induction n28 with
              | zero => intro sv28 y28_0 H locs ls h9; exact absurd h9 (Nat.not_lt_zero _)
              | succ n28 ih_28 =>
                intro sv28 y28_0 H locs ls hme28 hB_sv28 hv28_0 hv28_1 hv28_2 hv28_3 hv28_4 hv28_5 hM hS hl
                have hb28_0 : (0 : Int) ≤ (st 0 0 7).toInt ∧ (st 0 0 7).toInt ≤ (199 : Int) := hB_st.1 0 0 7
                have hb28_1 : (0 : Int) ≤ (sv28 0 0 28).toInt ∧ (sv28 0 0 28).toInt ≤ (1 : Int) := hB_sv28.1 0 0 28
                have hb28_2 : (0 : Int) ≤ (st 0 0 28).toInt ∧ (st 0 0 28).toInt ≤ (1 : Int) := hB_st.1 0 0 28
                have hb28_3 : (0 : Int) ≤ (sv28 0 0 29).toInt ∧ (sv28 0 0 29).toInt ≤ (20 : Int) := hB_sv28.1 0 0 29
                have hb28_4 : (0 : Int) ≤ (sv28 0 0 9).toInt ∧ (sv28 0 0 9).toInt ≤ (800 : Int) := hB_sv28.1 0 0 9
                refine lv_iload_n hx hb dX10_rights_99 rfl (lv_at hl 0 rfl) ?_
                refine lv_bipush (v := 6) hx hb dX10_rights_100 (by decide) ?_
                refine lv_icmp_ge (tgt := 151) hx hb dX10_rights_102 (by decide) (fun c_29 => ?_) (fun c_29 => ?_)
                · have ic_29 := gz_le (by decide : (6 : Int32).toInt = 6) (rfl : y28_0.toInt = y28_0.toInt) c_29
                  refine lv_aload_n hx hb dX10_rights_151 rfl (lv_at hl 3 rfl) ?_
                  refine gs_callv (va_runV (As := []) (rest := []) ⟨hx, hb, hml, hown, hts⟩ (m_droughts l G cy sK sV ad H.size sv28 hB_sv28.1  rs (1 - b0) (by omega) (by omega) hv28_2) ⟨(gz_cb (n := 0) hts gm_1181 gm_12 gm_1184 ⟨by decide +kernel, by decide +kernel, by decide +kernel⟩ ⟨Nat.le_of_ble_eq_true rfl, Nat.le_of_ble_eq_true rfl⟩), hts _ gm_1183, hts _ gs_48⟩ (gs_preV hK hov hE hI hM hm hS hA 0 0 (by decide) rfl rfl) rfl rfl hl.1 rfl (lv_room (Nat.le_of_ble_eq_true rfl)) dX10_rights_152 ⟨Nat.le_of_ble_eq_true rfl, Nat.le_of_ble_eq_true rfl⟩) hm hS hA (fun st_30 H locs hw_30 hM hS => ?_)
                  obtain ⟨n_30, hw_30⟩ := hw_30
                  have hB_st_30 : gBN bM kM [0, 9, 10, 11, 12, 13, 14, 15, 16, 17, 18, 19, 28, 29, 30, 59, 600, 800, 900, 1000, 1100, 1200, 1300, 1400, 1500] st st_30 := hB_sv28.call n_30 (by decide)
                  have hqhw_300 : (sv28 0 0 7).toInt = ((st 0 0 7) : Int32).toInt := congrArg Int32.toInt ((hB_sv28.2 0 0 7 (show (7 : Nat) ∉ _ from by decide)))
                  have hbhw_301 : (0 : Int) ≤ (sv28 0 0 7).toInt ∧ (sv28 0 0 7).toInt ≤ (199 : Int) := hB_sv28.1 0 0 7
                  have hw_30_0 := hw_30
                  refine lv_aload_n hx hb dX10_rights_155 rfl (lv_at hl 3 rfl) ?_
                  refine gs_get (C := RX10) (T := TX10) (N := 59) hx hb hts inX10 hown hK hM 0 0 29 (by decide) rfl rfl (by decide) (hts _ gm_930) (fun _ h9 => h9) rfl dX10_rights_156 ?_
                  refine lv_topi (fun x_31 ex_31 => ?_)
                  have ex_31 : (sv28 0 0 29) = x_31 := Eq.symm (ex_31.trans (n_30.2 0 0 29 (show (29 : Nat) ∉ _ from by decide)))
                  subst ex_31
                  have bf_32 : (0 : Int) ≤ (sv28 0 0 29).toInt ∧ (sv28 0 0 29).toInt ≤ (20 : Int) := hB_sv28.1 0 0 29
                  rw [← hQe]
                  exact gs_iret hx hb hr hlocks hM hS rfl ⟨hB_st_30, (Or.inl ⟨rs, hT9, (LM.frame hv28_2 n_30.2 (by decide)), hw9, hu9, (by have hq0 : (st_30 0 0 28).toInt = ((sv28 0 0 28) : Int32).toInt := congrArg Int32.toInt ((n_30.2 0 0 28 (show (28 : Nat) ∉ _ from by decide))); have hb1 : (0 : Int) ≤ (st_30 0 0 28).toInt ∧ (st_30 0 0 28).toInt ≤ (1 : Int) := hB_st_30.1 0 0 28; have hb2 : (0 : Int) ≤ (st 0 0 28).toInt ∧ (st 0 0 28).toInt ≤ (1 : Int) := hB_st.1 0 0 28; omega), (by have hq0 : (st_30 0 0 29).toInt = ((sv28 0 0 29) : Int32).toInt := congrArg Int32.toInt ((n_30.2 0 0 29 (show (29 : Nat) ∉ _ from by decide))); have hb1 : (0 : Int) ≤ (st_30 0 0 29).toInt ∧ (st_30 0 0 29).toInt ≤ (20 : Int) := hB_st_30.1 0 0 29; omega), ⟨sv28 6 0, (by have h9 := hv28_1; intro w9 d9 h1 h2; rw [h9 w9 d9 h1 h2]; by_cases h3 : (st 0 0 7).toInt ≤ (d9 : Int); rw [if_pos (by omega), if_pos (by omega)]; rw [if_neg (by omega), if_neg (by omega)]), (by have h9 := hw_30_0; rw [show sv28 1 0 = st 1 0 from (funext (fun j9 => hB_sv28.2 1 0 j9 (show (100 : Nat) ∉ _ from by decide))), show sv28 5 0 = st 5 0 from (funext (fun j9 => hB_sv28.2 5 0 j9 (show (500 : Nat) ∉ _ from by decide))), show (sv28 0 0 7).toInt = (st 0 0 7).toInt from congrArg Int32.toInt (hB_sv28.2 0 0 7 (show (7 : Nat) ∉ _ from by decide))] at h9; exact h9)⟩⟩), (by have hq0 : (st_30 0 0 9).toInt = ((sv28 0 0 9) : Int32).toInt := congrArg Int32.toInt ((n_30.2 0 0 9 (show (9 : Nat) ∉ _ from by decide))); have hb1 : (0 : Int) ≤ (st_30 0 0 9).toInt ∧ (st_30 0 0 9).toInt ≤ (800 : Int) := hB_st_30.1 0 0 9; omega)⟩ (by exact Nat.le_refl _) (by exact Nat.le_refl _) dX10_rights_159
                · have ic_29 := gz_nle (by decide : (6 : Int32).toInt = 6) (rfl : y28_0.toInt = y28_0.toInt) c_29
                  refine lv_aload_n hx hb dX10_rights_105 rfl (lv_at hl 3 rfl) ?_
                  refine gs_get (C := RX10) (T := TX10) (N := 59) hx hb hts inX10 hown hK hM 0 0 7 (by decide) rfl rfl (by decide) (hts _ gm_908) (fun _ h9 => h9) rfl dX10_rights_106 ?_
                  refine lv_topi (fun x_33 ex_33 => ?_)
                  have ex_33 : (st 0 0 7) = x_33 := Eq.symm (ex_33.trans (hB_sv28.2 0 0 7 (show (7 : Nat) ∉ _ from by decide)))
                  subst ex_33
                  have bf_34 : (0 : Int) ≤ (st 0 0 7).toInt ∧ (st 0 0 7).toInt ≤ (199 : Int) := hB_st.1 0 0 7
                  refine lv_istore (lv' := [(4, .int (st 0 0 7)), (3, .int y28_0), (2, .int y16_0), (1, .int (st 0 0 28)), (0, .ref (ad 0 0))]) hx hb dX10_rights_109 hl (by decide) rfl (fun ls hl => ?_)
                  have lp35 : ∀ (n35 : Nat) (sv35 : gS) (y35_0 : Int32) (H : Heap) (locs : List Loc) (ls : Array Slot), (200 - y35_0.toInt).toNat < n35 → gBN bM kM [0, 9, 10, 11, 12, 13, 14, 15, 16, 17, 18, 19, 28, 29, 30, 59, 600, 800, 900, 1000, 1100, 1200, 1300, 1400, 1500] st sv35 → ((st 0 0 7).toInt ≤ y35_0.toInt) → (ownL rs (st 6 0) (sv35 6 0) (st 0 0 7).toInt y28_0.toInt y35_0.toInt) → (LM rs sv35 (1 - b0)) → ((sv35 0 0 28).toInt = 1 - (st 0 0 28).toInt) → ((sv35 0 0 29).toInt = (rs.length : Int)) → ((sv35 0 0 9).toInt = 0) → gM G (shM cy ad) cnM ad sv35 H → va_S A s.heap H locs → lv_has ls 5 [(4, .int y35_0), (3, .int y28_0), (2, .int y16_0), (1, .int (st 0 0 28)), (0, .ref (ad 0 0))] → W p l e ({ frames := 5, cells := 0, slots := 0, locals := 113 } : Room) s m [.ref (ad 0 0)].toArray below meth c H locs 0 0 Q (F0 m 111 ls []) := by
                    intro n35
                    induction n35 with
                    | zero => intro sv35 y35_0 H locs ls h9; exact absurd h9 (Nat.not_lt_zero _)
                    | succ n35 ih_35 =>
                      intro sv35 y35_0 H locs ls hme35 hB_sv35 hv35_0 hv35_1 hv35_2 hv35_3 hv35_4 hv35_5 hM hS hl
                      have hb35_0 : (0 : Int) ≤ (st 0 0 7).toInt ∧ (st 0 0 7).toInt ≤ (199 : Int) := hB_st.1 0 0 7
                      have hb35_1 : (0 : Int) ≤ (sv35 0 0 28).toInt ∧ (sv35 0 0 28).toInt ≤ (1 : Int) := hB_sv35.1 0 0 28
                      have hb35_2 : (0 : Int) ≤ (st 0 0 28).toInt ∧ (st 0 0 28).toInt ≤ (1 : Int) := hB_st.1 0 0 28
                      have hb35_3 : (0 : Int) ≤ (sv35 0 0 29).toInt ∧ (sv35 0 0 29).toInt ≤ (20 : Int) := hB_sv35.1 0 0 29
                      have hb35_4 : (0 : Int) ≤ (sv35 0 0 9).toInt ∧ (sv35 0 0 9).toInt ≤ (800 : Int) := hB_sv35.1 0 0 9
                      refine lv_iload hx hb dX10_rights_111 (lv_at hl 0 rfl) ?_
                      refine lv_sipush (v := 199) hx hb dX10_rights_113 (by decide) ?_
                      refine lv_icmp_gt (tgt := 145) hx hb dX10_rights_116 (by decide) (fun c_36 => ?_) (fun c_36 => ?_)
                      · have ic_36 := gz_lt (by decide : (199 : Int32).toInt = 199) (rfl : y35_0.toInt = y35_0.toInt) c_36
                        obtain ⟨x_37, ex_37⟩ : ∃ y : Int32, y = y28_0 + 1 := ⟨_, rfl⟩
                        try have tx_37 : x_37.toInt = y28_0.toInt + 1 := by rw [ex_37]; exact gz_addP (x := y28_0.toInt) (y := 1) rfl (by decide) (by omega) (by omega)
                        refine lv_iinc (v := (x_37)) (lv' := [(3, .int x_37), (4, .int y35_0), (2, .int y16_0), (1, .int (st 0 0 28)), (0, .ref (ad 0 0))]) hx hb dX10_rights_145 hl (k := 1) rfl (by rw [ex_37]; rfl) (by decide) rfl (fun ls hl => ?_)
                        refine lv_goto (tgt := 99) hx hb dX10_rights_148 (by decide) ?_
                        exact ih_28 sv35 (x_37 : Int32) H _ ls (by omega) hB_sv35 (by omega) (ownL.next hv35_1 (by omega) (by omega) (Int.le_refl _)) hv35_2 (by have hb0 : (0 : Int) ≤ (sv35 0 0 28).toInt ∧ (sv35 0 0 28).toInt ≤ (1 : Int) := hB_sv35.1 0 0 28; have hb1 : (0 : Int) ≤ (st 0 0 28).toInt ∧ (st 0 0 28).toInt ≤ (1 : Int) := hB_st.1 0 0 28; omega) (by have hb0 : (0 : Int) ≤ (sv35 0 0 29).toInt ∧ (sv35 0 0 29).toInt ≤ (20 : Int) := hB_sv35.1 0 0 29; omega) (by have hb0 : (0 : Int) ≤ (sv35 0 0 9).toInt ∧ (sv35 0 0 9).toInt ≤ (800 : Int) := hB_sv35.1 0 0 9; omega) hM hS (lv_sub hl [0, 2, 3, 4] rfl)
                      · have ic_36 := gz_nlt (by decide : (199 : Int32).toInt = 199) (rfl : y35_0.toInt = y35_0.toInt) c_36
                        refine lv_aload_n hx hb dX10_rights_119 rfl (lv_at hl 4 rfl) ?_
                        refine gs_get (C := RX10) (T := TX10) (N := 59) hx hb hts inX10 hown hK hM 0 0 6 (by decide) rfl rfl (by decide) (hts _ gm_907) (fun _ h9 => h9) rfl dX10_rights_120 ?_
                        refine lv_sipush (v := 200) hx hb dX10_rights_123 (by decide) ?_
                        refine lv_iload_n hx hb dX10_rights_126 rfl (lv_at hl 1 rfl) ?_
                        refine lv_imul hx hb dX10_rights_127 ?_
                        refine lv_topi (fun x_38 ex_38 => ?_)
                        try have tx_38 : x_38.toInt = 200 * y28_0.toInt := by rw [ex_38]; exact gz_mulI (x := 200) (y := y28_0.toInt) (by decide) rfl (by omega) (by omega)
                        refine lv_iload hx hb dX10_rights_128 (lv_at hl 0 rfl) ?_
                        refine lv_iadd hx hb dX10_rights_130 ?_
                        refine lv_topi (fun x_39 ex_39 => ?_)
                        try have tx_39 : x_39.toInt = x_38.toInt + y35_0.toInt := by rw [ex_39]; exact gz_addI (x := x_38.toInt) (y := y35_0.toInt) rfl rfl (by omega) (by omega)
                        refine lv_aload_n hx hb dX10_rights_131 rfl (lv_at hl 4 rfl) ?_
                        refine lv_iload_n hx hb dX10_rights_132 rfl (lv_at hl 1 rfl) ?_
                        refine lv_iload hx hb dX10_rights_133 (lv_at hl 0 rfl) ?_
                        refine gs_calli (va_runV (As := [.int y28_0, .int y35_0]) (rest := [.int x_39, .ref (ad 6 0)]) ⟨hx, hb, hml, hown, hts⟩ (m_byTurns l G cy sK sV ad H.size sv35 hB_sv35.1 y28_0 y35_0 y28_0.toInt y35_0.toInt rfl rfl (by first | decide | omega) rs (1 - b0) (by omega) (by omega) hv35_2 hw9 hu9) ⟨(gz_cb (n := 2) hts gm_1177 gm_12 gm_1180 ⟨by decide +kernel, by decide +kernel, by decide +kernel⟩ ⟨Nat.le_of_ble_eq_true rfl, Nat.le_of_ble_eq_true rfl⟩), hts _ gm_1179, hts _ gs_47⟩ (gs_preV hK hov hE hI hM hm hS hA 0 0 (by decide) rfl rfl) rfl rfl hl.1 rfl (lv_room (Nat.le_of_ble_eq_true rfl)) dX10_rights_135 ⟨Nat.le_of_ble_eq_true rfl, Nat.le_of_ble_eq_true rfl⟩) hm hS hA (fun r_40 st_40 H locs hw_40 hM hS => ?_)
                        obtain ⟨n_40, hw_40⟩ := hw_40
                        have n_40 := gBN.nil n_40
                        subst n_40
                        have hw_40_0 := hw_40
                        refine gs_iast hx hb hK hI hm hM hS 6 0 (by decide) (fun _ => rfl) (vp_in_iff.mpr ⟨by omega, by omega⟩) dX10_rights_138 (fun st_41 H locs est_41 hM hS => ?_)
                        have hB_st_41 : gBN bM kM [0, 9, 10, 11, 12, 13, 14, 15, 16, 17, 18, 19, 28, 29, 30, 59, 600, 800, 900, 1000, 1100, 1200, 1300, 1400, 1500] st st_41 := by rw [est_41]; exact hB_sv35.up (show (600 : Nat) ∈ _ from by decide) (gi_lo _) (gi_hi _)
                        obtain ⟨x_42, ex_42⟩ : ∃ y : Int32, y = y35_0 + 1 := ⟨_, rfl⟩
                        try have tx_42 : x_42.toInt = y35_0.toInt + 1 := by rw [ex_42]; exact gz_addP (x := y35_0.toInt) (y := 1) rfl (by decide) (by omega) (by omega)
                        refine lv_iinc (v := (x_42)) (lv' := [(4, .int x_42), (3, .int y28_0), (2, .int y16_0), (1, .int (st 0 0 28)), (0, .ref (ad 0 0))]) hx hb dX10_rights_139 hl (k := 0) rfl (by rw [ex_42]; rfl) (by decide) rfl (fun ls hl => ?_)
                        refine lv_goto (tgt := 111) hx hb dX10_rights_142 (by decide) ?_
                        exact ih_35 st_41 (x_42 : Int32) H _ ls (by omega) hB_st_41 (by have hb0 : (0 : Int) ≤ (st 0 0 7).toInt ∧ (st 0 0 7).toInt ≤ (199 : Int) := hB_st.1 0 0 7; omega) (by rw [show st_41 6 0 = (upd (sv35 6 0) (x_39.toNatClampNeg) (r_40 : Int32)) from ((congrFun (congrFun est_41 6) 0).trans ((gU_at _ _ _ _ _).trans (congrArg (fun f9 => upd f9 (x_39.toNatClampNeg) (r_40 : Int32)) rfl)))]; exact ownL.step (x := x_39) (k := y35_0) hv35_1 (by omega) (by omega) (by omega) (by omega) (by omega) (by omega) hw_40_0 (by omega)) (LM.all hv35_2 (mA.upk est_41 (by decide))) (by have hq0 : (st_41 0 0 28).toInt = ((sv35 0 0 28) : Int32).toInt := congrArg Int32.toInt (((congrFun (congrFun (congrFun est_41 0) 0) 28).trans (congrFun (congrFun (gU_k (by decide)) 0) 28))); have hb1 : (0 : Int) ≤ (st_41 0 0 28).toInt ∧ (st_41 0 0 28).toInt ≤ (1 : Int) := hB_st_41.1 0 0 28; have hb2 : (0 : Int) ≤ (st 0 0 28).toInt ∧ (st 0 0 28).toInt ≤ (1 : Int) := hB_st.1 0 0 28; omega) (by have hq0 : (st_41 0 0 29).toInt = ((sv35 0 0 29) : Int32).toInt := congrArg Int32.toInt (((congrFun (congrFun (congrFun est_41 0) 0) 29).trans (congrFun (congrFun (gU_k (by decide)) 0) 29))); have hb1 : (0 : Int) ≤ (st_41 0 0 29).toInt ∧ (st_41 0 0 29).toInt ≤ (20 : Int) := hB_st_41.1 0 0 29; omega) (by have hq0 : (st_41 0 0 9).toInt = ((sv35 0 0 9) : Int32).toInt := congrArg Int32.toInt (((congrFun (congrFun (congrFun est_41 0) 0) 9).trans (congrFun (congrFun (gU_k (by decide)) 0) 9))); have hb1 : (0 : Int) ≤ (st_41 0 0 9).toInt ∧ (st_41 0 0 9).toInt ≤ (800 : Int) := hB_st_41.1 0 0 9; omega) hM hS (lv_sub hl [0, 1, 2, 3, 4] rfl)
                  exact lp35 ((200 - ((st 0 0 7) : Int32).toInt).toNat + 1) sv28 ((st 0 0 7) : Int32) H _ ls (Nat.lt_succ_self _) hB_sv28 (by have hb0 : (0 : Int) ≤ (st 0 0 7).toInt ∧ (st 0 0 7).toInt ≤ (199 : Int) := hB_st.1 0 0 7; omega) (by rw [show (st 0 0 7).toInt = (st 0 0 7).toInt by omega]; exact hv28_1) hv28_2 (by have hb0 : (0 : Int) ≤ (sv28 0 0 28).toInt ∧ (sv28 0 0 28).toInt ≤ (1 : Int) := hB_sv28.1 0 0 28; have hb1 : (0 : Int) ≤ (st 0 0 28).toInt ∧ (st 0 0 28).toInt ≤ (1 : Int) := hB_st.1 0 0 28; omega) (by have hb0 : (0 : Int) ≤ (sv28 0 0 29).toInt ∧ (sv28 0 0 29).toInt ≤ (20 : Int) := hB_sv28.1 0 0 29; omega) (by have hb0 : (0 : Int) ≤ (sv28 0 0 9).toInt ∧ (sv28 0 0 9).toInt ≤ (800 : Int) := hB_sv28.1 0 0 9; omega) hM hS (lv_sub hl [0, 1, 2, 3, 4] rfl)
            exact lp28 ((6 - ((0 : Int32) : Int32).toInt).toNat + 1) st_27 ((0 : Int32) : Int32) H _ ls (Nat.lt_succ_self _) hB_st_27 (by have hl0 : (0 : Int32).toInt = 0 := (by decide); omega) (by rw [(((congrFun (congrFun est_27 6) 0).trans ((congrFun (gU_k (by decide)) 0).trans rfl)).trans hv16_7)]; exact ownL.new (by decide) (Int.le_refl _)) (LM.all hL9 (mA.trans mA.rf (mA.upk est_27 (by decide)))) (by have hl0 : (0 : Int32).toInt = 0 := (by decide); have hq1 : (st_27 0 0 28).toInt = ((sv16 0 0 28) : Int32).toInt := congrArg Int32.toInt (((congrFun (congrFun (congrFun est_27 0) 0) 28).trans (gU_other (by decide)))); have hb2 : (0 : Int) ≤ (st_27 0 0 28).toInt ∧ (st_27 0 0 28).toInt ≤ (1 : Int) := hB_st_27.1 0 0 28; have hb3 : (0 : Int) ≤ (st 0 0 28).toInt ∧ (st 0 0 28).toInt ≤ (1 : Int) := hB_st.1 0 0 28; omega) (by have hl0 : (0 : Int32).toInt = 0 := (by decide); have hq1 : (st_27 0 0 29).toInt = ((sv16 0 0 30) : Int32).toInt := congrArg Int32.toInt (((congrFun (congrFun (congrFun est_27 0) 0) 29).trans (gU_same _ _ _ _ _))); have hb2 : (0 : Int) ≤ (st_27 0 0 29).toInt ∧ (st_27 0 0 29).toInt ≤ (20 : Int) := hB_st_27.1 0 0 29; omega) (by have hl0 : (0 : Int32).toInt = 0 := (by decide); have hq1 : (st_27 0 0 9).toInt = ((sv16 0 0 9) : Int32).toInt := congrArg Int32.toInt (((congrFun (congrFun (congrFun est_27 0) 0) 9).trans (gU_other (by decide)))); have hb2 : (0 : Int) ≤ (st_27 0 0 9).toInt ∧ (st_27 0 0 9).toInt ≤ (800 : Int) := hB_st_27.1 0 0 9; omega) hM hS (lv_sub hl [0, 1, 2, 3] rfl)
          · have ic_25 := gz_eqn (rfl : y16_0.toInt = y16_0.toInt) (by decide : (0 : Int32).toInt = 0) c_25
            exfalso; omega
        · have ic_24 := gz_ne (rfl : (sv16 0 0 12).toInt = (sv16 0 0 12).toInt) (by decide : (0 : Int32).toInt = 0) c_24
          refine lv_aload_n hx hb dX10_rights_65 rfl (lv_at hl 2 rfl) ?_
          refine gs_calli (va_runV (As := []) (rest := []) ⟨hx, hb, hml, hown, hts⟩ (m_rule l G cy sK sV ad H.size sv16 hB_sv16.1  F N (((funext (fun j9 => hB_sv16.2 7 0 j9 (show (700 : Nat) ∉ _ from by decide))).trans rfl).trans hF) hv16_9 p9 hC9 rs ro (1 - b0) (by omega) hl9.symm hL9 hw9 (by rw [show 1 - (1 - b0) = b0 by omega]; exact hv16_6) hwo (by omega)) ⟨(gz_cb (n := 0) hts gm_1114 gm_12 gm_1117 ⟨by decide +kernel, by decide +kernel, by decide +kernel⟩ ⟨Nat.le_of_ble_eq_true rfl, Nat.le_of_ble_eq_true rfl⟩), hts _ gm_1116, hts _ gs_34⟩ (gs_preV hK hov hE hI hM hm hS hA 0 0 (by decide) rfl rfl) rfl rfl hl.1 rfl (lv_room (Nat.le_of_ble_eq_true rfl)) dX10_rights_66 ⟨Nat.le_of_ble_eq_true rfl, Nat.le_of_ble_eq_true rfl⟩) hm hS hA (fun r_43 st_43 H locs hw_43 hM hS => ?_)
          obtain ⟨n_43, hw_43⟩ := hw_43
          have hB_st_43 : gBN bM kM [0, 9, 10, 11, 12, 13, 14, 15, 16, 17, 18, 19, 28, 29, 30, 59, 600, 800, 900, 1000, 1100, 1200, 1300, 1400, 1500] st st_43 := hB_sv16.call n_43 (by decide)
          have hbhw_430 : (0 : Int) ≤ (sv16 0 0 30).toInt ∧ (sv16 0 0 30).toInt ≤ (20 : Int) := hB_sv16.1 0 0 30
          rcases hw_43 with ⟨rfl, hw_43_0, hw_43_1, hw_43_2⟩ | ⟨rfl, hw_43_0, hw_43_1, hw_43_2⟩
          · skip
            obtain ⟨r9_hw_43_0, e9_hw_43_0, hw_43_0_p0, hw_43_0_p1, hw_43_0_p2, hw_43_0_p3⟩ := hw_43_0
            refine lv_istore_n (lv' := [(2, .int 1), (1, .int (st 0 0 28)), (0, .ref (ad 0 0))]) hx hb dX10_rights_69 rfl hl (by decide) rfl (fun ls hl => ?_)
            refine lv_goto (tgt := 54) hx hb dX10_rights_70 (by decide) ?_
            have hz9 : (1 : Int32).toInt = 1 := (by decide)
            exact ih_16 st_43 ((1 : Int32) : Int32) H _ ls (by have hl0 : (1 : Int32).toInt = 1 := (by decide); have hb1 : (0 : Int) ≤ (st_43 0 0 30).toInt ∧ (st_43 0 0 30).toInt ≤ (20 : Int) := hB_st_43.1 0 0 30; omega) hB_st_43 (by have hl0 : (1 : Int32).toInt = 1 := (by decide); omega) (by have hl0 : (1 : Int32).toInt = 1 := (by decide); omega) (by have hl0 : (1 : Int32).toInt = 1 := (by decide); have hq1 : (st_43 0 0 28).toInt = ((sv16 0 0 28) : Int32).toInt := congrArg Int32.toInt ((n_43.2 0 0 28 (show (28 : Nat) ∉ _ from by decide))); have hb2 : (0 : Int) ≤ (st_43 0 0 28).toInt ∧ (st_43 0 0 28).toInt ≤ (1 : Int) := hB_st_43.1 0 0 28; have hb3 : (0 : Int) ≤ (st 0 0 28).toInt ∧ (st 0 0 28).toInt ≤ (1 : Int) := hB_st.1 0 0 28; omega) (by have hl0 : (1 : Int32).toInt = 1 := (by decide); have hq1 : (st_43 0 0 29).toInt = ((sv16 0 0 29) : Int32).toInt := congrArg Int32.toInt ((n_43.2 0 0 29 (show (29 : Nat) ∉ _ from by decide))); have hb2 : (0 : Int) ≤ (st_43 0 0 29).toInt ∧ (st_43 0 0 29).toInt ≤ (20 : Int) := hB_st_43.1 0 0 29; have hb3 : (0 : Int) ≤ (st 0 0 29).toInt ∧ (st 0 0 29).toInt ≤ (20 : Int) := hB_st.1 0 0 29; omega) (by have hl0 : (1 : Int32).toInt = 1 := (by decide); have hq1 : (st_43 0 0 9).toInt = ((sv16 0 0 9) : Int32).toInt := congrArg Int32.toInt ((n_43.2 0 0 9 (show (9 : Nat) ∉ _ from by decide))); have hb2 : (0 : Int) ≤ (st_43 0 0 9).toInt ∧ (st_43 0 0 9).toInt ≤ (800 : Int) := hB_st_43.1 0 0 9; omega) (by rw [show (1 : Int32).toInt = 1 from by decide]; exact txI.go hw_43_0_p3 hw9 hu9 hl9 hp9 (fun h9 => absurd (hst9.mpr h9) (by omega)) hw_43_0_p0 hw_43_0_p2 (by omega) (by have h9 : (0 : Int) ≤ (st_43 0 0 30).toInt ∧ (st_43 0 0 30).toInt ≤ (20 : Int) := hB_st_43.1 0 0 30; omega) hw_43_0_p1) (by rw [show b0 = 1 - (1 - b0) by omega]; exact hw_43_2) (((funext (fun j9 => n_43.2 6 0 j9 (show (600 : Nat) ∉ _ from by decide))).trans rfl).trans hv16_7) (by have h9 : (0 : Int) ≤ (st_43 0 0 30).toInt ∧ (st_43 0 0 30).toInt ≤ (20 : Int) := hB_st_43.1 0 0 30; omega) ((congrArg Int32.toInt ((n_43.2 0 0 10 (show (10 : Nat) ∉ _ from by decide)))).trans hv16_9) hM hS (lv_sub hl [0, 1, 2] rfl)
          · skip
            refine lv_istore_n (lv' := [(2, .int 0), (1, .int (st 0 0 28)), (0, .ref (ad 0 0))]) hx hb dX10_rights_69 rfl hl (by decide) rfl (fun ls hl => ?_)
            refine lv_goto (tgt := 54) hx hb dX10_rights_70 (by decide) ?_
            have hz9 : (0 : Int32).toInt = 0 := (by decide)
            exact ih_16 st_43 ((0 : Int32) : Int32) H _ ls (by have hl0 : (0 : Int32).toInt = 0 := (by decide); have hb1 : (0 : Int) ≤ (st_43 0 0 30).toInt ∧ (st_43 0 0 30).toInt ≤ (20 : Int) := hB_st_43.1 0 0 30; omega) hB_st_43 (by have hl0 : (0 : Int32).toInt = 0 := (by decide); omega) (by have hl0 : (0 : Int32).toInt = 0 := (by decide); omega) (by have hl0 : (0 : Int32).toInt = 0 := (by decide); have hq1 : (st_43 0 0 28).toInt = ((sv16 0 0 28) : Int32).toInt := congrArg Int32.toInt ((n_43.2 0 0 28 (show (28 : Nat) ∉ _ from by decide))); have hb2 : (0 : Int) ≤ (st_43 0 0 28).toInt ∧ (st_43 0 0 28).toInt ≤ (1 : Int) := hB_st_43.1 0 0 28; have hb3 : (0 : Int) ≤ (st 0 0 28).toInt ∧ (st 0 0 28).toInt ≤ (1 : Int) := hB_st.1 0 0 28; omega) (by have hl0 : (0 : Int32).toInt = 0 := (by decide); have hq1 : (st_43 0 0 29).toInt = ((sv16 0 0 29) : Int32).toInt := congrArg Int32.toInt ((n_43.2 0 0 29 (show (29 : Nat) ∉ _ from by decide))); have hb2 : (0 : Int) ≤ (st_43 0 0 29).toInt ∧ (st_43 0 0 29).toInt ≤ (20 : Int) := hB_st_43.1 0 0 29; have hb3 : (0 : Int) ≤ (st 0 0 29).toInt ∧ (st 0 0 29).toInt ≤ (20 : Int) := hB_st.1 0 0 29; omega) (by have hl0 : (0 : Int32).toInt = 0 := (by decide); have hq1 : (st_43 0 0 9).toInt = ((sv16 0 0 9) : Int32).toInt := congrArg Int32.toInt ((n_43.2 0 0 9 (show (9 : Nat) ∉ _ from by decide))); have hb2 : (0 : Int) ≤ (st_43 0 0 9).toInt ∧ (st_43 0 0 9).toInt ≤ (800 : Int) := hB_st_43.1 0 0 9; omega) (by rw [show (0 : Int32).toInt = 0 from by decide]; exact txI.no hl9 hp9 (fun h9 => absurd (hst9.mpr h9) (by omega)) hw_43_0) (by rw [show b0 = 1 - (1 - b0) by omega]; exact hw_43_2) (((funext (fun j9 => n_43.2 6 0 j9 (show (600 : Nat) ∉ _ from by decide))).trans rfl).trans hv16_7) (by have h9 : (0 : Int) ≤ (st_43 0 0 30).toInt ∧ (st_43 0 0 30).toInt ≤ (20 : Int) := hB_st_43.1 0 0 30; omega) ((congrArg Int32.toInt ((n_43.2 0 0 10 (show (10 : Nat) ∉ _ from by decide)))).trans hv16_9) hM hS (lv_sub hl [0, 1, 2] rfl)
  exact lp16 ((21 - (st_15 0 0 30).toInt).toNat + ((1 : Int32) : Int32).toInt.toNat + 1) st_15 ((1 : Int32) : Int32) H _ ls (Nat.lt_succ_self _) hB_st_15 (by have hl0 : (1 : Int32).toInt = 1 := (by decide); omega) (by have hl0 : (1 : Int32).toInt = 1 := (by decide); omega) (by have hl0 : (1 : Int32).toInt = 1 := (by decide); have hq1 : (st_15 0 0 28).toInt = (x_12 : Int32).toInt := congrArg Int32.toInt (((n_15.2 0 0 28 (show (28 : Nat) ∉ _ from by decide)).trans (((congrFun (congrFun (congrFun est_14 0) 0) 28).trans (gU_other (by decide))).trans ((congrFun (congrFun (congrFun est_13 0) 0) 28).trans (gU_same _ _ _ _ _))))); have hb2 : (0 : Int) ≤ (st_15 0 0 28).toInt ∧ (st_15 0 0 28).toInt ≤ (1 : Int) := hB_st_15.1 0 0 28; have hb3 : (0 : Int) ≤ (st 0 0 28).toInt ∧ (st 0 0 28).toInt ≤ (1 : Int) := hB_st.1 0 0 28; omega) (by have hl0 : (1 : Int32).toInt = 1 := (by decide); have hq1 : (st_15 0 0 29).toInt = ((st 0 0 29) : Int32).toInt := congrArg Int32.toInt (((n_15.2 0 0 29 (show (29 : Nat) ∉ _ from by decide)).trans (((congrFun (congrFun (congrFun est_14 0) 0) 29).trans (gU_other (by decide))).trans (((congrFun (congrFun (congrFun est_13 0) 0) 29).trans (gU_other (by decide))).trans (((congrFun (congrFun (congrFun est_7 0) 0) 29).trans (gU_other (by decide))).trans (((congrFun (congrFun (congrFun est_6 0) 0) 29).trans (gU_other (by decide))).trans (((congrFun (congrFun (congrFun est_5 0) 0) 29).trans (gU_other (by decide))).trans (((congrFun (congrFun (congrFun est_4 0) 0) 29).trans (gU_other (by decide))).trans ((congrFun (congrFun (congrFun est_1 0) 0) 29).trans (gU_other (by decide))))))))))); have hb2 : (0 : Int) ≤ (st_15 0 0 29).toInt ∧ (st_15 0 0 29).toInt ≤ (20 : Int) := hB_st_15.1 0 0 29; have hb3 : (0 : Int) ≤ (st 0 0 29).toInt ∧ (st 0 0 29).toInt ≤ (20 : Int) := hB_st.1 0 0 29; omega) (by have hl0 : (1 : Int32).toInt = 1 := (by decide); have hq1 : (st_15 0 0 9).toInt = 0 := (congrArg Int32.toInt (((n_15.2 0 0 9 (show (9 : Nat) ∉ _ from by decide)).trans (((congrFun (congrFun (congrFun est_14 0) 0) 9).trans (gU_other (by decide))).trans (((congrFun (congrFun (congrFun est_13 0) 0) 9).trans (gU_other (by decide))).trans (((congrFun (congrFun (congrFun est_7 0) 0) 9).trans (gU_other (by decide))).trans (((congrFun (congrFun (congrFun est_6 0) 0) 9).trans (gU_other (by decide))).trans ((congrFun (congrFun (congrFun est_5 0) 0) 9).trans (gU_same _ _ _ _ _))))))))).trans (by decide); omega) (by rw [show (1 : Int32).toInt = 1 from by decide]; exact txI.new (by have h9 := hw_15_0; rw [show (st_14 0 0 11).toInt = 0 from ((congrArg Int32.toInt ((((congrFun (congrFun (congrFun est_14 0) 0) 11).trans (gU_other (by decide))).trans (((congrFun (congrFun (congrFun est_13 0) 0) 11).trans (gU_other (by decide))).trans (((congrFun (congrFun (congrFun est_7 0) 0) 11).trans (gU_other (by decide))).trans ((congrFun (congrFun (congrFun est_6 0) 0) 11).trans (gU_same _ _ _ _ _))))))).trans (by decide))] at h9; exact h9) ((congrArg Int32.toInt (((n_15.2 0 0 30 (show (30 : Nat) ∉ _ from by decide)).trans ((congrFun (congrFun (congrFun est_14 0) 0) 30).trans (gU_same _ _ _ _ _))))).trans (by decide))) (LM.all hLO (mA.trans (mA.trans (mA.trans (mA.trans (mA.trans (mA.trans (mA.trans (mA.trans mA.rf (mA.upk est_1 (by decide))) (mA.upk est_4 (by decide))) (mA.upk est_5 (by decide))) (mA.upk est_6 (by decide))) (mA.upk est_7 (by decide))) (mA.upk est_13 (by decide))) (mA.upk est_14 (by decide))) (mA.frame n_15.2 (by decide)))) (((funext (fun j9 => n_15.2 6 0 j9 (show (600 : Nat) ∉ _ from by decide))).trans ((congrFun (congrFun est_14 6) 0).trans ((congrFun (gU_k (by decide)) 0).trans ((congrFun (congrFun est_13 6) 0).trans ((congrFun (gU_k (by decide)) 0).trans ((congrFun (congrFun est_7 6) 0).trans ((congrFun (gU_k (by decide)) 0).trans ((congrFun (congrFun est_6 6) 0).trans ((congrFun (gU_k (by decide)) 0).trans ((congrFun (congrFun est_5 6) 0).trans ((congrFun (gU_k (by decide)) 0).trans ((congrFun (congrFun est_4 6) 0).trans ((congrFun (gU_k (by decide)) 0).trans ((congrFun (congrFun est_1 6) 0).trans ((congrFun (gU_k (by decide)) 0).trans rfl)))))))))))))))) (by have hl0 : (1 : Int32).toInt = 1 := (by decide); have hq1 : (st_15 0 0 30).toInt = 0 := (congrArg Int32.toInt (((n_15.2 0 0 30 (show (30 : Nat) ∉ _ from by decide)).trans ((congrFun (congrFun (congrFun est_14 0) 0) 30).trans (gU_same _ _ _ _ _))))).trans (by decide); omega) ((congrArg Int32.toInt (((n_15.2 0 0 10 (show (10 : Nat) ∉ _ from by decide)).trans (((congrFun (congrFun (congrFun est_14 0) 0) 10).trans (gU_other (by decide))).trans (((congrFun (congrFun (congrFun est_13 0) 0) 10).trans (gU_other (by decide))).trans (((congrFun (congrFun (congrFun est_7 0) 0) 10).trans (gU_other (by decide))).trans (((congrFun (congrFun (congrFun est_6 0) 0) 10).trans (gU_other (by decide))).trans (((congrFun (congrFun (congrFun est_5 0) 0) 10).trans (gU_other (by decide))).trans ((congrFun (congrFun (congrFun est_4 0) 0) 10).trans (gU_same _ _ _ _ _)))))))))).trans hN9) hM hS (lv_sub hl [0, 1, 2] rfl)
