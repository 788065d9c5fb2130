theorem gm_916 : (Jvm.Cond.fieldLink "WellCourtModel" (170 : Nat) "WellCourtModel" "fault" "I") ∈ gz_T := gz_at 916 (by decide +kernel) rfl
theorem gm_917 : (Jvm.Cond.fieldLink "WellCourtModel" (173 : Nat) "WellCourtModel" "faultAt" "I") ∈ gz_T := gz_at 917 (by decide +kernel) rfl
theorem gm_919 : (Jvm.Cond.fieldLink "WellCourtModel" (191 : Nat) "WellCourtModel" "told" "I") ∈ gz_T := gz_at 919 (by decide +kernel) rfl
theorem gm_920 : (Jvm.Cond.fieldLink "WellCourtModel" (194 : Nat) "WellCourtModel" "toldAt" "I") ∈ gz_T := gz_at 920 (by decide +kernel) rfl
theorem gm_1100 : (Jvm.Cond.methodLink "WellCourtModel" (184 : Nat) ({ cls := "WellCourtModel", name := "next0", desc := "()V" } : Jvm.MethodName)) ∈ gz_T := gz_at 1100 (by decide +kernel) rfl
theorem gm_1102 : (Jvm.Cond.instanceMethod ({ cls := "WellCourtModel", name := "next0", desc := "()V" } : Jvm.MethodName)) ∈ gz_T := gz_at 1102 (by decide +kernel) rfl
theorem gm_1103 : (Jvm.Cond.code ({ cls := "WellCourtModel", name := "next0", desc := "()V" } : Jvm.MethodName) prog_12_method_11_code (5 : Nat) (Option.none : Option Jvm.ClassFile.FieldType)) ∈ gz_T := gz_at 1103 (by decide +kernel) rfl
theorem gm_1119 : (Jvm.Cond.methodLink "WellCourtModel" (187 : Nat) ({ cls := "WellCourtModel", name := "isWord", desc := "(J)Z" } : Jvm.MethodName)) ∈ gz_T := gz_at 1119 (by decide +kernel) rfl
theorem gm_1121 : (Jvm.Cond.instanceMethod ({ cls := "WellCourtModel", name := "isWord", desc := "(J)Z" } : Jvm.MethodName)) ∈ gz_T := gz_at 1121 (by decide +kernel) rfl
theorem gm_1122 : (Jvm.Cond.code ({ cls := "WellCourtModel", name := "isWord", desc := "(J)Z" } : Jvm.MethodName) prog_12_method_15_code (3 : Nat) (Option.some Jvm.ClassFile.FieldType.boolean)) ∈ gz_T := gz_at 1122 (by decide +kernel) rfl
theorem gm_1127 : (Jvm.Cond.methodLink "WellCourtModel" (180 : Nat) ({ cls := "WellCourtModel", name := "cant", desc := "()Z" } : Jvm.MethodName)) ∈ gz_T := gz_at 1127 (by decide +kernel) rfl
theorem gm_1129 : (Jvm.Cond.instanceMethod ({ cls := "WellCourtModel", name := "cant", desc := "()Z" } : Jvm.MethodName)) ∈ gz_T := gz_at 1129 (by decide +kernel) rfl
theorem gm_1130 : (Jvm.Cond.code ({ cls := "WellCourtModel", name := "cant", desc := "()Z" } : Jvm.MethodName) prog_12_method_13_code (1 : Nat) (Option.some Jvm.ClassFile.FieldType.boolean)) ∈ gz_T := gz_at 1130 (by decide +kernel) rfl
theorem gm_1131 : (Jvm.Cond.methodLink "WellCourtModel" (176 : Nat) ({ cls := "WellCourtModel", name := "wrong", desc := "(II)Z" } : Jvm.MethodName)) ∈ gz_T := gz_at 1131 (by decide +kernel) rfl
theorem gm_1133 : (Jvm.Cond.instanceMethod ({ cls := "WellCourtModel", name := "wrong", desc := "(II)Z" } : Jvm.MethodName)) ∈ gz_T := gz_at 1133 (by decide +kernel) rfl
theorem gm_1134 : (Jvm.Cond.code ({ cls := "WellCourtModel", name := "wrong", desc := "(II)Z" } : Jvm.MethodName) prog_12_method_12_code (3 : Nat) (Option.some Jvm.ClassFile.FieldType.boolean)) ∈ gz_T := gz_at 1134 (by decide +kernel) rfl
theorem gm_1151 : (Jvm.Cond.constantLong "WellCourtModel" (197 : Nat) (97 : Int64)) ∈ gz_T := gz_at 1151 (by decide +kernel) rfl
theorem gm_1152 : (Jvm.Cond.constantLong "WellCourtModel" (199 : Nat) (102 : Int64)) ∈ gz_T := gz_at 1152 (by decide +kernel) rfl
theorem gs_32 : (Jvm.Cond.selects "WellCourtModel" ({ cls := "WellCourtModel", name := "next0", desc := "()V" } : Jvm.MethodName) ({ cls := "WellCourtModel", name := "next0", desc := "()V" } : Jvm.MethodName)) ∈ gz_T := gz_sel 32 (by decide +kernel) rfl
theorem gs_35 : (Jvm.Cond.selects "WellCourtModel" ({ cls := "WellCourtModel", name := "isWord", desc := "(J)Z" } : Jvm.MethodName) ({ cls := "WellCourtModel", name := "isWord", desc := "(J)Z" } : Jvm.MethodName)) ∈ gz_T := gz_sel 35 (by decide +kernel) rfl
theorem gs_36 : (Jvm.Cond.selects "WellCourtModel" ({ cls := "WellCourtModel", name := "cant", desc := "()Z" } : Jvm.MethodName) ({ cls := "WellCourtModel", name := "cant", desc := "()Z" } : Jvm.MethodName)) ∈ gz_T := gz_sel 36 (by decide +kernel) rfl
theorem gs_37 : (Jvm.Cond.selects "WellCourtModel" ({ cls := "WellCourtModel", name := "wrong", desc := "(II)Z" } : Jvm.MethodName) ({ cls := "WellCourtModel", name := "wrong", desc := "(II)Z" } : Jvm.MethodName)) ∈ gz_T := gz_sel 37 (by decide +kernel) rfl
theorem dX10_cant_0 : decode cX10_cant 0 = .ok (.aload_n 0, 1) := by decide +kernel
theorem dX10_cant_1 : decode cX10_cant 1 = .ok (.aload_n 0, 1) := by decide +kernel
theorem dX10_cant_2 : decode cX10_cant 2 = .ok (.getfield 153, 3) := by decide +kernel
theorem dX10_cant_5 : decode cX10_cant 5 = .ok (.iconst 4, 1) := by decide +kernel
theorem dX10_cant_6 : decode cX10_cant 6 = .ok (.if_icmp .ne 7, 3) := by decide +kernel
theorem dX10_cant_9 : decode cX10_cant 9 = .ok (.iconst 1, 1) := by decide +kernel
theorem dX10_cant_10 : decode cX10_cant 10 = .ok (.goto 4, 3) := by decide +kernel
theorem dX10_cant_13 : decode cX10_cant 13 = .ok (.iconst 2, 1) := by decide +kernel
theorem dX10_cant_14 : decode cX10_cant 14 = .ok (.aload_n 0, 1) := by decide +kernel
theorem dX10_cant_15 : decode cX10_cant 15 = .ok (.getfield 150, 3) := by decide +kernel
theorem dX10_cant_18 : decode cX10_cant 18 = .ok (.invokevirtual 176, 3) := by decide +kernel
theorem dX10_cant_21 : decode cX10_cant 21 = .ok (.ireturn, 1) := by decide +kernel
theorem dX10_isWord_0 : decode cX10_isWord 0 = .ok (.aload_n 0, 1) := by decide +kernel
theorem dX10_isWord_1 : decode cX10_isWord 1 = .ok (.getfield 153, 3) := by decide +kernel
theorem dX10_isWord_4 : decode cX10_isWord 4 = .ok (.iconst 1, 1) := by decide +kernel
theorem dX10_isWord_5 : decode cX10_isWord 5 = .ok (.if_icmp .ne 16, 3) := by decide +kernel
theorem dX10_isWord_8 : decode cX10_isWord 8 = .ok (.aload_n 0, 1) := by decide +kernel
theorem dX10_isWord_9 : decode cX10_isWord 9 = .ok (.getfield 163, 3) := by decide +kernel
theorem dX10_isWord_12 : decode cX10_isWord 12 = .ok (.lload_n 1, 1) := by decide +kernel
theorem dX10_isWord_13 : decode cX10_isWord 13 = .ok (.lcmp, 1) := by decide +kernel
theorem dX10_isWord_14 : decode cX10_isWord 14 = .ok (.ifCond .ne 7, 3) := by decide +kernel
theorem dX10_isWord_17 : decode cX10_isWord 17 = .ok (.iconst 1, 1) := by decide +kernel
theorem dX10_isWord_18 : decode cX10_isWord 18 = .ok (.goto 4, 3) := by decide +kernel
theorem dX10_isWord_21 : decode cX10_isWord 21 = .ok (.iconst 0, 1) := by decide +kernel
theorem dX10_isWord_22 : decode cX10_isWord 22 = .ok (.ireturn, 1) := by decide +kernel
theorem dX10_must_0 : decode cX10_must 0 = .ok (.aload_n 0, 1) := by decide +kernel
theorem dX10_must_1 : decode cX10_must 1 = .ok (.getfield 153, 3) := by decide +kernel
theorem dX10_must_4 : decode cX10_must 4 = .ok (.iconst 3, 1) := by decide +kernel
theorem dX10_must_5 : decode cX10_must 5 = .ok (.if_icmp .ne 11, 3) := by decide +kernel
theorem dX10_must_8 : decode cX10_must 8 = .ok (.aload_n 0, 1) := by decide +kernel
theorem dX10_must_9 : decode cX10_must 9 = .ok (.getfield 167, 3) := by decide +kernel
theorem dX10_must_12 : decode cX10_must 12 = .ok (.iload_n 1, 1) := by decide +kernel
theorem dX10_must_13 : decode cX10_must 13 = .ok (.if_icmp .eq 8, 3) := by decide +kernel
theorem dX10_must_16 : decode cX10_must 16 = .ok (.aload_n 0, 1) := by decide +kernel
theorem dX10_must_17 : decode cX10_must 17 = .ok (.invokevirtual 180, 3) := by decide +kernel
theorem dX10_must_20 : decode cX10_must 20 = .ok (.ireturn, 1) := by decide +kernel
theorem dX10_must_21 : decode cX10_must 21 = .ok (.aload_n 0, 1) := by decide +kernel
theorem dX10_must_22 : decode cX10_must 22 = .ok (.invokevirtual 184, 3) := by decide +kernel
theorem dX10_must_25 : decode cX10_must 25 = .ok (.iconst 1, 1) := by decide +kernel
theorem dX10_must_26 : decode cX10_must 26 = .ok (.ireturn, 1) := by decide +kernel
theorem dX10_mustWord_0 : decode cX10_mustWord 0 = .ok (.aload_n 0, 1) := by decide +kernel
theorem dX10_mustWord_1 : decode cX10_mustWord 1 = .ok (.lload_n 1, 1) := by decide +kernel
theorem dX10_mustWord_2 : decode cX10_mustWord 2 = .ok (.invokevirtual 187, 3) := by decide +kernel
theorem dX10_mustWord_5 : decode cX10_mustWord 5 = .ok (.ifCond .ne 8, 3) := by decide +kernel
theorem dX10_mustWord_8 : decode cX10_mustWord 8 = .ok (.aload_n 0, 1) := by decide +kernel
theorem dX10_mustWord_9 : decode cX10_mustWord 9 = .ok (.invokevirtual 180, 3) := by decide +kernel
theorem dX10_mustWord_12 : decode cX10_mustWord 12 = .ok (.ireturn, 1) := by decide +kernel
theorem dX10_mustWord_13 : decode cX10_mustWord 13 = .ok (.aload_n 0, 1) := by decide +kernel
theorem dX10_mustWord_14 : decode cX10_mustWord 14 = .ok (.invokevirtual 184, 3) := by decide +kernel
theorem dX10_mustWord_17 : decode cX10_mustWord 17 = .ok (.iconst 1, 1) := by decide +kernel
theorem dX10_mustWord_18 : decode cX10_mustWord 18 = .ok (.ireturn, 1) := by decide +kernel
theorem dX10_readClan_0 : decode cX10_readClan 0 = .ok (.aload_n 0, 1) := by decide +kernel
theorem dX10_readClan_1 : decode cX10_readClan 1 = .ok (.getfield 153, 3) := by decide +kernel
theorem dX10_readClan_4 : decode cX10_readClan 4 = .ok (.iconst 1, 1) := by decide +kernel
theorem dX10_readClan_5 : decode cX10_readClan 5 = .ok (.if_icmp .ne 25, 3) := by decide +kernel
theorem dX10_readClan_8 : decode cX10_readClan 8 = .ok (.aload_n 0, 1) := by decide +kernel
theorem dX10_readClan_9 : decode cX10_readClan 9 = .ok (.getfield 163, 3) := by decide +kernel
theorem dX10_readClan_12 : decode cX10_readClan 12 = .ok (.ldc2_w 197, 3) := by decide +kernel
theorem dX10_readClan_15 : decode cX10_readClan 15 = .ok (.lcmp, 1) := by decide +kernel
theorem dX10_readClan_16 : decode cX10_readClan 16 = .ok (.ifCond .lt 14, 3) := by decide +kernel
theorem dX10_readClan_19 : decode cX10_readClan 19 = .ok (.aload_n 0, 1) := by decide +kernel
theorem dX10_readClan_20 : decode cX10_readClan 20 = .ok (.getfield 163, 3) := by decide +kernel
theorem dX10_readClan_23 : decode cX10_readClan 23 = .ok (.ldc2_w 199, 3) := by decide +kernel
theorem dX10_readClan_26 : decode cX10_readClan 26 = .ok (.lcmp, 1) := by decide +kernel
theorem dX10_readClan_27 : decode cX10_readClan 27 = .ok (.ifCond .le 8, 3) := by decide +kernel
theorem dX10_readClan_30 : decode cX10_readClan 30 = .ok (.aload_n 0, 1) := by decide +kernel
theorem dX10_readClan_31 : decode cX10_readClan 31 = .ok (.invokevirtual 180, 3) := by decide +kernel
theorem dX10_readClan_34 : decode cX10_readClan 34 = .ok (.ireturn, 1) := by decide +kernel
theorem dX10_readClan_35 : decode cX10_readClan 35 = .ok (.aload_n 0, 1) := by decide +kernel
theorem dX10_readClan_36 : decode cX10_readClan 36 = .ok (.aload_n 0, 1) := by decide +kernel
theorem dX10_readClan_37 : decode cX10_readClan 37 = .ok (.getfield 163, 3) := by decide +kernel
theorem dX10_readClan_40 : decode cX10_readClan 40 = .ok (.l2i, 1) := by decide +kernel
theorem dX10_readClan_41 : decode cX10_readClan 41 = .ok (.bipush 97, 2) := by decide +kernel
theorem dX10_readClan_43 : decode cX10_readClan 43 = .ok (.isub, 1) := by decide +kernel
theorem dX10_readClan_44 : decode cX10_readClan 44 = .ok (.putfield 191, 3) := by decide +kernel
theorem dX10_readClan_47 : decode cX10_readClan 47 = .ok (.aload_n 0, 1) := by decide +kernel
theorem dX10_readClan_48 : decode cX10_readClan 48 = .ok (.aload_n 0, 1) := by decide +kernel
theorem dX10_readClan_49 : decode cX10_readClan 49 = .ok (.getfield 150, 3) := by decide +kernel
theorem dX10_readClan_52 : decode cX10_readClan 52 = .ok (.putfield 194, 3) := by decide +kernel
theorem dX10_readClan_55 : decode cX10_readClan 55 = .ok (.aload_n 0, 1) := by decide +kernel
theorem dX10_readClan_56 : decode cX10_readClan 56 = .ok (.invokevirtual 184, 3) := by decide +kernel
theorem dX10_readClan_59 : decode cX10_readClan 59 = .ok (.iconst 1, 1) := by decide +kernel
theorem dX10_readClan_60 : decode cX10_readClan 60 = .ok (.ireturn, 1) := by decide +kernel
theorem dX10_readNumber_0 : decode cX10_readNumber 0 = .ok (.aload_n 0, 1) := by decide +kernel
theorem dX10_readNumber_1 : decode cX10_readNumber 1 = .ok (.getfield 153, 3) := by decide +kernel
theorem dX10_readNumber_4 : decode cX10_readNumber 4 = .ok (.iconst 2, 1) := by decide +kernel
theorem dX10_readNumber_5 : decode cX10_readNumber 5 = .ok (.if_icmp .eq 8, 3) := by decide +kernel
theorem dX10_readNumber_8 : decode cX10_readNumber 8 = .ok (.aload_n 0, 1) := by decide +kernel
theorem dX10_readNumber_9 : decode cX10_readNumber 9 = .ok (.invokevirtual 180, 3) := by decide +kernel
theorem dX10_readNumber_12 : decode cX10_readNumber 12 = .ok (.ireturn, 1) := by decide +kernel
theorem dX10_readNumber_13 : decode cX10_readNumber 13 = .ok (.aload_n 0, 1) := by decide +kernel
theorem dX10_readNumber_14 : decode cX10_readNumber 14 = .ok (.getfield 167, 3) := by decide +kernel
theorem dX10_readNumber_17 : decode cX10_readNumber 17 = .ok (.iload_n 1, 1) := by decide +kernel
theorem dX10_readNumber_18 : decode cX10_readNumber 18 = .ok (.if_icmp .lt 11, 3) := by decide +kernel
theorem dX10_readNumber_21 : decode cX10_readNumber 21 = .ok (.aload_n 0, 1) := by decide +kernel
theorem dX10_readNumber_22 : decode cX10_readNumber 22 = .ok (.getfield 167, 3) := by decide +kernel
theorem dX10_readNumber_25 : decode cX10_readNumber 25 = .ok (.iload_n 2, 1) := by decide +kernel
theorem dX10_readNumber_26 : decode cX10_readNumber 26 = .ok (.if_icmp .le 13, 3) := by decide +kernel
theorem dX10_readNumber_29 : decode cX10_readNumber 29 = .ok (.aload_n 0, 1) := by decide +kernel
theorem dX10_readNumber_30 : decode cX10_readNumber 30 = .ok (.iconst 3, 1) := by decide +kernel
theorem dX10_readNumber_31 : decode cX10_readNumber 31 = .ok (.aload_n 0, 1) := by decide +kernel
theorem dX10_readNumber_32 : decode cX10_readNumber 32 = .ok (.getfield 150, 3) := by decide +kernel
theorem dX10_readNumber_35 : decode cX10_readNumber 35 = .ok (.invokevirtual 176, 3) := by decide +kernel
theorem dX10_readNumber_38 : decode cX10_readNumber 38 = .ok (.ireturn, 1) := by decide +kernel
theorem dX10_readNumber_39 : decode cX10_readNumber 39 = .ok (.aload_n 0, 1) := by decide +kernel
theorem dX10_readNumber_40 : decode cX10_readNumber 40 = .ok (.aload_n 0, 1) := by decide +kernel
theorem dX10_readNumber_41 : decode cX10_readNumber 41 = .ok (.getfield 167, 3) := by decide +kernel
theorem dX10_readNumber_44 : decode cX10_readNumber 44 = .ok (.putfield 191, 3) := by decide +kernel
theorem dX10_readNumber_47 : decode cX10_readNumber 47 = .ok (.aload_n 0, 1) := by decide +kernel
theorem dX10_readNumber_48 : decode cX10_readNumber 48 = .ok (.aload_n 0, 1) := by decide +kernel
theorem dX10_readNumber_49 : decode cX10_readNumber 49 = .ok (.getfield 150, 3) := by decide +kernel
theorem dX10_readNumber_52 : decode cX10_readNumber 52 = .ok (.putfield 194, 3) := by decide +kernel
theorem dX10_readNumber_55 : decode cX10_readNumber 55 = .ok (.aload_n 0, 1) := by decide +kernel
theorem dX10_readNumber_56 : decode cX10_readNumber 56 = .ok (.invokevirtual 184, 3) := by decide +kernel
theorem dX10_readNumber_59 : decode cX10_readNumber 59 = .ok (.iconst 1, 1) := by decide +kernel
theorem dX10_readNumber_60 : decode cX10_readNumber 60 = .ok (.ireturn, 1) := by decide +kernel
theorem dX10_wrong_0 : decode cX10_wrong 0 = .ok (.aload_n 0, 1) := by decide +kernel
theorem dX10_wrong_1 : decode cX10_wrong 1 = .ok (.iload_n 1, 1) := by decide +kernel
theorem dX10_wrong_2 : decode cX10_wrong 2 = .ok (.putfield 170, 3) := by decide +kernel
theorem dX10_wrong_5 : decode cX10_wrong 5 = .ok (.aload_n 0, 1) := by decide +kernel
theorem dX10_wrong_6 : decode cX10_wrong 6 = .ok (.iload_n 2, 1) := by decide +kernel
theorem dX10_wrong_7 : decode cX10_wrong 7 = .ok (.putfield 173, 3) := by decide +kernel
theorem dX10_wrong_10 : decode cX10_wrong 10 = .ok (.iconst 0, 1) := by decide +kernel
theorem dX10_wrong_11 : decode cX10_wrong 11 = .ok (.ireturn, 1) := by decide +kernel
set_option maxHeartbeats 4000000 in
set_option maxRecDepth 100000 in
/-- WellCourtModel.wrong -/
theorem m_wrong (l : Launch) (G : va_G) (cy : Nat → ClassId) (sK sV : Nat → Nat) (ad : Nat → Nat → Nat) (sz : Nat) (st : gS) (hB : gBd bM st) (x : Int32) (y : Int32) : gsMi l yX10_wrong cX10_wrong 3 (some .boolean) ({ frames := 0, cells := 0, slots := 0, locals := 0 } : Room) G cy sK sV (shM cy ad) cnM ad sz [.ref (ad 0 0), .int x, .int y] st (fun (r : Int32) (u : gS) => gBN bM kM [15, 16] st u ∧ (r = 0)) := by
  refine gs_start (fun A => gsQi G (shM cy ad) cnM ad _ A) (by decide) (Nat.le_of_ble_eq_true rfl) ?_
  intro p e s m below meth c A ls H hx hb hr hml hlocks hown hts hK hov hE hI hM hm hS hA hl
  have hl : lv_has ls 3 [(0, .ref (ad 0 0)), (1, .int x), (2, .int y)] := hl
  have hB_st : gBN bM kM [15, 16] st st := gBN.rf hB
  refine lv_aload_n hx hb dX10_wrong_0 rfl (lv_at hl 0 rfl) ?_
  refine lv_iload_n hx hb dX10_wrong_1 rfl (lv_at hl 1 rfl) ?_
  refine gs_put (C := RX10) (T := TX10) (N := 59) (ty := .int) (val := .int x) hx hb hts inX10 tyX10 tyX10_ok nmX10 hown hK hI hm hM hS 0 0 15 (by decide) rfl rfl (by decide) (hts _ gm_916) (fun _ h9 => h9) rfl (x : Int32) rfl (by decide +kernel) rfl rfl (Nat.le_of_ble_eq_true rfl) dX10_wrong_2 (fun st_1 H locs est_1 hM hS => ?_)
  have hB_st_1 : gBN bM kM [15, 16] st st_1 := by rw [est_1]; exact hB_st.up (show (15 : Nat) ∈ _ from by decide) (gi_lo _) (gi_hi _)
  refine lv_aload_n hx hb dX10_wrong_5 rfl (lv_at hl 0 rfl) ?_
  refine lv_iload_n hx hb dX10_wrong_6 rfl (lv_at hl 2 rfl) ?_
  refine gs_put (C := RX10) (T := TX10) (N := 59) (ty := .int) (val := .int y) hx hb hts inX10 tyX10 tyX10_ok nmX10 hown hK hI hm hM hS 0 0 16 (by decide) rfl rfl (by decide) (hts _ gm_917) (fun _ h9 => h9) rfl (y : Int32) rfl (by decide +kernel) rfl rfl (Nat.le_of_ble_eq_true rfl) dX10_wrong_7 (fun st_2 H locs est_2 hM hS => ?_)
  have hB_st_2 : gBN bM kM [15, 16] st st_2 := by rw [est_2]; exact hB_st_1.up (show (16 : Nat) ∈ _ from by decide) (gi_lo _) (gi_hi _)
  refine lv_iconst (v := 0) hx hb dX10_wrong_10 (by decide) ?_
  exact gs_iret hx hb hr hlocks hM hS (by decide) ⟨hB_st_2, rfl⟩ (by exact Nat.le_refl _) (by exact Nat.le_refl _) dX10_wrong_11

set_option maxHeartbeats 4000000 in
set_option maxRecDepth 100000 in
/-- WellCourtModel.cant -/
theorem m_cant (l : Launch) (G : va_G) (cy : Nat → ClassId) (sK sV : Nat → Nat) (ad : Nat → Nat → Nat) (sz : Nat) (st : gS) (hB : gBd bM st) : gsMi l yX10_cant cX10_cant 1 (some .boolean) ({ frames := 1, cells := 0, slots := 0, locals := 22 } : Room) G cy sK sV (shM cy ad) cnM ad sz [.ref (ad 0 0)] st (fun (r : Int32) (u : gS) => gBN bM kM [15, 16] st u ∧ (r = 0)) := by
  refine gs_start (fun A => gsQi G (shM cy ad) cnM ad _ A) (by decide) (Nat.le_of_ble_eq_true rfl) ?_
  intro p e s m below meth c A ls H hx hb hr hml hlocks hown hts hK hov hE hI hM hm hS hA hl
  have hl : lv_has ls 1 [(0, .ref (ad 0 0))] := hl
  have hB_st : gBN bM kM [15, 16] st st := gBN.rf hB
  refine lv_aload_n hx hb dX10_cant_0 rfl (lv_at hl 0 rfl) ?_
  refine lv_aload_n hx hb dX10_cant_1 rfl (lv_at hl 0 rfl) ?_
  refine gs_get (C := RX10) (T := TX10) (N := 59) hx hb hts inX10 hown hK hM 0 0 12 (by decide) rfl rfl (by decide) (hts _ gm_913) (fun _ h9 => h9) rfl dX10_cant_2 ?_
  refine lv_iconst (v := 4) hx hb dX10_cant_5 (by decide) ?_
  refine lv_icmp_ne (tgt := 13) hx hb dX10_cant_6 (by decide) (fun c_2 => ?_) (fun c_2 => ?_)
  · have ic_2 := gz_ne (rfl : (st 0 0 12).toInt = (st 0 0 12).toInt) (by decide : (4 : Int32).toInt = 4) c_2
    refine lv_iconst (v := 2) hx hb dX10_cant_13 (by decide) ?_
    refine lv_aload_n hx hb dX10_cant_14 rfl (lv_at hl 0 rfl) ?_
    refine gs_get (C := RX10) (T := TX10) (N := 59) hx hb hts inX10 hown hK hM 0 0 13 (by decide) rfl rfl (by decide) (hts _ gm_914) (fun _ h9 => h9) rfl dX10_cant_15 ?_
    refine gs_calli (va_runV (As := [.int 2, .int (st 0 0 13)]) (rest := []) ⟨hx, hb, hml, hown, hts⟩ (m_wrong l G cy sK sV ad H.size st hB_st.1 (2 : Int32) (st 0 0 13) ) ⟨(gz_cb (n := 2) hts gm_1131 gm_12 gm_1134 ⟨by decide +kernel, by decide +kernel, by decide +kernel⟩ ⟨Nat.le_of_ble_eq_true rfl, Nat.le_of_ble_eq_true rfl⟩), hts _ gm_1133, hts _ gs_37⟩ (gs_preV hK hov hE hI hM hm hS hA 0 0 (by decide) rfl rfl) rfl rfl hl.1 rfl (lv_room (Nat.le_of_ble_eq_true rfl)) dX10_cant_18 ⟨Nat.le_of_ble_eq_true rfl, Nat.le_of_ble_eq_true rfl⟩) hm hS hA (fun r_4 st_4 H locs hw_4 hM hS => ?_)
    obtain ⟨n_4, hw_4⟩ := hw_4
    have hB_st_4 : gBN bM kM [15, 16] st st_4 := hB_st.call n_4 (by decide)
    obtain rfl := hw_4
    exact gs_iret hx hb hr hlocks hM hS (by decide) ⟨hB_st_4, rfl⟩ (by exact Nat.le_refl _) (by exact Nat.le_refl _) dX10_cant_21
  · have ic_2 := gz_eqn (rfl : (st 0 0 12).toInt = (st 0 0 12).toInt) (by decide : (4 : Int32).toInt = 4) c_2
    refine lv_iconst (v := 1) hx hb dX10_cant_9 (by decide) ?_
    refine lv_goto (tgt := 14) hx hb dX10_cant_10 (by decide) ?_
    refine lv_aload_n hx hb dX10_cant_14 rfl (lv_at hl 0 rfl) ?_
    refine gs_get (C := RX10) (T := TX10) (N := 59) hx hb hts inX10 hown hK hM 0 0 13 (by decide) rfl rfl (by decide) (hts _ gm_914) (fun _ h9 => h9) rfl dX10_cant_15 ?_
    refine gs_calli (va_runV (As := [.int 1, .int (st 0 0 13)]) (rest := []) ⟨hx, hb, hml, hown, hts⟩ (m_wrong l G cy sK sV ad H.size st hB_st.1 (1 : Int32) (st 0 0 13) ) ⟨(gz_cb (n := 2) hts gm_1131 gm_12 gm_1134 ⟨by decide +kernel, by decide +kernel, by decide +kernel⟩ ⟨Nat.le_of_ble_eq_true rfl, Nat.le_of_ble_eq_true rfl⟩), hts _ gm_1133, hts _ gs_37⟩ (gs_preV hK hov hE hI hM hm hS hA 0 0 (by decide) rfl rfl) rfl rfl hl.1 rfl (lv_room (Nat.le_of_ble_eq_true rfl)) dX10_cant_18 ⟨Nat.le_of_ble_eq_true rfl, Nat.le_of_ble_eq_true rfl⟩) hm hS hA (fun r_6 st_6 H locs hw_6 hM hS => ?_)
    obtain ⟨n_6, hw_6⟩ := hw_6
    have hB_st_6 : gBN bM kM [15, 16] st st_6 := hB_st.call n_6 (by decide)
    obtain rfl := hw_6
    exact gs_iret hx hb hr hlocks hM hS (by decide) ⟨hB_st_6, rfl⟩ (by exact Nat.le_refl _) (by exact Nat.le_refl _) dX10_cant_21

set_option maxHeartbeats 4000000 in
set_option maxRecDepth 100000 in
/-- WellCourtModel.must -/
theorem m_must (l : Launch) (G : va_G) (cy : Nat → ClassId) (sK sV : Nat → Nat) (ad : Nat → Nat → Nat) (sz : Nat) (st : gS) (hB : gBd bM st) (x : Int32) (Xx : Int) (kx : x.toInt = Xx) (F : Nat → Int32) (N : Int) (hF : st 7 0 = F) (hN : (st 0 0 10).toInt = N) (P : Int) (hC : mCur F N P st) : gsMi l yX10_must cX10_must 2 (some .boolean) ({ frames := 2, cells := 0, slots := 0, locals := 44 } : Room) G cy sK sV (shM cy ad) cnM ad sz [.ref (ad 0 0), .int x] st (fun (r : Int32) (u : gS) => gBN bM kM [11, 12, 13, 14, 15, 16, 17, 59] st u ∧ ((r = 1 ∧ (∃ e9 : Int, gSign F N (mLex F N) Xx P = some e9 ∧ mCur F N e9 u)) ∨ (r = 0 ∧ (gSign F N (mLex F N) Xx P = none)))) := by
  refine gs_start (fun A => gsQi G (shM cy ad) cnM ad _ A) (by decide) (Nat.le_of_ble_eq_true rfl) ?_
  intro p e s m below meth c A ls H hx hb hr hml hlocks hown hts hK hov hE hI hM hm hS hA hl
  have hl : lv_has ls 2 [(0, .ref (ad 0 0)), (1, .int x)] := hl
  have hB_st : gBN bM kM [11, 12, 13, 14, 15, 16, 17, 59] st st := gBN.rf hB
  refine lv_aload_n hx hb dX10_must_0 rfl (lv_at hl 0 rfl) ?_
  refine gs_get (C := RX10) (T := TX10) (N := 59) hx hb hts inX10 hown hK hM 0 0 12 (by decide) rfl rfl (by decide) (hts _ gm_913) (fun _ h9 => h9) rfl dX10_must_1 ?_
  refine lv_iconst (v := 3) hx hb dX10_must_4 (by decide) ?_
  refine lv_icmp_ne (tgt := 16) hx hb dX10_must_5 (by decide) (fun c_2 => ?_) (fun c_2 => ?_)
  · have ic_2 := gz_ne (rfl : (st 0 0 12).toInt = (st 0 0 12).toInt) (by decide : (3 : Int32).toInt = 3) c_2
    refine lv_aload_n hx hb dX10_must_16 rfl (lv_at hl 0 rfl) ?_
    refine gs_calli (va_runV (As := []) (rest := []) ⟨hx, hb, hml, hown, hts⟩ (m_cant l G cy sK sV ad H.size st hB_st.1  ) ⟨(gz_cb (n := 0) hts gm_1127 gm_12 gm_1130 ⟨by decide +kernel, by decide +kernel, by decide +kernel⟩ ⟨Nat.le_of_ble_eq_true rfl, Nat.le_of_ble_eq_true rfl⟩), hts _ gm_1129, hts _ gs_36⟩ (gs_preV hK hov hE hI hM hm hS hA 0 0 (by decide) rfl rfl) rfl rfl hl.1 rfl (lv_room (Nat.le_of_ble_eq_true rfl)) dX10_must_17 ⟨Nat.le_of_ble_eq_true rfl, Nat.le_of_ble_eq_true rfl⟩) hm hS hA (fun r_3 st_3 H locs hw_3 hM hS => ?_)
    obtain ⟨n_3, hw_3⟩ := hw_3
    have hB_st_3 : gBN bM kM [11, 12, 13, 14, 15, 16, 17, 59] st st_3 := hB_st.call n_3 (by decide)
    obtain rfl := hw_3
    exact gs_iret hx hb hr hlocks hM hS (by decide) ⟨hB_st_3, (Or.inr ⟨rfl, hC.s0 (by omega)⟩)⟩ (by exact Nat.le_refl _) (by exact Nat.le_refl _) dX10_must_20
  · have ic_2 := gz_eqn (rfl : (st 0 0 12).toInt = (st 0 0 12).toInt) (by decide : (3 : Int32).toInt = 3) c_2
    refine lv_aload_n hx hb dX10_must_8 rfl (lv_at hl 0 rfl) ?_
    refine gs_get (C := RX10) (T := TX10) (N := 59) hx hb hts inX10 hown hK hM 0 0 14 (by decide) rfl rfl (by decide) (hts _ gm_915) (fun _ h9 => h9) rfl dX10_must_9 ?_
    refine lv_iload_n hx hb dX10_must_12 rfl (lv_at hl 1 rfl) ?_
    refine lv_icmp_eq (tgt := 21) hx hb dX10_must_13 (by decide) (fun c_5 => ?_) (fun c_5 => ?_)
    · have ic_5 := gz_eq (rfl : (st 0 0 14).toInt = (st 0 0 14).toInt) (rfl : x.toInt = x.toInt) c_5
      refine lv_aload_n hx hb dX10_must_21 rfl (lv_at hl 0 rfl) ?_
      refine gs_callv (va_runV (As := []) (rest := []) ⟨hx, hb, hml, hown, hts⟩ (m_next0 l G cy sK sV ad H.size st hB_st.1  F N hF hN) ⟨(gz_cb (n := 0) hts gm_1100 gm_12 gm_1103 ⟨by decide +kernel, by decide +kernel, by decide +kernel⟩ ⟨Nat.le_of_ble_eq_true rfl, Nat.le_of_ble_eq_true rfl⟩), hts _ gm_1102, hts _ gs_32⟩ (gs_preV hK hov hE hI hM hm hS hA 0 0 (by decide) rfl rfl) rfl rfl hl.1 rfl (lv_room (Nat.le_of_ble_eq_true rfl)) dX10_must_22 ⟨Nat.le_of_ble_eq_true rfl, Nat.le_of_ble_eq_true rfl⟩) hm hS hA (fun st_6 H locs hw_6 hM hS => ?_)
      obtain ⟨n_6, hw_6⟩ := hw_6
      have hB_st_6 : gBN bM kM [11, 12, 13, 14, 15, 16, 17, 59] st st_6 := hB_st.call n_6 (by decide)
      have hbhw_60 : (0 : Int) ≤ (st 0 0 11).toInt ∧ (st 0 0 11).toInt ≤ (800 : Int) := hB_st.1 0 0 11
      have hw_6_0 := hw_6
      refine lv_iconst (v := 1) hx hb dX10_must_25 (by decide) ?_
      exact gs_iret hx hb hr hlocks hM hS (by decide) ⟨hB_st_6, (Or.inl ⟨rfl, ⟨(st 0 0 11).toInt, hC.s1 (by omega) (by omega), hw_6_0⟩⟩)⟩ (by exact Nat.le_refl _) (by exact Nat.le_refl _) dX10_must_26
    · have ic_5 := gz_ne (rfl : (st 0 0 14).toInt = (st 0 0 14).toInt) (rfl : x.toInt = x.toInt) c_5
      refine lv_aload_n hx hb dX10_must_16 rfl (lv_at hl 0 rfl) ?_
      refine gs_calli (va_runV (As := []) (rest := []) ⟨hx, hb, hml, hown, hts⟩ (m_cant l G cy sK sV ad H.size st hB_st.1  ) ⟨(gz_cb (n := 0) hts gm_1127 gm_12 gm_1130 ⟨by decide +kernel, by decide +kernel, by decide +kernel⟩ ⟨Nat.le_of_ble_eq_true rfl, Nat.le_of_ble_eq_true rfl⟩), hts _ gm_1129, hts _ gs_36⟩ (gs_preV hK hov hE hI hM hm hS hA 0 0 (by decide) rfl rfl) rfl rfl hl.1 rfl (lv_room (Nat.le_of_ble_eq_true rfl)) dX10_must_17 ⟨Nat.le_of_ble_eq_true rfl, Nat.le_of_ble_eq_true rfl⟩) hm hS hA (fun r_7 st_7 H locs hw_7 hM hS => ?_)
      obtain ⟨n_7, hw_7⟩ := hw_7
      have hB_st_7 : gBN bM kM [11, 12, 13, 14, 15, 16, 17, 59] st st_7 := hB_st.call n_7 (by decide)
      obtain rfl := hw_7
      exact gs_iret hx hb hr hlocks hM hS (by decide) ⟨hB_st_7, (Or.inr ⟨rfl, hC.s0 (by omega)⟩)⟩ (by exact Nat.le_refl _) (by exact Nat.le_refl _) dX10_must_20

set_option maxHeartbeats 4000000 in
set_option maxRecDepth 100000 in
/-- WellCourtModel.isWord -/
theorem m_isWord (l : Launch) (G : va_G) (cy : Nat → ClassId) (sK sV : Nat → Nat) (ad : Nat → Nat → Nat) (sz : Nat) (st : gS) (hB : gBd bM st) (w : Int64) : gsMi l yX10_isWord cX10_isWord 3 (some .boolean) ({ frames := 0, cells := 0, slots := 0, locals := 0 } : Room) G cy sK sV (shM cy ad) cnM ad sz [.ref (ad 0 0), .long w] st (fun (r : Int32) (u : gS) => gBN bM kM [] st u ∧ ((r = 1 ∧ ((st 0 0 12).toInt = 1 ∧ lw (st 0 0 17) (st 0 0 59) = w)) ∨ (r = 0 ∧ (¬ ((st 0 0 12).toInt = 1 ∧ lw (st 0 0 17) (st 0 0 59) = w))))) := by
  refine gs_start (fun A => gsQi G (shM cy ad) cnM ad _ A) (by decide) (Nat.le_of_ble_eq_true rfl) ?_
  intro p e s m below meth c A ls H hx hb hr hml hlocks hown hts hK hov hE hI hM hm hS hA hl
  have hl : lv_has ls 3 [(0, .ref (ad 0 0)), (1, .long w)] := hl
  have hB_st : gBN bM kM [] st st := gBN.rf hB
  refine lv_aload_n hx hb dX10_isWord_0 rfl (lv_at hl 0 rfl) ?_
  refine gs_get (C := RX10) (T := TX10) (N := 59) hx hb hts inX10 hown hK hM 0 0 12 (by decide) rfl rfl (by decide) (hts _ gm_913) (fun _ h9 => h9) rfl dX10_isWord_1 ?_
  refine lv_iconst (v := 1) hx hb dX10_isWord_4 (by decide) ?_
  refine lv_icmp_ne (tgt := 21) hx hb dX10_isWord_5 (by decide) (fun c_2 => ?_) (fun c_2 => ?_)
  · have ic_2 := gz_ne (rfl : (st 0 0 12).toInt = (st 0 0 12).toInt) (by decide : (1 : Int32).toInt = 1) c_2
    refine lv_iconst (v := 0) hx hb dX10_isWord_21 (by decide) ?_
    exact gs_iret hx hb hr hlocks hM hS (by decide) ⟨hB_st, (Or.inr ⟨rfl, fun h9 => by first | exact absurd h9.1 (by omega) | (have h8 := tx.mpr h9.2; omega)⟩)⟩ (by exact Nat.le_refl _) (by exact Nat.le_refl _) dX10_isWord_22
  · have ic_2 := gz_eqn (rfl : (st 0 0 12).toInt = (st 0 0 12).toInt) (by decide : (1 : Int32).toInt = 1) c_2
    refine lv_aload_n hx hb dX10_isWord_8 rfl (lv_at hl 0 rfl) ?_
    refine gs_get (C := RX10) (T := TX10) (N := 59) hx hb hts inX10 hown hK hM 0 0 17 (by decide) rfl rfl (by decide) (hts _ gm_918) (fun _ h9 => h9) rfl dX10_isWord_9 ?_
    refine lv_lload_n hx hb dX10_isWord_12 rfl (lv_at hl 1 rfl) ?_
    refine W.lcmp hx hb dX10_isWord_13 ?_
    refine lv_topi (fun x_3 ex_3 => ?_)
    have tx_3 := gs_cmp0 ex_3
    refine lv_if_ne (tgt := 21) hx hb dX10_isWord_14 (by decide) (fun c_4 => ?_) (fun c_4 => ?_)
    · have ic_4 := gz_ne (rfl : x_3.toInt = x_3.toInt) (by decide : (0 : Int32).toInt = 0) c_4
      refine lv_iconst (v := 0) hx hb dX10_isWord_21 (by decide) ?_
      exact gs_iret hx hb hr hlocks hM hS (by decide) ⟨hB_st, (Or.inr ⟨rfl, fun h9 => by first | exact absurd h9.1 (by omega) | (have h8 := tx_3.mpr h9.2; omega)⟩)⟩ (by exact Nat.le_refl _) (by exact Nat.le_refl _) dX10_isWord_22
    · have ic_4 := gz_eqn (rfl : x_3.toInt = x_3.toInt) (by decide : (0 : Int32).toInt = 0) c_4
      refine lv_iconst (v := 1) hx hb dX10_isWord_17 (by decide) ?_
      refine lv_goto (tgt := 22) hx hb dX10_isWord_18 (by decide) ?_
      exact gs_iret hx hb hr hlocks hM hS (by decide) ⟨hB_st, (Or.inl ⟨rfl, by omega, tx_3.mp (by omega)⟩)⟩ (by exact Nat.le_refl _) (by exact Nat.le_refl _) dX10_isWord_22

set_option maxHeartbeats 4000000 in
set_option maxRecDepth 100000 in
/-- WellCourtModel.mustWord -/
theorem m_mustWord (l : Launch) (G : va_G) (cy : Nat → ClassId) (sK sV : Nat → Nat) (ad : Nat → Nat → Nat) (sz : Nat) (st : gS) (hB : gBd bM st) (w : Int64) (F : Nat → Int32) (N : Int) (hF : st 7 0 = F) (hN : (st 0 0 10).toInt = N) (P : Int) (hC : mCur F N P st) (wl : List Int) (hwl : w = lN (pkW wl) ∧ (∀ c ∈ wl, 1 ≤ c ∧ c ≤ 255) ∧ wl.length ≤ 8 ∧ 0 < pkW wl) : gsMi l yX10_mustWord cX10_mustWord 3 (some .boolean) ({ frames := 2, cells := 0, slots := 0, locals := 44 } : Room) G cy sK sV (shM cy ad) cnM ad sz [.ref (ad 0 0), .long w] st (fun (r : Int32) (u : gS) => gBN bM kM [11, 12, 13, 14, 15, 16, 17, 59] st u ∧ ((r = 1 ∧ (∃ e9 : Int, gWord F N (mLex F N) wl P = some e9 ∧ mCur F N e9 u)) ∨ (r = 0 ∧ (gWord F N (mLex F N) wl P = none)))) := by
  refine gs_start (fun A => gsQi G (shM cy ad) cnM ad _ A) (by decide) (Nat.le_of_ble_eq_true rfl) ?_
  intro p e s m below meth c A ls H hx hb hr hml hlocks hown hts hK hov hE hI hM hm hS hA hl
  have hl : lv_has ls 3 [(0, .ref (ad 0 0)), (1, .long w)] := hl
  have hB_st : gBN bM kM [11, 12, 13, 14, 15, 16, 17, 59] st st := gBN.rf hB
  have hn8 : N ≤ 800 := (by have h9 : (0 : Int) ≤ (st 0 0 10).toInt ∧ (st 0 0 10).toInt ≤ (800 : Int) := hB 0 0 10; omega)
  refine lv_aload_n hx hb dX10_mustWord_0 rfl (lv_at hl 0 rfl) ?_
  refine lv_lload_n hx hb dX10_mustWord_1 rfl (lv_at hl 1 rfl) ?_
  refine gs_calli (va_runV (As := [.long w]) (rest := []) ⟨hx, hb, hml, hown, hts⟩ (m_isWord l G cy sK sV ad H.size st hB_st.1 w ) ⟨(gz_cb (n := 1) hts gm_1119 gm_12 gm_1122 ⟨by decide +kernel, by decide +kernel, by decide +kernel⟩ ⟨Nat.le_of_ble_eq_true rfl, Nat.le_of_ble_eq_true rfl⟩), hts _ gm_1121, hts _ gs_35⟩ (gs_preV hK hov hE hI hM hm hS hA 0 0 (by decide) rfl rfl) rfl rfl hl.1 rfl (lv_room (Nat.le_of_ble_eq_true rfl)) dX10_mustWord_2 ⟨Nat.le_of_ble_eq_true rfl, Nat.le_of_ble_eq_true rfl⟩) hm hS hA (fun r_1 st_1 H locs hw_1 hM hS => ?_)
  obtain ⟨n_1, hw_1⟩ := hw_1
  have n_1 := gBN.nil n_1
  subst n_1
  rcases hw_1 with ⟨rfl, hw_1_0⟩ | ⟨rfl, hw_1_0⟩
  · skip
    refine lv_if_ne (tgt := 13) hx hb dX10_mustWord_5 (by decide) (fun _ => ?_) (fun h9 => absurd h9 (by decide))
    refine lv_aload_n hx hb dX10_mustWord_13 rfl (lv_at hl 0 rfl) ?_
    refine gs_callv (va_runV (As := []) (rest := []) ⟨hx, hb, hml, hown, hts⟩ (m_next0 l G cy sK sV ad H.size st hB_st.1  F N hF hN) ⟨(gz_cb (n := 0) hts gm_1100 gm_12 gm_1103 ⟨by decide +kernel, by decide +kernel, by decide +kernel⟩ ⟨Nat.le_of_ble_eq_true rfl, Nat.le_of_ble_eq_true rfl⟩), hts _ gm_1102, hts _ gs_32⟩ (gs_preV hK hov hE hI hM hm hS hA 0 0 (by decide) rfl rfl) rfl rfl hl.1 rfl (lv_room (Nat.le_of_ble_eq_true rfl)) dX10_mustWord_14 ⟨Nat.le_of_ble_eq_true rfl, Nat.le_of_ble_eq_true rfl⟩) hm hS hA (fun st_2 H locs hw_2 hM hS => ?_)
    obtain ⟨n_2, hw_2⟩ := hw_2
    have hB_st_2 : gBN bM kM [11, 12, 13, 14, 15, 16, 17, 59] st st_2 := hB_st.call n_2 (by decide)
    have hbhw_20 : (0 : Int) ≤ (st 0 0 11).toInt ∧ (st 0 0 11).toInt ≤ (800 : Int) := hB_st.1 0 0 11
    have hw_2_0 := hw_2
    refine lv_iconst (v := 1) hx hb dX10_mustWord_17 (by decide) ?_
    exact gs_iret hx hb hr hlocks hM hS (by decide) ⟨hB_st_2, (Or.inl ⟨rfl, ⟨(st 0 0 11).toInt, hC.w1 hn8 hwl.2.1 hwl.2.2.1 hwl.2.2.2 hw_1_0.1 (hw_1_0.2.trans hwl.1), hw_2_0⟩⟩)⟩ (by exact Nat.le_refl _) (by exact Nat.le_refl _) dX10_mustWord_18
  · skip
    refine lv_if_ne (tgt := 13) hx hb dX10_mustWord_5 (by decide) (fun h9 => absurd (by decide) h9) (fun _ => ?_)
    refine lv_aload_n hx hb dX10_mustWord_8 rfl (lv_at hl 0 rfl) ?_
    refine gs_calli (va_runV (As := []) (rest := []) ⟨hx, hb, hml, hown, hts⟩ (m_cant l G cy sK sV ad H.size st hB_st.1  ) ⟨(gz_cb (n := 0) hts gm_1127 gm_12 gm_1130 ⟨by decide +kernel, by decide +kernel, by decide +kernel⟩ ⟨Nat.le_of_ble_eq_true rfl, Nat.le_of_ble_eq_true rfl⟩), hts _ gm_1129, hts _ gs_36⟩ (gs_preV hK hov hE hI hM hm hS hA 0 0 (by decide) rfl rfl) rfl rfl hl.1 rfl (lv_room (Nat.le_of_ble_eq_true rfl)) dX10_mustWord_9 ⟨Nat.le_of_ble_eq_true rfl, Nat.le_of_ble_eq_true rfl⟩) hm hS hA (fun r_3 st_3 H locs hw_3 hM hS => ?_)
    obtain ⟨n_3, hw_3⟩ := hw_3
    have hB_st_3 : gBN bM kM [11, 12, 13, 14, 15, 16, 17, 59] st st_3 := hB_st.call n_3 (by decide)
    obtain rfl := hw_3
    exact gs_iret hx hb hr hlocks hM hS (by decide) ⟨hB_st_3, (Or.inr ⟨rfl, hC.w0 hn8 hwl.2.1 hwl.2.2.1 hwl.2.2.2 (fun h9 => hw_1_0 ⟨h9.1, h9.2.trans hwl.1.symm⟩)⟩)⟩ (by exact Nat.le_refl _) (by exact Nat.le_refl _) dX10_mustWord_12

set_option maxHeartbeats 4000000 in
set_option maxRecDepth 100000 in
/-- WellCourtModel.readNumber -/
theorem m_readNumber (l : Launch) (G : va_G) (cy : Nat → ClassId) (sK sV : Nat → Nat) (ad : Nat → Nat → Nat) (sz : Nat) (st : gS) (hB : gBd bM st) (x : Int32) (y : Int32) (Xx : Int) (Xy : Int) (kx : x.toInt = Xx) (ky : y.toInt = Xy) (F : Nat → Int32) (N : Int) (hF : st 7 0 = F) (hN : (st 0 0 10).toInt = N) (P : Int) (hC : mCur F N P st) : gsMi l yX10_readNumber cX10_readNumber 3 (some .boolean) ({ frames := 2, cells := 0, slots := 0, locals := 44 } : Room) G cy sK sV (shM cy ad) cnM ad sz [.ref (ad 0 0), .int x, .int y] st (fun (r : Int32) (u : gS) => gBN bM kM [11, 12, 13, 14, 15, 16, 17, 18, 19, 59] st u ∧ ((r = 1 ∧ (∃ e9 : Int, gNum F N (mLex F N) Xx Xy P = some ((u 0 0 18).toInt, e9) ∧ mCur F N e9 u) ∧ (Xx ≤ (u 0 0 18).toInt) ∧ ((u 0 0 18).toInt ≤ Xy)) ∨ (r = 0 ∧ (gNum F N (mLex F N) Xx Xy P = none)))) := by
  refine gs_start (fun A => gsQi G (shM cy ad) cnM ad _ A) (by decide) (Nat.le_of_ble_eq_true rfl) ?_
  intro p e s m below meth c A ls H hx hb hr hml hlocks hown hts hK hov hE hI hM hm hS hA hl
  have hl : lv_has ls 3 [(0, .ref (ad 0 0)), (1, .int x), (2, .int y)] := hl
  have hB_st : gBN bM kM [11, 12, 13, 14, 15, 16, 17, 18, 19, 59] st st := gBN.rf hB
  refine lv_aload_n hx hb dX10_readNumber_0 rfl (lv_at hl 0 rfl) ?_
  refine gs_get (C := RX10) (T := TX10) (N := 59) hx hb hts inX10 hown hK hM 0 0 12 (by decide) rfl rfl (by decide) (hts _ gm_913) (fun _ h9 => h9) rfl dX10_readNumber_1 ?_
  refine lv_iconst (v := 2) hx hb dX10_readNumber_4 (by decide) ?_
  refine lv_icmp_eq (tgt := 13) hx hb dX10_readNumber_5 (by decide) (fun c_2 => ?_) (fun c_2 => ?_)
  · have ic_2 := gz_eq (rfl : (st 0 0 12).toInt = (st 0 0 12).toInt) (by decide : (2 : Int32).toInt = 2) c_2
    refine lv_aload_n hx hb dX10_readNumber_13 rfl (lv_at hl 0 rfl) ?_
    refine gs_get (C := RX10) (T := TX10) (N := 59) hx hb hts inX10 hown hK hM 0 0 14 (by decide) rfl rfl (by decide) (hts _ gm_915) (fun _ h9 => h9) rfl dX10_readNumber_14 ?_
    refine lv_iload_n hx hb dX10_readNumber_17 rfl (lv_at hl 1 rfl) ?_
    refine lv_icmp_lt (tgt := 29) hx hb dX10_readNumber_18 (by decide) (fun c_4 => ?_) (fun c_4 => ?_)
    · have ic_4 := gz_lt (rfl : (st 0 0 14).toInt = (st 0 0 14).toInt) (rfl : x.toInt = x.toInt) c_4
      have lc_4 := gi_hi x
      refine lv_aload_n hx hb dX10_readNumber_29 rfl (lv_at hl 0 rfl) ?_
      refine lv_iconst (v := 3) hx hb dX10_readNumber_30 (by decide) ?_
      refine lv_aload_n hx hb dX10_readNumber_31 rfl (lv_at hl 0 rfl) ?_
      refine gs_get (C := RX10) (T := TX10) (N := 59) hx hb hts inX10 hown hK hM 0 0 13 (by decide) rfl rfl (by decide) (hts _ gm_914) (fun _ h9 => h9) rfl dX10_readNumber_32 ?_
      refine gs_calli (va_runV (As := [.int 3, .int (st 0 0 13)]) (rest := []) ⟨hx, hb, hml, hown, hts⟩ (m_wrong l G cy sK sV ad H.size st hB_st.1 (3 : Int32) (st 0 0 13) ) ⟨(gz_cb (n := 2) hts gm_1131 gm_12 gm_1134 ⟨by decide +kernel, by decide +kernel, by decide +kernel⟩ ⟨Nat.le_of_ble_eq_true rfl, Nat.le_of_ble_eq_true rfl⟩), hts _ gm_1133, hts _ gs_37⟩ (gs_preV hK hov hE hI hM hm hS hA 0 0 (by decide) rfl rfl) rfl rfl hl.1 rfl (lv_room (Nat.le_of_ble_eq_true rfl)) dX10_readNumber_35 ⟨Nat.le_of_ble_eq_true rfl, Nat.le_of_ble_eq_true rfl⟩) hm hS hA (fun r_6 st_6 H locs hw_6 hM hS => ?_)
      obtain ⟨n_6, hw_6⟩ := hw_6
      have hB_st_6 : gBN bM kM [11, 12, 13, 14, 15, 16, 17, 18, 19, 59] st st_6 := hB_st.call n_6 (by decide)
      obtain rfl := hw_6
      exact gs_iret hx hb hr hlocks hM hS (by decide) ⟨hB_st_6, (Or.inr ⟨rfl, hC.n0 (by omega)⟩)⟩ (by exact Nat.le_refl _) (by exact Nat.le_refl _) dX10_readNumber_38
    · have ic_4 := gz_nlt (rfl : (st 0 0 14).toInt = (st 0 0 14).toInt) (rfl : x.toInt = x.toInt) c_4
      refine lv_aload_n hx hb dX10_readNumber_21 rfl (lv_at hl 0 rfl) ?_
      refine gs_get (C := RX10) (T := TX10) (N := 59) hx hb hts inX10 hown hK hM 0 0 14 (by decide) rfl rfl (by decide) (hts _ gm_915) (fun _ h9 => h9) rfl dX10_readNumber_22 ?_
      refine lv_iload_n hx hb dX10_readNumber_25 rfl (lv_at hl 2 rfl) ?_
      refine lv_icmp_le (tgt := 39) hx hb dX10_readNumber_26 (by decide) (fun c_8 => ?_) (fun c_8 => ?_)
      · have ic_8 := gz_le (rfl : (st 0 0 14).toInt = (st 0 0 14).toInt) (rfl : y.toInt = y.toInt) c_8
        refine lv_aload_n hx hb dX10_readNumber_39 rfl (lv_at hl 0 rfl) ?_
        refine lv_aload_n hx hb dX10_readNumber_40 rfl (lv_at hl 0 rfl) ?_
        refine gs_get (C := RX10) (T := TX10) (N := 59) hx hb hts inX10 hown hK hM 0 0 14 (by decide) rfl rfl (by decide) (hts _ gm_915) (fun _ h9 => h9) rfl dX10_readNumber_41 ?_
        refine gs_put (C := RX10) (T := TX10) (N := 59) (ty := .int) (val := .int (st 0 0 14)) hx hb hts inX10 tyX10 tyX10_ok nmX10 hown hK hI hm hM hS 0 0 18 (by decide) rfl rfl (by decide) (hts _ gm_919) (fun _ h9 => h9) rfl ((st 0 0 14) : Int32) rfl (by decide +kernel) rfl rfl (Nat.le_of_ble_eq_true rfl) dX10_readNumber_44 (fun st_10 H locs est_10 hM hS => ?_)
        have hB_st_10 : gBN bM kM [11, 12, 13, 14, 15, 16, 17, 18, 19, 59] st st_10 := by rw [est_10]; exact hB_st.up (show (18 : Nat) ∈ _ from by decide) (gi_lo _) (gi_hi _)
        refine lv_aload_n hx hb dX10_readNumber_47 rfl (lv_at hl 0 rfl) ?_
        refine lv_aload_n hx hb dX10_readNumber_48 rfl (lv_at hl 0 rfl) ?_
        refine gs_get (C := RX10) (T := TX10) (N := 59) hx hb hts inX10 hown hK hM 0 0 13 (by decide) rfl rfl (by decide) (hts _ gm_914) (fun _ h9 => h9) rfl dX10_readNumber_49 ?_
        refine lv_topi (fun x_11 ex_11 => ?_)
        have ex_11 : (st 0 0 13) = x_11 := Eq.symm (ex_11.trans ((congrFun (congrFun (congrFun est_10 0) 0) 13).trans (gU_other (by decide))))
        subst ex_11
        refine gs_put (C := RX10) (T := TX10) (N := 59) (ty := .int) (val := .int (st 0 0 13)) hx hb hts inX10 tyX10 tyX10_ok nmX10 hown hK hI hm hM hS 0 0 19 (by decide) rfl rfl (by decide) (hts _ gm_920) (fun _ h9 => h9) rfl ((st 0 0 13) : Int32) rfl (by decide +kernel) rfl rfl (Nat.le_of_ble_eq_true rfl) dX10_readNumber_52 (fun st_13 H locs est_13 hM hS => ?_)
        have hB_st_13 : gBN bM kM [11, 12, 13, 14, 15, 16, 17, 18, 19, 59] st st_13 := by rw [est_13]; exact hB_st_10.up (show (19 : Nat) ∈ _ from by decide) (gi_lo _) (gi_hi _)
        refine lv_aload_n hx hb dX10_readNumber_55 rfl (lv_at hl 0 rfl) ?_
        refine gs_callv (va_runV (As := []) (rest := []) ⟨hx, hb, hml, hown, hts⟩ (m_next0 l G cy sK sV ad H.size st_13 hB_st_13.1  F N (((congrFun (congrFun est_13 7) 0).trans ((congrFun (gU_k (by decide)) 0).trans ((congrFun (congrFun est_10 7) 0).trans ((congrFun (gU_k (by decide)) 0).trans rfl)))).trans hF) ((congrArg Int32.toInt ((((congrFun (congrFun (congrFun est_13 0) 0) 10).trans (gU_other (by decide))).trans ((congrFun (congrFun (congrFun est_10 0) 0) 10).trans (gU_other (by decide)))))).trans hN)) ⟨(gz_cb (n := 0) hts gm_1100 gm_12 gm_1103 ⟨by decide +kernel, by decide +kernel, by decide +kernel⟩ ⟨Nat.le_of_ble_eq_true rfl, Nat.le_of_ble_eq_true rfl⟩), hts _ gm_1102, hts _ gs_32⟩ (gs_preV hK hov hE hI hM hm hS hA 0 0 (by decide) rfl rfl) rfl rfl hl.1 rfl (lv_room (Nat.le_of_ble_eq_true rfl)) dX10_readNumber_56 ⟨Nat.le_of_ble_eq_true rfl, Nat.le_of_ble_eq_true rfl⟩) hm hS hA (fun st_14 H locs hw_14 hM hS => ?_)
        obtain ⟨n_14, hw_14⟩ := hw_14
        have hB_st_14 : gBN bM kM [11, 12, 13, 14, 15, 16, 17, 18, 19, 59] st st_14 := hB_st_13.call n_14 (by decide)
        have hqhw_140 : (st_13 0 0 11).toInt = ((st 0 0 11) : Int32).toInt := congrArg Int32.toInt ((((congrFun (congrFun (congrFun est_13 0) 0) 11).trans (gU_other (by decide))).trans ((congrFun (congrFun (congrFun est_10 0) 0) 11).trans (gU_other (by decide)))))
        have hbhw_141 : (0 : Int) ≤ (st_13 0 0 11).toInt ∧ (st_13 0 0 11).toInt ≤ (800 : Int) := hB_st_13.1 0 0 11
        have hw_14_0 := hw_14
        refine lv_iconst (v := 1) hx hb dX10_readNumber_59 (by decide) ?_
        exact gs_iret hx hb hr hlocks hM hS (by decide) ⟨hB_st_14, (Or.inl ⟨rfl, ⟨(st 0 0 11).toInt, (by rw [show (st_14 0 0 18).toInt = (st 0 0 14).toInt from (congrArg Int32.toInt (((n_14.2 0 0 18 (show (18 : Nat) ∉ _ from by decide)).trans (((congrFun (congrFun (congrFun est_13 0) 0) 18).trans (gU_other (by decide))).trans ((congrFun (congrFun (congrFun est_10 0) 0) 18).trans (gU_same _ _ _ _ _))))))]; exact hC.n1 (by omega) (by omega) (by omega)), (by have h9 := hw_14_0; rw [show (st_13 0 0 11).toInt = (st 0 0 11).toInt from (congrArg Int32.toInt ((((congrFun (congrFun (congrFun est_13 0) 0) 11).trans (gU_other (by decide))).trans ((congrFun (congrFun (congrFun est_10 0) 0) 11).trans (gU_other (by decide))))))] at h9; exact h9)⟩, (by rw [show (st_14 0 0 18).toInt = (st 0 0 14).toInt from (congrArg Int32.toInt (((n_14.2 0 0 18 (show (18 : Nat) ∉ _ from by decide)).trans (((congrFun (congrFun (congrFun est_13 0) 0) 18).trans (gU_other (by decide))).trans ((congrFun (congrFun (congrFun est_10 0) 0) 18).trans (gU_same _ _ _ _ _))))))]; omega), (by rw [show (st_14 0 0 18).toInt = (st 0 0 14).toInt from (congrArg Int32.toInt (((n_14.2 0 0 18 (show (18 : Nat) ∉ _ from by decide)).trans (((congrFun (congrFun (congrFun est_13 0) 0) 18).trans (gU_other (by decide))).trans ((congrFun (congrFun (congrFun est_10 0) 0) 18).trans (gU_same _ _ _ _ _))))))]; omega)⟩)⟩ (by exact Nat.le_refl _) (by exact Nat.le_refl _) dX10_readNumber_60
      · have ic_8 := gz_nle (rfl : (st 0 0 14).toInt = (st 0 0 14).toInt) (rfl : y.toInt = y.toInt) c_8
        have lc_8 := gi_hi (st 0 0 14)
        refine lv_aload_n hx hb dX10_readNumber_29 rfl (lv_at hl 0 rfl) ?_
        refine lv_iconst (v := 3) hx hb dX10_readNumber_30 (by decide) ?_
        refine lv_aload_n hx hb dX10_readNumber_31 rfl (lv_at hl 0 rfl) ?_
        refine gs_get (C := RX10) (T := TX10) (N := 59) hx hb hts inX10 hown hK hM 0 0 13 (by decide) rfl rfl (by decide) (hts _ gm_914) (fun _ h9 => h9) rfl dX10_readNumber_32 ?_
        refine gs_calli (va_runV (As := [.int 3, .int (st 0 0 13)]) (rest := []) ⟨hx, hb, hml, hown, hts⟩ (m_wrong l G cy sK sV ad H.size st hB_st.1 (3 : Int32) (st 0 0 13) ) ⟨(gz_cb (n := 2) hts gm_1131 gm_12 gm_1134 ⟨by decide +kernel, by decide +kernel, by decide +kernel⟩ ⟨Nat.le_of_ble_eq_true rfl, Nat.le_of_ble_eq_true rfl⟩), hts _ gm_1133, hts _ gs_37⟩ (gs_preV hK hov hE hI hM hm hS hA 0 0 (by decide) rfl rfl) rfl rfl hl.1 rfl (lv_room (Nat.le_of_ble_eq_true rfl)) dX10_readNumber_35 ⟨Nat.le_of_ble_eq_true rfl, Nat.le_of_ble_eq_true rfl⟩) hm hS hA (fun r_16 st_16 H locs hw_16 hM hS => ?_)
        obtain ⟨n_16, hw_16⟩ := hw_16
        have hB_st_16 : gBN bM kM [11, 12, 13, 14, 15, 16, 17, 18, 19, 59] st st_16 := hB_st.call n_16 (by decide)
        obtain rfl := hw_16
        exact gs_iret hx hb hr hlocks hM hS (by decide) ⟨hB_st_16, (Or.inr ⟨rfl, hC.n0 (by omega)⟩)⟩ (by exact Nat.le_refl _) (by exact Nat.le_refl _) dX10_readNumber_38
  · have ic_2 := gz_ne (rfl : (st 0 0 12).toInt = (st 0 0 12).toInt) (by decide : (2 : Int32).toInt = 2) c_2
    refine lv_aload_n hx hb dX10_readNumber_8 rfl (lv_at hl 0 rfl) ?_
    refine gs_calli (va_runV (As := []) (rest := []) ⟨hx, hb, hml, hown, hts⟩ (m_cant l G cy sK sV ad H.size st hB_st.1  ) ⟨(gz_cb (n := 0) hts gm_1127 gm_12 gm_1130 ⟨by decide +kernel, by decide +kernel, by decide +kernel⟩ ⟨Nat.le_of_ble_eq_true rfl, Nat.le_of_ble_eq_true rfl⟩), hts _ gm_1129, hts _ gs_36⟩ (gs_preV hK hov hE hI hM hm hS hA 0 0 (by decide) rfl rfl) rfl rfl hl.1 rfl (lv_room (Nat.le_of_ble_eq_true rfl)) dX10_readNumber_9 ⟨Nat.le_of_ble_eq_true rfl, Nat.le_of_ble_eq_true rfl⟩) hm hS hA (fun r_17 st_17 H locs hw_17 hM hS => ?_)
    obtain ⟨n_17, hw_17⟩ := hw_17
    have hB_st_17 : gBN bM kM [11, 12, 13, 14, 15, 16, 17, 18, 19, 59] st st_17 := hB_st.call n_17 (by decide)
    obtain rfl := hw_17
    exact gs_iret hx hb hr hlocks hM hS (by decide) ⟨hB_st_17, (Or.inr ⟨rfl, hC.n0 (by omega)⟩)⟩ (by exact Nat.le_refl _) (by exact Nat.le_refl _) dX10_readNumber_12

set_option maxHeartbeats 4000000 in
set_option maxRecDepth 100000 in
/-- WellCourtModel.readClan -/
theorem m_readClan (l : Launch) (G : va_G) (cy : Nat → ClassId) (sK sV : Nat → Nat) (ad : Nat → Nat → Nat) (sz : Nat) (st : gS) (hB : gBd bM st) (F : Nat → Int32) (N : Int) (hF : st 7 0 = F) (hN : (st 0 0 10).toInt = N) (P : Int) (hC : mCur F N P st) : gsMi l yX10_readClan cX10_readClan 1 (some .boolean) ({ frames := 2, cells := 0, slots := 0, locals := 44 } : Room) G cy sK sV (shM cy ad) cnM ad sz [.ref (ad 0 0)] st (fun (r : Int32) (u : gS) => gBN bM kM [11, 12, 13, 14, 15, 16, 17, 18, 19, 59] st u ∧ ((r = 1 ∧ (∃ e9 : Int, gClan F N (mLex F N) P = some ((u 0 0 18).toInt, e9) ∧ mCur F N e9 u) ∧ (0 ≤ (u 0 0 18).toInt) ∧ ((u 0 0 18).toInt ≤ 5)) ∨ (r = 0 ∧ (gClan F N (mLex F N) P = none)))) := by
  refine gs_start (fun A => gsQi G (shM cy ad) cnM ad _ A) (by decide) (Nat.le_of_ble_eq_true rfl) ?_
  intro p e s m below meth c A ls H hx hb hr hml hlocks hown hts hK hov hE hI hM hm hS hA hl
  have hl : lv_has ls 1 [(0, .ref (ad 0 0))] := hl
  have hB_st : gBN bM kM [11, 12, 13, 14, 15, 16, 17, 18, 19, 59] st st := gBN.rf hB
  have hn8 : N ≤ 800 := (by have h9 : (0 : Int) ≤ (st 0 0 10).toInt ∧ (st 0 0 10).toInt ≤ (800 : Int) := hB 0 0 10; omega)
  refine lv_aload_n hx hb dX10_readClan_0 rfl (lv_at hl 0 rfl) ?_
  refine gs_get (C := RX10) (T := TX10) (N := 59) hx hb hts inX10 hown hK hM 0 0 12 (by decide) rfl rfl (by decide) (hts _ gm_913) (fun _ h9 => h9) rfl dX10_readClan_1 ?_
  refine lv_iconst (v := 1) hx hb dX10_readClan_4 (by decide) ?_
  refine lv_icmp_ne (tgt := 30) hx hb dX10_readClan_5 (by decide) (fun c_2 => ?_) (fun c_2 => ?_)
  · have ic_2 := gz_ne (rfl : (st 0 0 12).toInt = (st 0 0 12).toInt) (by decide : (1 : Int32).toInt = 1) c_2
    refine lv_aload_n hx hb dX10_readClan_30 rfl (lv_at hl 0 rfl) ?_
    refine gs_calli (va_runV (As := []) (rest := []) ⟨hx, hb, hml, hown, hts⟩ (m_cant l G cy sK sV ad H.size st hB_st.1  ) ⟨(gz_cb (n := 0) hts gm_1127 gm_12 gm_1130 ⟨by decide +kernel, by decide +kernel, by decide +kernel⟩ ⟨Nat.le_of_ble_eq_true rfl, Nat.le_of_ble_eq_true rfl⟩), hts _ gm_1129, hts _ gs_36⟩ (gs_preV hK hov hE hI hM hm hS hA 0 0 (by decide) rfl rfl) rfl rfl hl.1 rfl (lv_room (Nat.le_of_ble_eq_true rfl)) dX10_readClan_31 ⟨Nat.le_of_ble_eq_true rfl, Nat.le_of_ble_eq_true rfl⟩) hm hS hA (fun r_3 st_3 H locs hw_3 hM hS => ?_)
    obtain ⟨n_3, hw_3⟩ := hw_3
    have hB_st_3 : gBN bM kM [11, 12, 13, 14, 15, 16, 17, 18, 19, 59] st st_3 := hB_st.call n_3 (by decide)
    obtain rfl := hw_3
    exact gs_iret hx hb hr hlocks hM hS (by decide) ⟨hB_st_3, (Or.inr ⟨rfl, hC.c0 hn8 (by omega)⟩)⟩ (by exact Nat.le_refl _) (by exact Nat.le_refl _) dX10_readClan_34
  · have ic_2 := gz_eqn (rfl : (st 0 0 12).toInt = (st 0 0 12).toInt) (by decide : (1 : Int32).toInt = 1) c_2
    refine lv_aload_n hx hb dX10_readClan_8 rfl (lv_at hl 0 rfl) ?_
    refine gs_get (C := RX10) (T := TX10) (N := 59) hx hb hts inX10 hown hK hM 0 0 17 (by decide) rfl rfl (by decide) (hts _ gm_918) (fun _ h9 => h9) rfl dX10_readClan_9 ?_
    refine lv_ldc2 (v := 97) hx hb hown (hts _ gm_1151) dX10_readClan_12 ?_
    refine W.lcmp hx hb dX10_readClan_15 ?_
    refine lv_topi (fun x_4 ex_4 => ?_)
    have tx_4 := gs_cmpS (B := 97) (by decide +kernel) ex_4
    refine lv_if_lt (tgt := 30) hx hb dX10_readClan_16 (by decide) (fun c_5 => ?_) (fun c_5 => ?_)
    · have ic_5 := gz_lt (rfl : x_4.toInt = x_4.toInt) (by decide : (0 : Int32).toInt = 0) c_5
      refine lv_aload_n hx hb dX10_readClan_30 rfl (lv_at hl 0 rfl) ?_
      refine gs_calli (va_runV (As := []) (rest := []) ⟨hx, hb, hml, hown, hts⟩ (m_cant l G cy sK sV ad H.size st hB_st.1  ) ⟨(gz_cb (n := 0) hts gm_1127 gm_12 gm_1130 ⟨by decide +kernel, by decide +kernel, by decide +kernel⟩ ⟨Nat.le_of_ble_eq_true rfl, Nat.le_of_ble_eq_true rfl⟩), hts _ gm_1129, hts _ gs_36⟩ (gs_preV hK hov hE hI hM hm hS hA 0 0 (by decide) rfl rfl) rfl rfl hl.1 rfl (lv_room (Nat.le_of_ble_eq_true rfl)) dX10_readClan_31 ⟨Nat.le_of_ble_eq_true rfl, Nat.le_of_ble_eq_true rfl⟩) hm hS hA (fun r_6 st_6 H locs hw_6 hM hS => ?_)
      obtain ⟨n_6, hw_6⟩ := hw_6
      have hB_st_6 : gBN bM kM [11, 12, 13, 14, 15, 16, 17, 18, 19, 59] st st_6 := hB_st.call n_6 (by decide)
      obtain rfl := hw_6
      exact gs_iret hx hb hr hlocks hM hS (by decide) ⟨hB_st_6, (Or.inr ⟨rfl, hC.c0 hn8 (by omega)⟩)⟩ (by exact Nat.le_refl _) (by exact Nat.le_refl _) dX10_readClan_34
    · have ic_5 := gz_nlt (rfl : x_4.toInt = x_4.toInt) (by decide : (0 : Int32).toInt = 0) c_5
      refine lv_aload_n hx hb dX10_readClan_19 rfl (lv_at hl 0 rfl) ?_
      refine gs_get (C := RX10) (T := TX10) (N := 59) hx hb hts inX10 hown hK hM 0 0 17 (by decide) rfl rfl (by decide) (hts _ gm_918) (fun _ h9 => h9) rfl dX10_readClan_20 ?_
      refine lv_ldc2 (v := 102) hx hb hown (hts _ gm_1152) dX10_readClan_23 ?_
      refine W.lcmp hx hb dX10_readClan_26 ?_
      refine lv_topi (fun x_7 ex_7 => ?_)
      have tx_7 := gs_cmpS (B := 102) (by decide +kernel) ex_7
      refine lv_if_le (tgt := 35) hx hb dX10_readClan_27 (by decide) (fun c_8 => ?_) (fun c_8 => ?_)
      · have ic_8 := gz_le (rfl : x_7.toInt = x_7.toInt) (by decide : (0 : Int32).toInt = 0) c_8
        refine lv_aload_n hx hb dX10_readClan_35 rfl (lv_at hl 0 rfl) ?_
        refine lv_aload_n hx hb dX10_readClan_36 rfl (lv_at hl 0 rfl) ?_
        refine gs_get (C := RX10) (T := TX10) (N := 59) hx hb hts inX10 hown hK hM 0 0 17 (by decide) rfl rfl (by decide) (hts _ gm_918) (fun _ h9 => h9) rfl dX10_readClan_37 ?_
        obtain ⟨x_9, ex_9⟩ : ∃ y : Int32, (lw (st 0 0 17) (st 0 0 59)).toInt32 = y := ⟨_, rfl⟩
        refine lv_l2i hx hb dX10_readClan_40 ex_9 ?_
        have tx_9 := gs_l2i ex_9 (by omega) (by omega)
        refine lv_bipush (v := 97) hx hb dX10_readClan_41 (by decide) ?_
        refine lv_isub hx hb dX10_readClan_43 ?_
        refine lv_topi (fun x_10 ex_10 => ?_)
        try have tx_10 : x_10.toInt = x_9.toInt - 97 := by rw [ex_10]; exact gz_subP (x := x_9.toInt) (y := 97) rfl (by decide) (by omega) (by omega)
        refine gs_put (C := RX10) (T := TX10) (N := 59) (ty := .int) (val := .int x_10) hx hb hts inX10 tyX10 tyX10_ok nmX10 hown hK hI hm hM hS 0 0 18 (by decide) rfl rfl (by decide) (hts _ gm_919) (fun _ h9 => h9) rfl (x_10 : Int32) rfl (by decide +kernel) rfl rfl (Nat.le_of_ble_eq_true rfl) dX10_readClan_44 (fun st_11 H locs est_11 hM hS => ?_)
        have hB_st_11 : gBN bM kM [11, 12, 13, 14, 15, 16, 17, 18, 19, 59] st st_11 := by rw [est_11]; exact hB_st.up (show (18 : Nat) ∈ _ from by decide) (gi_lo _) (gi_hi _)
        refine lv_aload_n hx hb dX10_readClan_47 rfl (lv_at hl 0 rfl) ?_
        refine lv_aload_n hx hb dX10_readClan_48 rfl (lv_at hl 0 rfl) ?_
        refine gs_get (C := RX10) (T := TX10) (N := 59) hx hb hts inX10 hown hK hM 0 0 13 (by decide) rfl rfl (by decide) (hts _ gm_914) (fun _ h9 => h9) rfl dX10_readClan_49 ?_
        refine lv_topi (fun x_12 ex_12 => ?_)
        have ex_12 : (st 0 0 13) = x_12 := Eq.symm (ex_12.trans ((congrFun (congrFun (congrFun est_11 0) 0) 13).trans (gU_other (by decide))))
        subst ex_12
        refine gs_put (C := RX10) (T := TX10) (N := 59) (ty := .int) (val := .int (st 0 0 13)) hx hb hts inX10 tyX10 tyX10_ok nmX10 hown hK hI hm hM hS 0 0 19 (by decide) rfl rfl (by decide) (hts _ gm_920) (fun _ h9 => h9) rfl ((st 0 0 13) : Int32) rfl (by decide +kernel) rfl rfl (Nat.le_of_ble_eq_true rfl) dX10_readClan_52 (fun st_14 H locs est_14 hM hS => ?_)
        have hB_st_14 : gBN bM kM [11, 12, 13, 14, 15, 16, 17, 18, 19, 59] st st_14 := by rw [est_14]; exact hB_st_11.up (show (19 : Nat) ∈ _ from by decide) (gi_lo _) (gi_hi _)
        refine lv_aload_n hx hb dX10_readClan_55 rfl (lv_at hl 0 rfl) ?_
        refine gs_callv (va_runV (As := []) (rest := []) ⟨hx, hb, hml, hown, hts⟩ (m_next0 l G cy sK sV ad H.size st_14 hB_st_14.1  F N (((congrFun (congrFun est_14 7) 0).trans ((congrFun (gU_k (by decide)) 0).trans ((congrFun (congrFun est_11 7) 0).trans ((congrFun (gU_k (by decide)) 0).trans rfl)))).trans hF) ((congrArg Int32.toInt ((((congrFun (congrFun (congrFun est_14 0) 0) 10).trans (gU_other (by decide))).trans ((congrFun (congrFun (congrFun est_11 0) 0) 10).trans (gU_other (by decide)))))).trans hN)) ⟨(gz_cb (n := 0) hts gm_1100 gm_12 gm_1103 ⟨by decide +kernel, by decide +kernel, by decide +kernel⟩ ⟨Nat.le_of_ble_eq_true rfl, Nat.le_of_ble_eq_true rfl⟩), hts _ gm_1102, hts _ gs_32⟩ (gs_preV hK hov hE hI hM hm hS hA 0 0 (by decide) rfl rfl) rfl rfl hl.1 rfl (lv_room (Nat.le_of_ble_eq_true rfl)) dX10_readClan_56 ⟨Nat.le_of_ble_eq_true rfl, Nat.le_of_ble_eq_true rfl⟩) hm hS hA (fun st_15 H locs hw_15 hM hS => ?_)
        obtain ⟨n_15, hw_15⟩ := hw_15
        have hB_st_15 : gBN bM kM [11, 12, 13, 14, 15, 16, 17, 18, 19, 59] st st_15 := hB_st_14.call n_15 (by decide)
        have hqhw_150 : (st_14 0 0 11).toInt = ((st 0 0 11) : Int32).toInt := congrArg Int32.toInt ((((congrFun (congrFun (congrFun est_14 0) 0) 11).trans (gU_other (by decide))).trans ((congrFun (congrFun (congrFun est_11 0) 0) 11).trans (gU_other (by decide)))))
        have hbhw_151 : (0 : Int) ≤ (st_14 0 0 11).toInt ∧ (st_14 0 0 11).toInt ≤ (800 : Int) := hB_st_14.1 0 0 11
        have hw_15_0 := hw_15
        refine lv_iconst (v := 1) hx hb dX10_readClan_59 (by decide) ?_
        exact gs_iret hx hb hr hlocks hM hS (by decide) ⟨hB_st_15, (Or.inl ⟨rfl, ⟨(st 0 0 11).toInt, (by rw [show (st_15 0 0 18).toInt = (lw (st 0 0 17) (st 0 0 59)).toInt - 97 from ((congrArg Int32.toInt (((n_15.2 0 0 18 (show (18 : Nat) ∉ _ from by decide)).trans (((congrFun (congrFun (congrFun est_14 0) 0) 18).trans (gU_other (by decide))).trans ((congrFun (congrFun (congrFun est_11 0) 0) 18).trans (gU_same _ _ _ _ _))))))).trans (by omega)]; exact hC.c1 hn8 (by omega) (by omega) (by omega)), (by have h9 := hw_15_0; rw [show (st_14 0 0 11).toInt = (st 0 0 11).toInt from (congrArg Int32.toInt ((((congrFun (congrFun (congrFun est_14 0) 0) 11).trans (gU_other (by decide))).trans ((congrFun (congrFun (congrFun est_11 0) 0) 11).trans (gU_other (by decide))))))] at h9; exact h9)⟩, (by rw [show (st_15 0 0 18).toInt = x_10.toInt from (congrArg Int32.toInt (((n_15.2 0 0 18 (show (18 : Nat) ∉ _ from by decide)).trans (((congrFun (congrFun (congrFun est_14 0) 0) 18).trans (gU_other (by decide))).trans ((congrFun (congrFun (congrFun est_11 0) 0) 18).trans (gU_same _ _ _ _ _))))))]; omega), (by rw [show (st_15 0 0 18).toInt = x_10.toInt from (congrArg Int32.toInt (((n_15.2 0 0 18 (show (18 : Nat) ∉ _ from by decide)).trans (((congrFun (congrFun (congrFun est_14 0) 0) 18).trans (gU_other (by decide))).trans ((congrFun (congrFun (congrFun est_11 0) 0) 18).trans (gU_same _ _ _ _ _))))))]; omega)⟩)⟩ (by exact Nat.le_refl _) (by exact Nat.le_refl _) dX10_readClan_60
      · have ic_8 := gz_nle (rfl : x_7.toInt = x_7.toInt) (by decide : (0 : Int32).toInt = 0) c_8
        refine lv_aload_n hx hb dX10_readClan_30 rfl (lv_at hl 0 rfl) ?_
        refine gs_calli (va_runV (As := []) (rest := []) ⟨hx, hb, hml, hown, hts⟩ (m_cant l G cy sK sV ad H.size st hB_st.1  ) ⟨(gz_cb (n := 0) hts gm_1127 gm_12 gm_1130 ⟨by decide +kernel, by decide +kernel, by decide +kernel⟩ ⟨Nat.le_of_ble_eq_true rfl, Nat.le_of_ble_eq_true rfl⟩), hts _ gm_1129, hts _ gs_36⟩ (gs_preV hK hov hE hI hM hm hS hA 0 0 (by decide) rfl rfl) rfl rfl hl.1 rfl (lv_room (Nat.le_of_ble_eq_true rfl)) dX10_readClan_31 ⟨Nat.le_of_ble_eq_true rfl, Nat.le_of_ble_eq_true rfl⟩) hm hS hA (fun r_16 st_16 H locs hw_16 hM hS => ?_)
        obtain ⟨n_16, hw_16⟩ := hw_16
        have hB_st_16 : gBN bM kM [11, 12, 13, 14, 15, 16, 17, 18, 19, 59] st st_16 := hB_st.call n_16 (by decide)
        obtain rfl := hw_16
        exact gs_iret hx hb hr hlocks hM hS (by decide) ⟨hB_st_16, (Or.inr ⟨rfl, hC.c0 hn8 (by omega)⟩)⟩ (by exact Nat.le_refl _) (by exact Nat.le_refl _) dX10_readClan_34
