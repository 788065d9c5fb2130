theorem gm_11 : (Jvm.Cond.initialized "WellCourt$Planner") ∈ gz_T := gz_at 11 (by decide +kernel) rfl
theorem gm_252 : (Jvm.Cond.fieldLink "WellCourt$Planner" (32 : Nat) "WellCourt$Planner" "acts" "[I") ∈ gz_T := gz_at 252 (by decide +kernel) rfl
theorem gm_865 : (Jvm.Cond.methodLink "WellCourt$Planner" (94 : Nat) ({ cls := "WellCourt$Planner", name := "rowOf", desc := "(I)I" } : Jvm.MethodName)) ∈ gz_T := gz_at 865 (by decide +kernel) rfl
theorem gm_866 : (Jvm.Cond.static ({ cls := "WellCourt$Planner", name := "rowOf", desc := "(I)I" } : Jvm.MethodName)) ∈ gz_T := gz_at 866 (by decide +kernel) rfl
theorem gm_867 : (Jvm.Cond.code ({ cls := "WellCourt$Planner", name := "rowOf", desc := "(I)I" } : Jvm.MethodName) prog_8_method_5_code (1 : Nat) (Option.some Jvm.ClassFile.FieldType.int)) ∈ gz_T := gz_at 867 (by decide +kernel) rfl
theorem gm_868 : (Jvm.Cond.methodLink "WellCourt$Planner" (121 : Nat) ({ cls := "WellCourt$Flock", name := "isThere", desc := "(I)Z" } : Jvm.MethodName)) ∈ gz_T := gz_at 868 (by decide +kernel) rfl
theorem gm_869 : (Jvm.Cond.methodLink "WellCourt$Planner" (124 : Nat) ({ cls := "WellCourt$Planner", name := "canDo", desc := "(III)Z" } : Jvm.MethodName)) ∈ gz_T := gz_at 869 (by decide +kernel) rfl
theorem gm_871 : (Jvm.Cond.instanceMethod ({ cls := "WellCourt$Planner", name := "canDo", desc := "(III)Z" } : Jvm.MethodName)) ∈ gz_T := gz_at 871 (by decide +kernel) rfl
theorem gm_872 : (Jvm.Cond.code ({ cls := "WellCourt$Planner", name := "canDo", desc := "(III)Z" } : Jvm.MethodName) prog_8_method_8_code (5 : Nat) (Option.some Jvm.ClassFile.FieldType.boolean)) ∈ gz_T := gz_at 872 (by decide +kernel) rfl
theorem gs_26 : (Jvm.Cond.selects "WellCourt$Planner" ({ cls := "WellCourt$Planner", name := "canDo", desc := "(III)Z" } : Jvm.MethodName) ({ cls := "WellCourt$Planner", name := "canDo", desc := "(III)Z" } : Jvm.MethodName)) ∈ gz_T := gz_sel 26 (by decide +kernel) rfl
theorem dX6_nextAct_0 : decode cX6_nextAct 0 = .ok (.iload_n 1, 1) := by decide +kernel
theorem dX6_nextAct_1 : decode cX6_nextAct 1 = .ok (.invokestatic 94, 3) := by decide +kernel
theorem dX6_nextAct_4 : decode cX6_nextAct 4 = .ok (.istore_n 2, 1) := by decide +kernel
theorem dX6_nextAct_5 : decode cX6_nextAct 5 = .ok (.iload_n 1, 1) := by decide +kernel
theorem dX6_nextAct_6 : decode cX6_nextAct 6 = .ok (.iconst 4, 1) := by decide +kernel
theorem dX6_nextAct_7 : decode cX6_nextAct 7 = .ok (.irem, 1) := by decide +kernel
theorem dX6_nextAct_8 : decode cX6_nextAct 8 = .ok (.istore_n 3, 1) := by decide +kernel
theorem dX6_nextAct_9 : decode cX6_nextAct 9 = .ok (.aload_n 0, 1) := by decide +kernel
theorem dX6_nextAct_10 : decode cX6_nextAct 10 = .ok (.getfield 32, 3) := by decide +kernel
theorem dX6_nextAct_13 : decode cX6_nextAct 13 = .ok (.iload_n 1, 1) := by decide +kernel
theorem dX6_nextAct_14 : decode cX6_nextAct 14 = .ok (.iaload, 1) := by decide +kernel
theorem dX6_nextAct_15 : decode cX6_nextAct 15 = .ok (.istore 4, 2) := by decide +kernel
theorem dX6_nextAct_17 : decode cX6_nextAct 17 = .ok (.aload_n 0, 1) := by decide +kernel
theorem dX6_nextAct_18 : decode cX6_nextAct 18 = .ok (.getfield 59, 3) := by decide +kernel
theorem dX6_nextAct_21 : decode cX6_nextAct 21 = .ok (.iload_n 3, 1) := by decide +kernel
theorem dX6_nextAct_22 : decode cX6_nextAct 22 = .ok (.invokevirtual 121, 3) := by decide +kernel
theorem dX6_nextAct_25 : decode cX6_nextAct 25 = .ok (.ifCond .eq 17, 3) := by decide +kernel
theorem dX6_nextAct_28 : decode cX6_nextAct 28 = .ok (.aload_n 0, 1) := by decide +kernel
theorem dX6_nextAct_29 : decode cX6_nextAct 29 = .ok (.getfield 26, 3) := by decide +kernel
theorem dX6_nextAct_32 : decode cX6_nextAct 32 = .ok (.iload_n 2, 1) := by decide +kernel
theorem dX6_nextAct_33 : decode cX6_nextAct 33 = .ok (.iconst 1, 1) := by decide +kernel
theorem dX6_nextAct_34 : decode cX6_nextAct 34 = .ok (.isub, 1) := by decide +kernel
theorem dX6_nextAct_35 : decode cX6_nextAct 35 = .ok (.aaload, 1) := by decide +kernel
theorem dX6_nextAct_36 : decode cX6_nextAct 36 = .ok (.iload_n 3, 1) := by decide +kernel
theorem dX6_nextAct_37 : decode cX6_nextAct 37 = .ok (.iaload, 1) := by decide +kernel
theorem dX6_nextAct_38 : decode cX6_nextAct 38 = .ok (.iload_n 2, 1) := by decide +kernel
theorem dX6_nextAct_39 : decode cX6_nextAct 39 = .ok (.if_icmp .le 16, 3) := by decide +kernel
theorem dX6_nextAct_42 : decode cX6_nextAct 42 = .ok (.iload 4, 2) := by decide +kernel
theorem dX6_nextAct_44 : decode cX6_nextAct 44 = .ok (.iconst (-1), 1) := by decide +kernel
theorem dX6_nextAct_45 : decode cX6_nextAct 45 = .ok (.if_icmp .ne 8, 3) := by decide +kernel
theorem dX6_nextAct_48 : decode cX6_nextAct 48 = .ok (.bipush 9, 2) := by decide +kernel
theorem dX6_nextAct_50 : decode cX6_nextAct 50 = .ok (.goto 4, 3) := by decide +kernel
theorem dX6_nextAct_53 : decode cX6_nextAct 53 = .ok (.iconst (-1), 1) := by decide +kernel
theorem dX6_nextAct_54 : decode cX6_nextAct 54 = .ok (.ireturn, 1) := by decide +kernel
theorem dX6_nextAct_55 : decode cX6_nextAct 55 = .ok (.iload 4, 2) := by decide +kernel
theorem dX6_nextAct_57 : decode cX6_nextAct 57 = .ok (.iconst 1, 1) := by decide +kernel
theorem dX6_nextAct_58 : decode cX6_nextAct 58 = .ok (.iadd, 1) := by decide +kernel
theorem dX6_nextAct_59 : decode cX6_nextAct 59 = .ok (.istore 5, 2) := by decide +kernel
theorem dX6_nextAct_61 : decode cX6_nextAct 61 = .ok (.iload 5, 2) := by decide +kernel
theorem dX6_nextAct_63 : decode cX6_nextAct 63 = .ok (.bipush 7, 2) := by decide +kernel
theorem dX6_nextAct_65 : decode cX6_nextAct 65 = .ok (.if_icmp .gt 23, 3) := by decide +kernel
theorem dX6_nextAct_68 : decode cX6_nextAct 68 = .ok (.aload_n 0, 1) := by decide +kernel
theorem dX6_nextAct_69 : decode cX6_nextAct 69 = .ok (.iload_n 2, 1) := by decide +kernel
theorem dX6_nextAct_70 : decode cX6_nextAct 70 = .ok (.iload_n 3, 1) := by decide +kernel
theorem dX6_nextAct_71 : decode cX6_nextAct 71 = .ok (.iload 5, 2) := by decide +kernel
theorem dX6_nextAct_73 : decode cX6_nextAct 73 = .ok (.invokevirtual 124, 3) := by decide +kernel
theorem dX6_nextAct_76 : decode cX6_nextAct 76 = .ok (.ifCond .eq 6, 3) := by decide +kernel
theorem dX6_nextAct_79 : decode cX6_nextAct 79 = .ok (.iload 5, 2) := by decide +kernel
theorem dX6_nextAct_81 : decode cX6_nextAct 81 = .ok (.ireturn, 1) := by decide +kernel
theorem dX6_nextAct_82 : decode cX6_nextAct 82 = .ok (.iinc 5 1, 3) := by decide +kernel
theorem dX6_nextAct_85 : decode cX6_nextAct 85 = .ok (.goto (-24), 3) := by decide +kernel
theorem dX6_nextAct_88 : decode cX6_nextAct 88 = .ok (.iconst (-1), 1) := by decide +kernel
theorem dX6_nextAct_89 : decode cX6_nextAct 89 = .ok (.ireturn, 1) := by decide +kernel
set_option maxHeartbeats 4000000 in
set_option maxRecDepth 100000 in
/-- WellCourt$Planner.nextAct -/
theorem s_X6_nextAct (l : Launch) (G : va_G) (cy : Nat → ClassId) (sK sV : Nat → Nat) (ad : Nat → Nat → Nat) (sz : Nat) (st : gS) (hB : gBd bX st) (x : Int32) (Xx : Int) (kx : x.toInt = Xx) (hx0 : 0 ≤ Xx) (hx1 : Xx ≤ 55) (rs : List Rl) (hLp : LXa rs st (st 38 0 3).toNatClampNeg) (hwf : ∀ r ∈ rs, wfR r) : gsMi l yX6_nextAct cX6_nextAct 6 (some .int) ({ frames := 4, cells := 0, slots := 0, locals := 90 } : Room) G cy sK sV (shX cy ad) cnX ad sz [.ref (ad 38 0), .int x] st (fun (r : Int32) (u : gS) => gBN bX kX [] st u ∧ ((r.toInt = -1 ∨ r.toInt = 9 ∨ (0 ≤ r.toInt ∧ r.toInt ≤ 7)) ∧ (nxI (frX st (x.toNatClampNeg / 4 + 1) (x.toNatClampNeg % 4)) (cdX rs st (x.toNatClampNeg / 4 + 1) (x.toNatClampNeg % 4)) (st 46 0 x.toNatClampNeg).toInt r.toInt))) := by
  refine gs_start (fun A => gsQi G (shX cy ad) cnX ad _ A) (by decide) (Nat.le_of_ble_eq_true rfl) ?_
  intro p e s m below meth c A ls H hx hb hr hml hlocks hown hts hK hov hE hI hM hm hS hA hl
  have hl : lv_has ls 6 [(0, .ref (ad 38 0)), (1, .int x)] := hl
  have hB_st : gBN bX kX [] st st := gBN.rf hB
  generalize hQe : MQ below _ _ s _ _ A = Q
  refine lv_iload_n hx hb dX6_nextAct_0 rfl (lv_at hl 1 rfl) ?_
  refine gs_calli (va_runS (As := [.int x]) (rest := []) ⟨hx, hb, hml, hown, hts⟩ (s_X6_rowOf l G cy sK sV ad H.size st hB_st.1 x x.toInt rfl (by first | decide | omega) (by first | decide | omega)) ⟨(gz_cb (n := 1) hts gm_865 gm_11 gm_867 ⟨by decide +kernel, by decide +kernel, by decide +kernel⟩ ⟨Nat.le_of_ble_eq_true rfl, Nat.le_of_ble_eq_true rfl⟩), hts _ gm_866⟩ (gs_preS hK hov hE hI hM hm hS hA) rfl rfl hl.1 rfl (lv_room (Nat.le_of_ble_eq_true rfl)) dX6_nextAct_1 ⟨Nat.le_of_ble_eq_true rfl, Nat.le_of_ble_eq_true rfl⟩) hm hS hA (fun r_1 st_1 H locs hw_1 hM hS => ?_)
  obtain ⟨n_1, hw_1⟩ := hw_1
  have n_1 := gBN.nil n_1
  subst n_1
  obtain ⟨hw_1_0, hw_1_1, hw_1_2, hw_1_3⟩ := hw_1
  refine lv_istore_n (lv' := [(2, .int r_1), (0, .ref (ad 38 0)), (1, .int x)]) hx hb dX6_nextAct_4 rfl hl (by decide) rfl (fun ls hl => ?_)
  refine lv_iload_n hx hb dX6_nextAct_5 rfl (lv_at hl 2 rfl) ?_
  refine lv_iconst (v := 4) hx hb dX6_nextAct_6 (by decide) ?_
  refine lv_irem hx hb dX6_nextAct_7 (by decide) ?_
  refine lv_topi (fun x_2 ex_2 => ?_)
  try have tx_2 := gs_rem (y := 4) (by decide) (show 0 ≤ x.toInt from by omega) (by omega) ex_2
  refine lv_istore_n (lv' := [(3, .int x_2), (2, .int r_1), (0, .ref (ad 38 0)), (1, .int x)]) hx hb dX6_nextAct_8 rfl hl (by decide) rfl (fun ls hl => ?_)
  have c_x := gs_cl (x := x) (by omega)
  have c_r := gs_cl (x := r_1) (by omega)
  have c_h := gs_cl (x := x_2) (by omega)
  have hm9 : x_2.toInt = Xx % 4 := gs_rem3 (b := 4) (by decide) kx (by omega) (by decide) ex_2
  have er9 : r_1.toNatClampNeg = (x.toNatClampNeg / 4 + 1) := (by omega)
  have eh9 : x_2.toNatClampNeg = (x.toNatClampNeg % 4) := (by omega)
  refine lv_aload_n hx hb dX6_nextAct_9 rfl (lv_at hl 2 rfl) ?_
  refine gs_get (C := RX6) (T := TX6) (N := 15) hx hb hts inX6 hown hK hM 38 0 9 (by decide) rfl rfl (by decide) (hts _ gm_252) (fun _ h9 => h9) rfl dX6_nextAct_10 ?_
  refine lv_iload_n hx hb dX6_nextAct_13 rfl (lv_at hl 3 rfl) ?_
  refine gs_iald hx hb hK hM 46 0 (by decide) rfl (vp_in_iff.mpr ⟨by omega, by omega⟩) dX6_nextAct_14 ?_
  refine lv_topi (fun x_3 ex_3 => ?_)
  have qx_3 : x_3.toInt = (st 46 0 (x.toNatClampNeg)).toInt := congrArg Int32.toInt ex_3
  have bx_3 : (-1 : Int) ≤ x_3.toInt ∧ x_3.toInt ≤ (9 : Int) := by rw [qx_3]; exact hB_st.1 46 0 (x.toNatClampNeg)
  refine lv_istore (lv' := [(4, .int x_3), (3, .int x_2), (2, .int r_1), (0, .ref (ad 38 0)), (1, .int x)]) hx hb dX6_nextAct_15 hl (by decide) rfl (fun ls hl => ?_)
  refine lv_aload_n hx hb dX6_nextAct_17 rfl (lv_at hl 3 rfl) ?_
  refine gs_get (C := RX6) (T := TX6) (N := 15) hx hb hts inX6 hown hK hM 38 0 2 (by decide) rfl rfl (by decide) (hts _ gm_245) (fun _ h9 => h9) rfl dX6_nextAct_18 ?_
  refine lv_iload_n hx hb dX6_nextAct_21 rfl (lv_at hl 1 rfl) ?_
  refine gs_calli (va_runV (As := [.int x_2]) (rest := []) ⟨hx, hb, hml, hown, hts⟩ (s_X2_isThere l G cy sK sV ad H.size st hB_st.1 x_2 x_2.toInt rfl (by first | decide | omega) (by first | decide | omega)) ⟨(gz_cb (n := 1) hts gm_868 gm_9 gm_707 ⟨by decide +kernel, by decide +kernel, by decide +kernel⟩ ⟨Nat.le_of_ble_eq_true rfl, Nat.le_of_ble_eq_true rfl⟩), hts _ gm_705, hts _ gm_706⟩ (gs_preV hK hov hE hI hM hm hS hA 19 0 (by decide) rfl rfl) rfl rfl hl.1 rfl (lv_room (Nat.le_of_ble_eq_true rfl)) dX6_nextAct_22 ⟨Nat.le_of_ble_eq_true rfl, Nat.le_of_ble_eq_true rfl⟩) hm hS hA (fun r_4 st_4 H locs hw_4 hM hS => ?_)
  obtain ⟨n_4, hw_4⟩ := hw_4
  have n_4 := gBN.nil n_4
  subst n_4
  rcases hw_4 with ⟨rfl, hw_4_0⟩ | ⟨rfl, hw_4_0⟩
  · skip
    refine lv_if_eq (tgt := 42) hx hb dX6_nextAct_25 (by decide) (fun h9 => absurd h9 (by decide)) (fun _ => ?_)
    refine lv_aload_n hx hb dX6_nextAct_28 rfl (lv_at hl 3 rfl) ?_
    refine gs_get (C := RX6) (T := TX6) (N := 15) hx hb hts inX6 hown hK hM 38 0 7 (by decide) rfl rfl (by decide) (hts _ gm_250) (fun _ h9 => h9) rfl dX6_nextAct_29 ?_
    refine lv_iload_n hx hb dX6_nextAct_32 rfl (lv_at hl 2 rfl) ?_
    refine lv_iconst (v := 1) hx hb dX6_nextAct_33 (by decide) ?_
    refine lv_isub hx hb dX6_nextAct_34 ?_
    refine lv_topi (fun x_5 ex_5 => ?_)
    try have tx_5 : x_5.toInt = r_1.toInt - 1 := by rw [ex_5]; exact gz_subP (x := r_1.toInt) (y := 1) rfl (by decide) (by omega) (by omega)
    have h_6 : x_5.toNatClampNeg < 15 := gs_lt (vp_in_iff.mpr ⟨by omega, by omega⟩)
    refine gs_alda hx hb hK hM 42 0 (by decide) rfl (vp_in_iff.mpr ⟨by omega, by omega⟩) (a := ad 43 x_5.toNatClampNeg) (if_pos h_6) dX6_nextAct_35 ?_
    refine lv_iload_n hx hb dX6_nextAct_36 rfl (lv_at hl 1 rfl) ?_
    refine gs_iald hx hb hK hM 43 x_5.toNatClampNeg h_6 rfl (vp_in_iff.mpr ⟨by omega, by omega⟩) dX6_nextAct_37 ?_
    refine lv_topi (fun x_7 ex_7 => ?_)
    have qx_7 : x_7.toInt = (st 43 x_5.toNatClampNeg (x_2.toNatClampNeg)).toInt := congrArg Int32.toInt ex_7
    have ha9 : x_7.toInt = (st 43 ((x.toNatClampNeg / 4 + 1) - 1) (x.toNatClampNeg % 4)).toInt := (by have c_m := gs_cl (x := x_5) (by omega); rw [qx_7, show x_5.toNatClampNeg = (x.toNatClampNeg / 4 + 1) - 1 by omega, eh9])
    refine lv_iload_n hx hb dX6_nextAct_38 rfl (lv_at hl 2 rfl) ?_
    refine lv_icmp_le (tgt := 55) hx hb dX6_nextAct_39 (by decide) (fun c_8 => ?_) (fun c_8 => ?_)
    · have ic_8 := gz_le (rfl : x_7.toInt = x_7.toInt) (rfl : r_1.toInt = r_1.toInt) c_8
      refine lv_iload hx hb dX6_nextAct_55 (lv_at hl 0 rfl) ?_
      refine lv_iconst (v := 1) hx hb dX6_nextAct_57 (by decide) ?_
      refine lv_iadd hx hb dX6_nextAct_58 ?_
      refine lv_topi (fun x_9 ex_9 => ?_)
      try have tx_9 : x_9.toInt = x_3.toInt + 1 := by rw [ex_9]; exact gz_addP (x := x_3.toInt) (y := 1) rfl (by decide) (by omega) (by omega)
      refine lv_istore (lv' := [(5, .int x_9), (4, .int x_3), (3, .int x_2), (2, .int r_1), (0, .ref (ad 38 0)), (1, .int x)]) hx hb dX6_nextAct_59 hl (by decide) rfl (fun ls hl => ?_)
      have lp10 : ∀ (n10 : Nat)  (y10_0 : Int32) (H : Heap) (locs : List Loc) (ls : Array Slot), (8 - y10_0.toInt).toNat < n10 →  (0 ≤ y10_0.toInt) → (noA (cdX rs st (x.toNatClampNeg / 4 + 1) (x.toNatClampNeg % 4)) x_3.toInt y10_0.toInt) → (x_3.toInt < y10_0.toInt) → gM G (shX cy ad) cnX ad st H → va_S A s.heap H locs → lv_has ls 6 [(5, .int y10_0), (4, .int x_3), (3, .int x_2), (2, .int r_1), (0, .ref (ad 38 0)), (1, .int x)] → W p l e ({ frames := 4, cells := 0, slots := 0, locals := 90 } : Room) s m [.ref (ad 38 0), .int x].toArray below meth c H locs 0 0 Q (F0 m 61 ls []) := by
        intro n10
        induction n10 with
        | zero => intro  y10_0 H locs ls h9; exact absurd h9 (Nat.not_lt_zero _)
        | succ n10 ih_10 =>
          intro  y10_0 H locs ls hme10  hv10_0 hv10_1 hv10_2 hM hS hl
          refine lv_iload hx hb dX6_nextAct_61 (lv_at hl 0 rfl) ?_
          refine lv_bipush (v := 7) hx hb dX6_nextAct_63 (by decide) ?_
          refine lv_icmp_gt (tgt := 88) hx hb dX6_nextAct_65 (by decide) (fun c_11 => ?_) (fun c_11 => ?_)
          · have ic_11 := gz_lt (by decide : (7 : Int32).toInt = 7) (rfl : y10_0.toInt = y10_0.toInt) c_11
            refine lv_iconst (v := (-1)) hx hb dX6_nextAct_88 (by decide) ?_
            rw [← hQe]
            exact gs_iret hx hb hr hlocks hM hS rfl ⟨hB_st, (by decide), (by have h20 : (st 20 0 x_2.toNatClampNeg).toInt = (st 20 0 (x.toNatClampNeg % 4)).toInt := (by rw [eh9]); have h46 := qx_3; exact Or.inr (Or.inr (Or.inr ⟨⟨by omega, by omega⟩, by decide, fun a h1 h2 => hv10_1 a (by omega) (by omega)⟩)))⟩ (by exact Nat.le_refl _) (by exact Nat.le_refl _) dX6_nextAct_89
          · have ic_11 := gz_nlt (by decide : (7 : Int32).toInt = 7) (rfl : y10_0.toInt = y10_0.toInt) c_11
            refine lv_aload_n hx hb dX6_nextAct_68 rfl (lv_at hl 4 rfl) ?_
            refine lv_iload_n hx hb dX6_nextAct_69 rfl (lv_at hl 3 rfl) ?_
            refine lv_iload_n hx hb dX6_nextAct_70 rfl (lv_at hl 2 rfl) ?_
            refine lv_iload hx hb dX6_nextAct_71 (lv_at hl 0 rfl) ?_
            refine gs_calli (va_runV (As := [.int r_1, .int x_2, .int y10_0]) (rest := []) ⟨hx, hb, hml, hown, hts⟩ (s_X6_canDo l G cy sK sV ad H.size st hB_st.1 r_1 x_2 y10_0 r_1.toInt x_2.toInt y10_0.toInt rfl rfl rfl (by first | decide | omega) (by first | decide | omega) (by first | decide | omega) (by first | decide | omega) (by first | decide | omega) (by first | decide | omega) rs hLp hwf) ⟨(gz_cb (n := 3) hts gm_869 gm_11 gm_872 ⟨by decide +kernel, by decide +kernel, by decide +kernel⟩ ⟨Nat.le_of_ble_eq_true rfl, Nat.le_of_ble_eq_true rfl⟩), hts _ gm_871, hts _ gs_26⟩ (gs_preV hK hov hE hI hM hm hS hA 38 0 (by decide) rfl rfl) rfl rfl hl.1 rfl (lv_room (Nat.le_of_ble_eq_true rfl)) dX6_nextAct_73 ⟨Nat.le_of_ble_eq_true rfl, Nat.le_of_ble_eq_true rfl⟩) hm hS hA (fun r_12 st_12 H locs hw_12 hM hS => ?_)
            obtain ⟨n_12, hw_12⟩ := hw_12
            have n_12 := gBN.nil n_12
            subst n_12
            rcases hw_12 with ⟨rfl, hw_12_0⟩ | ⟨rfl, hw_12_0⟩
            · skip
              refine lv_if_eq (tgt := 82) hx hb dX6_nextAct_76 (by decide) (fun h9 => absurd h9 (by decide)) (fun _ => ?_)
              refine lv_iload hx hb dX6_nextAct_79 (lv_at hl 0 rfl) ?_
              rw [← hQe]
              exact gs_iret hx hb hr hlocks hM hS rfl ⟨hB_st, (by omega), (by have h20 : (st 20 0 x_2.toNatClampNeg).toInt = (st 20 0 (x.toNatClampNeg % 4)).toInt := (by rw [eh9]); have h46 := qx_3; have h5 := hw_12_0; rw [er9, eh9] at h5; exact Or.inr (Or.inr (Or.inl ⟨⟨by omega, by omega⟩, by omega, ⟨by omega, by omega⟩, h5, fun a h1 h2 => hv10_1 a (by omega) h2⟩)))⟩ (by exact Nat.le_refl _) (by exact Nat.le_refl _) dX6_nextAct_81
            · skip
              refine lv_if_eq (tgt := 82) hx hb dX6_nextAct_76 (by decide) (fun _ => ?_) (fun h9 => absurd (by decide) h9)
              obtain ⟨x_13, ex_13⟩ : ∃ y : Int32, y = y10_0 + 1 := ⟨_, rfl⟩
              try have tx_13 : x_13.toInt = y10_0.toInt + 1 := by rw [ex_13]; exact gz_addP (x := y10_0.toInt) (y := 1) rfl (by decide) (by omega) (by omega)
              refine lv_iinc (v := (x_13)) (lv' := [(5, .int x_13), (4, .int x_3), (3, .int x_2), (2, .int r_1), (0, .ref (ad 38 0)), (1, .int x)]) hx hb dX6_nextAct_82 hl (k := 0) rfl (by rw [ex_13]; rfl) (by decide) rfl (fun ls hl => ?_)
              refine lv_goto (tgt := 61) hx hb dX6_nextAct_85 (by decide) ?_
              exact ih_10  (x_13 : Int32) H _ ls (by omega)  (by omega) (noA.step hv10_1 (by omega) (by have h5 := hw_12_0; rw [er9, eh9] at h5; exact h5)) (by omega) hM hS (lv_sub hl [0, 1, 2, 3, 4, 5] rfl)
      exact lp10 ((8 - (x_9 : Int32).toInt).toNat + 1)  (x_9 : Int32) H _ ls (Nat.lt_succ_self _)  (by omega) (noA.nil (by omega)) (by omega) hM hS (lv_sub hl [0, 1, 2, 3, 4, 5] rfl)
    · have ic_8 := gz_nle (rfl : x_7.toInt = x_7.toInt) (rfl : r_1.toInt = r_1.toInt) c_8
      have lc_8 := gi_hi x_7
      refine lv_iload hx hb dX6_nextAct_42 (lv_at hl 0 rfl) ?_
      refine lv_iconst (v := (-1)) hx hb dX6_nextAct_44 (by decide) ?_
      refine lv_icmp_ne (tgt := 53) hx hb dX6_nextAct_45 (by decide) (fun c_14 => ?_) (fun c_14 => ?_)
      · have ic_14 := gz_ne (rfl : x_3.toInt = x_3.toInt) (by decide : ((-1) : Int32).toInt = -1) c_14
        refine lv_iconst (v := (-1)) hx hb dX6_nextAct_53 (by decide) ?_
        rw [← hQe]
        exact gs_iret hx hb hr hlocks hM hS rfl ⟨hB_st, (by decide), (by have h20 : (st 20 0 x_2.toNatClampNeg).toInt = (st 20 0 (x.toNatClampNeg % 4)).toInt := (by rw [eh9]); have h46 := qx_3; exact Or.inr (Or.inl ⟨(fun h8 => by have h7 := h8.1; have h6 := h8.2; omega), by omega, by decide⟩))⟩ (by exact Nat.le_refl _) (by exact Nat.le_refl _) dX6_nextAct_54
      · have ic_14 := gz_eqn (rfl : x_3.toInt = x_3.toInt) (by decide : ((-1) : Int32).toInt = -1) c_14
        refine lv_bipush (v := 9) hx hb dX6_nextAct_48 (by decide) ?_
        refine lv_goto (tgt := 54) hx hb dX6_nextAct_50 (by decide) ?_
        rw [← hQe]
        exact gs_iret hx hb hr hlocks hM hS rfl ⟨hB_st, (by decide), (by have h20 : (st 20 0 x_2.toNatClampNeg).toInt = (st 20 0 (x.toNatClampNeg % 4)).toInt := (by rw [eh9]); have h46 := qx_3; exact Or.inl ⟨(fun h8 => by have h7 := h8.1; have h6 := h8.2; omega), by omega, by decide⟩)⟩ (by exact Nat.le_refl _) (by exact Nat.le_refl _) dX6_nextAct_54
  · skip
    refine lv_if_eq (tgt := 42) hx hb dX6_nextAct_25 (by decide) (fun _ => ?_) (fun h9 => absurd (by decide) h9)
    refine lv_iload hx hb dX6_nextAct_42 (lv_at hl 0 rfl) ?_
    refine lv_iconst (v := (-1)) hx hb dX6_nextAct_44 (by decide) ?_
    refine lv_icmp_ne (tgt := 53) hx hb dX6_nextAct_45 (by decide) (fun c_15 => ?_) (fun c_15 => ?_)
    · have ic_15 := gz_ne (rfl : x_3.toInt = x_3.toInt) (by decide : ((-1) : Int32).toInt = -1) c_15
      refine lv_iconst (v := (-1)) hx hb dX6_nextAct_53 (by decide) ?_
      rw [← hQe]
      exact gs_iret hx hb hr hlocks hM hS rfl ⟨hB_st, (by decide), (by have h20 : (st 20 0 x_2.toNatClampNeg).toInt = (st 20 0 (x.toNatClampNeg % 4)).toInt := (by rw [eh9]); have h46 := qx_3; exact Or.inr (Or.inl ⟨(fun h8 => by have h7 := h8.1; have h6 := h8.2; omega), by omega, by decide⟩))⟩ (by exact Nat.le_refl _) (by exact Nat.le_refl _) dX6_nextAct_54
    · have ic_15 := gz_eqn (rfl : x_3.toInt = x_3.toInt) (by decide : ((-1) : Int32).toInt = -1) c_15
      refine lv_bipush (v := 9) hx hb dX6_nextAct_48 (by decide) ?_
      refine lv_goto (tgt := 54) hx hb dX6_nextAct_50 (by decide) ?_
      rw [← hQe]
      exact gs_iret hx hb hr hlocks hM hS rfl ⟨hB_st, (by decide), (by have h20 : (st 20 0 x_2.toNatClampNeg).toInt = (st 20 0 (x.toNatClampNeg % 4)).toInt := (by rw [eh9]); have h46 := qx_3; exact Or.inl ⟨(fun h8 => by have h7 := h8.1; have h6 := h8.2; omega), by omega, by decide⟩)⟩ (by exact Nat.le_refl _) (by exact Nat.le_refl _) dX6_nextAct_54
