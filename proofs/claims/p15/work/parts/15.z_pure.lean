theorem gn_613 : (Jvm.Cond.methodLinkNest "WellCourt$Law" (63 : Nat) ({ cls := "WellCourt", name := "isClan", desc := "(I)Z" } : Jvm.MethodName) "WellCourt") ∈ gzN := gz_nest 613 (by decide +kernel) rfl
theorem dX4_areWed_0 : decode cX4_areWed 0 = .ok (.iload_n 1, 1) := by decide +kernel
theorem dX4_areWed_1 : decode cX4_areWed 1 = .ok (.invokestatic 63, 3) := by decide +kernel
theorem dX4_areWed_4 : decode cX4_areWed 4 = .ok (.ifCond .eq 28, 3) := by decide +kernel
theorem dX4_areWed_7 : decode cX4_areWed 7 = .ok (.iload_n 2, 1) := by decide +kernel
theorem dX4_areWed_8 : decode cX4_areWed 8 = .ok (.invokestatic 63, 3) := by decide +kernel
theorem dX4_areWed_11 : decode cX4_areWed 11 = .ok (.ifCond .eq 21, 3) := by decide +kernel
theorem dX4_areWed_14 : decode cX4_areWed 14 = .ok (.aload_n 0, 1) := by decide +kernel
theorem dX4_areWed_15 : decode cX4_areWed 15 = .ok (.getfield 24, 3) := by decide +kernel
theorem dX4_areWed_18 : decode cX4_areWed 18 = .ok (.iload_n 1, 1) := by decide +kernel
theorem dX4_areWed_19 : decode cX4_areWed 19 = .ok (.iaload, 1) := by decide +kernel
theorem dX4_areWed_20 : decode cX4_areWed 20 = .ok (.iload_n 2, 1) := by decide +kernel
theorem dX4_areWed_21 : decode cX4_areWed 21 = .ok (.ishr, 1) := by decide +kernel
theorem dX4_areWed_22 : decode cX4_areWed 22 = .ok (.iconst 1, 1) := by decide +kernel
theorem dX4_areWed_23 : decode cX4_areWed 23 = .ok (.iand, 1) := by decide +kernel
theorem dX4_areWed_24 : decode cX4_areWed 24 = .ok (.iconst 1, 1) := by decide +kernel
theorem dX4_areWed_25 : decode cX4_areWed 25 = .ok (.if_icmp .ne 7, 3) := by decide +kernel
theorem dX4_areWed_28 : decode cX4_areWed 28 = .ok (.iconst 1, 1) := by decide +kernel
theorem dX4_areWed_29 : decode cX4_areWed 29 = .ok (.goto 4, 3) := by decide +kernel
theorem dX4_areWed_32 : decode cX4_areWed 32 = .ok (.iconst 0, 1) := by decide +kernel
theorem dX4_areWed_33 : decode cX4_areWed 33 = .ok (.ireturn, 1) := by decide +kernel
theorem dX4_droughtOwner_0 : decode cX4_droughtOwner 0 = .ok (.iconst 0, 1) := by decide +kernel
theorem dX4_droughtOwner_1 : decode cX4_droughtOwner 1 = .ok (.istore_n 3, 1) := by decide +kernel
theorem dX4_droughtOwner_2 : decode cX4_droughtOwner 2 = .ok (.iload_n 3, 1) := by decide +kernel
theorem dX4_droughtOwner_3 : decode cX4_droughtOwner 3 = .ok (.aload_n 0, 1) := by decide +kernel
theorem dX4_droughtOwner_4 : decode cX4_droughtOwner 4 = .ok (.getfield 30, 3) := by decide +kernel
theorem dX4_droughtOwner_7 : decode cX4_droughtOwner 7 = .ok (.if_icmp .ge 41, 3) := by decide +kernel
theorem dX4_droughtOwner_10 : decode cX4_droughtOwner 10 = .ok (.iload_n 2, 1) := by decide +kernel
theorem dX4_droughtOwner_11 : decode cX4_droughtOwner 11 = .ok (.iconst (-1), 1) := by decide +kernel
theorem dX4_droughtOwner_12 : decode cX4_droughtOwner 12 = .ok (.if_icmp .eq 36, 3) := by decide +kernel
theorem dX4_droughtOwner_15 : decode cX4_droughtOwner 15 = .ok (.aload_n 0, 1) := by decide +kernel
theorem dX4_droughtOwner_16 : decode cX4_droughtOwner 16 = .ok (.getfield 33, 3) := by decide +kernel
theorem dX4_droughtOwner_19 : decode cX4_droughtOwner 19 = .ok (.iload_n 3, 1) := by decide +kernel
theorem dX4_droughtOwner_20 : decode cX4_droughtOwner 20 = .ok (.iaload, 1) := by decide +kernel
theorem dX4_droughtOwner_21 : decode cX4_droughtOwner 21 = .ok (.iload_n 1, 1) := by decide +kernel
theorem dX4_droughtOwner_22 : decode cX4_droughtOwner 22 = .ok (.if_icmp .ne 20, 3) := by decide +kernel
theorem dX4_droughtOwner_25 : decode cX4_droughtOwner 25 = .ok (.iload_n 2, 1) := by decide +kernel
theorem dX4_droughtOwner_26 : decode cX4_droughtOwner 26 = .ok (.aload_n 0, 1) := by decide +kernel
theorem dX4_droughtOwner_27 : decode cX4_droughtOwner 27 = .ok (.getfield 36, 3) := by decide +kernel
theorem dX4_droughtOwner_30 : decode cX4_droughtOwner 30 = .ok (.iload_n 3, 1) := by decide +kernel
theorem dX4_droughtOwner_31 : decode cX4_droughtOwner 31 = .ok (.iaload, 1) := by decide +kernel
theorem dX4_droughtOwner_32 : decode cX4_droughtOwner 32 = .ok (.if_icmp .ge 10, 3) := by decide +kernel
theorem dX4_droughtOwner_35 : decode cX4_droughtOwner 35 = .ok (.aload_n 0, 1) := by decide +kernel
theorem dX4_droughtOwner_36 : decode cX4_droughtOwner 36 = .ok (.getfield 39, 3) := by decide +kernel
theorem dX4_droughtOwner_39 : decode cX4_droughtOwner 39 = .ok (.iload_n 3, 1) := by decide +kernel
theorem dX4_droughtOwner_40 : decode cX4_droughtOwner 40 = .ok (.iaload, 1) := by decide +kernel
theorem dX4_droughtOwner_41 : decode cX4_droughtOwner 41 = .ok (.ireturn, 1) := by decide +kernel
theorem dX4_droughtOwner_42 : decode cX4_droughtOwner 42 = .ok (.iinc 3 1, 3) := by decide +kernel
theorem dX4_droughtOwner_45 : decode cX4_droughtOwner 45 = .ok (.goto (-43), 3) := by decide +kernel
theorem dX4_droughtOwner_48 : decode cX4_droughtOwner 48 = .ok (.iconst (-1), 1) := by decide +kernel
theorem dX4_droughtOwner_49 : decode cX4_droughtOwner 49 = .ok (.ireturn, 1) := by decide +kernel
theorem dX4_leadsDry_0 : decode cX4_leadsDry 0 = .ok (.aload_n 0, 1) := by decide +kernel
theorem dX4_leadsDry_1 : decode cX4_leadsDry 1 = .ok (.getfield 27, 3) := by decide +kernel
theorem dX4_leadsDry_4 : decode cX4_leadsDry 4 = .ok (.iload_n 2, 1) := by decide +kernel
theorem dX4_leadsDry_5 : decode cX4_leadsDry 5 = .ok (.iaload, 1) := by decide +kernel
theorem dX4_leadsDry_6 : decode cX4_leadsDry 6 = .ok (.iload_n 1, 1) := by decide +kernel
theorem dX4_leadsDry_7 : decode cX4_leadsDry 7 = .ok (.ishr, 1) := by decide +kernel
theorem dX4_leadsDry_8 : decode cX4_leadsDry 8 = .ok (.iconst 1, 1) := by decide +kernel
theorem dX4_leadsDry_9 : decode cX4_leadsDry 9 = .ok (.iand, 1) := by decide +kernel
theorem dX4_leadsDry_10 : decode cX4_leadsDry 10 = .ok (.iconst 1, 1) := by decide +kernel
theorem dX4_leadsDry_11 : decode cX4_leadsDry 11 = .ok (.if_icmp .ne 7, 3) := by decide +kernel
theorem dX4_leadsDry_14 : decode cX4_leadsDry 14 = .ok (.iconst 1, 1) := by decide +kernel
theorem dX4_leadsDry_15 : decode cX4_leadsDry 15 = .ok (.goto 4, 3) := by decide +kernel
theorem dX4_leadsDry_18 : decode cX4_leadsDry 18 = .ok (.iconst 0, 1) := by decide +kernel
theorem dX4_leadsDry_19 : decode cX4_leadsDry 19 = .ok (.ireturn, 1) := by decide +kernel
theorem dX4_manyOfGuest_0 : decode cX4_manyOfGuest 0 = .ok (.iconst 0, 1) := by decide +kernel
theorem dX4_manyOfGuest_1 : decode cX4_manyOfGuest 1 = .ok (.istore 4, 2) := by decide +kernel
theorem dX4_manyOfGuest_3 : decode cX4_manyOfGuest 3 = .ok (.iload 4, 2) := by decide +kernel
theorem dX4_manyOfGuest_5 : decode cX4_manyOfGuest 5 = .ok (.aload_n 0, 1) := by decide +kernel
theorem dX4_manyOfGuest_6 : decode cX4_manyOfGuest 6 = .ok (.getfield 42, 3) := by decide +kernel
theorem dX4_manyOfGuest_9 : decode cX4_manyOfGuest 9 = .ok (.if_icmp .ge 50, 3) := by decide +kernel
theorem dX4_manyOfGuest_12 : decode cX4_manyOfGuest 12 = .ok (.aload_n 0, 1) := by decide +kernel
theorem dX4_manyOfGuest_13 : decode cX4_manyOfGuest 13 = .ok (.getfield 45, 3) := by decide +kernel
theorem dX4_manyOfGuest_16 : decode cX4_manyOfGuest 16 = .ok (.iload 4, 2) := by decide +kernel
theorem dX4_manyOfGuest_18 : decode cX4_manyOfGuest 18 = .ok (.iaload, 1) := by decide +kernel
theorem dX4_manyOfGuest_19 : decode cX4_manyOfGuest 19 = .ok (.iload_n 1, 1) := by decide +kernel
theorem dX4_manyOfGuest_20 : decode cX4_manyOfGuest 20 = .ok (.if_icmp .ne 33, 3) := by decide +kernel
theorem dX4_manyOfGuest_23 : decode cX4_manyOfGuest 23 = .ok (.aload_n 0, 1) := by decide +kernel
theorem dX4_manyOfGuest_24 : decode cX4_manyOfGuest 24 = .ok (.getfield 48, 3) := by decide +kernel
theorem dX4_manyOfGuest_27 : decode cX4_manyOfGuest 27 = .ok (.iload 4, 2) := by decide +kernel
theorem dX4_manyOfGuest_29 : decode cX4_manyOfGuest 29 = .ok (.iaload, 1) := by decide +kernel
theorem dX4_manyOfGuest_30 : decode cX4_manyOfGuest 30 = .ok (.iload_n 2, 1) := by decide +kernel
theorem dX4_manyOfGuest_31 : decode cX4_manyOfGuest 31 = .ok (.if_icmp .ne 22, 3) := by decide +kernel
theorem dX4_manyOfGuest_34 : decode cX4_manyOfGuest 34 = .ok (.aload_n 0, 1) := by decide +kernel
theorem dX4_manyOfGuest_35 : decode cX4_manyOfGuest 35 = .ok (.getfield 51, 3) := by decide +kernel
theorem dX4_manyOfGuest_38 : decode cX4_manyOfGuest 38 = .ok (.iload 4, 2) := by decide +kernel
theorem dX4_manyOfGuest_40 : decode cX4_manyOfGuest 40 = .ok (.iaload, 1) := by decide +kernel
theorem dX4_manyOfGuest_41 : decode cX4_manyOfGuest 41 = .ok (.iload_n 3, 1) := by decide +kernel
theorem dX4_manyOfGuest_42 : decode cX4_manyOfGuest 42 = .ok (.if_icmp .ne 11, 3) := by decide +kernel
theorem dX4_manyOfGuest_45 : decode cX4_manyOfGuest 45 = .ok (.aload_n 0, 1) := by decide +kernel
theorem dX4_manyOfGuest_46 : decode cX4_manyOfGuest 46 = .ok (.getfield 54, 3) := by decide +kernel
theorem dX4_manyOfGuest_49 : decode cX4_manyOfGuest 49 = .ok (.iload 4, 2) := by decide +kernel
theorem dX4_manyOfGuest_51 : decode cX4_manyOfGuest 51 = .ok (.iaload, 1) := by decide +kernel
theorem dX4_manyOfGuest_52 : decode cX4_manyOfGuest 52 = .ok (.ireturn, 1) := by decide +kernel
theorem dX4_manyOfGuest_53 : decode cX4_manyOfGuest 53 = .ok (.iinc 4 1, 3) := by decide +kernel
theorem dX4_manyOfGuest_56 : decode cX4_manyOfGuest 56 = .ok (.goto (-53), 3) := by decide +kernel
theorem dX4_manyOfGuest_59 : decode cX4_manyOfGuest 59 = .ok (.iconst (-1), 1) := by decide +kernel
theorem dX4_manyOfGuest_60 : decode cX4_manyOfGuest 60 = .ok (.ireturn, 1) := by decide +kernel
theorem dX4_turnOn_0 : decode cX4_turnOn 0 = .ok (.aload_n 0, 1) := by decide +kernel
theorem dX4_turnOn_1 : decode cX4_turnOn 1 = .ok (.getfield 20, 3) := by decide +kernel
theorem dX4_turnOn_4 : decode cX4_turnOn 4 = .ok (.iload_n 1, 1) := by decide +kernel
theorem dX4_turnOn_5 : decode cX4_turnOn 5 = .ok (.iaload, 1) := by decide +kernel
theorem dX4_turnOn_6 : decode cX4_turnOn 6 = .ok (.istore_n 3, 1) := by decide +kernel
theorem dX4_turnOn_7 : decode cX4_turnOn 7 = .ok (.iload_n 3, 1) := by decide +kernel
theorem dX4_turnOn_8 : decode cX4_turnOn 8 = .ok (.ifCond .le 16, 3) := by decide +kernel
theorem dX4_turnOn_11 : decode cX4_turnOn 11 = .ok (.aload_n 0, 1) := by decide +kernel
theorem dX4_turnOn_12 : decode cX4_turnOn 12 = .ok (.getfield 17, 3) := by decide +kernel
theorem dX4_turnOn_15 : decode cX4_turnOn 15 = .ok (.iload_n 1, 1) := by decide +kernel
theorem dX4_turnOn_16 : decode cX4_turnOn 16 = .ok (.aaload, 1) := by decide +kernel
theorem dX4_turnOn_17 : decode cX4_turnOn 17 = .ok (.iload_n 2, 1) := by decide +kernel
theorem dX4_turnOn_18 : decode cX4_turnOn 18 = .ok (.iload_n 3, 1) := by decide +kernel
theorem dX4_turnOn_19 : decode cX4_turnOn 19 = .ok (.irem, 1) := by decide +kernel
theorem dX4_turnOn_20 : decode cX4_turnOn 20 = .ok (.iaload, 1) := by decide +kernel
theorem dX4_turnOn_21 : decode cX4_turnOn 21 = .ok (.goto 4, 3) := by decide +kernel
theorem dX4_turnOn_24 : decode cX4_turnOn 24 = .ok (.iconst (-1), 1) := by decide +kernel
theorem dX4_turnOn_25 : decode cX4_turnOn 25 = .ok (.ireturn, 1) := by decide +kernel
set_option maxHeartbeats 4000000 in
set_option maxRecDepth 100000 in
/-- WellCourt$Law.turnOn -/
theorem s_X4_turnOn (l : Launch) (G : va_G) (cy : Nat → ClassId) (sK sV : Nat → Nat) (ad : Nat → Nat → Nat) (sz : Nat) (st : gS) (hB : gBd bX st) (z : Int32) (x : Int32) (y : Int32) (Xx : Int) (Xy : Int) (kx : x.toInt = Xx) (ky : y.toInt = Xy) (hz_z : (0 : Int) ≤ z.toInt ∧ z.toInt ≤ (1 : Int)) (hx0 : 0 ≤ Xx) (hx1 : Xx < 6) (hy0 : 0 ≤ Xy) (rs : List Rl) (hL : LXt rs st z.toNatClampNeg) : gsMi l yX4_turnOn cX4_turnOn 4 (some .int) ({ frames := 0, cells := 0, slots := 0, locals := 0 } : Room) G cy sK sV (shX cy ad) cnX ad sz [.ref (ad 25 z.toNatClampNeg), .int x, .int y] st (fun (r : Int32) (u : gS) => gBN bX kX [] st u ∧ ((r.toInt = ownT rs Xx Xy))) := by
  refine gs_start (fun A => gsQi G (shX cy ad) cnX ad _ A) (by decide) (Nat.le_of_ble_eq_true rfl) ?_
  intro p e s m below meth c A ls H hx hb hr hml hlocks hown hts hK hov hE hI hM hm hS hA hl
  have hl : lv_has ls 4 [(0, .ref (ad 25 z.toNatClampNeg)), (1, .int x), (2, .int y)] := hl
  have hB_st : gBN bX kX [] st st := gBN.rf hB
  refine lv_aload_n hx hb dX4_turnOn_0 rfl (lv_at hl 0 rfl) ?_
  refine gs_get (C := RX4) (T := TX4) (N := 14) hx hb hts inX4 hown hK hM 25 z.toNatClampNeg 2 (gs_sel hz_z) rfl rfl (by decide) (hts _ gm_192) (fun _ h9 => h9) rfl dX4_turnOn_1 ?_
  refine lv_iload_n hx hb dX4_turnOn_4 rfl (lv_at hl 1 rfl) ?_
  refine gs_iald hx hb hK hM 28 z.toNatClampNeg (gs_sel hz_z) rfl (vp_in_iff.mpr ⟨by omega, by omega⟩) dX4_turnOn_5 ?_
  refine lv_topi (fun x_1 ex_1 => ?_)
  have qx_1 : x_1.toInt = (st 28 z.toNatClampNeg (x.toNatClampNeg)).toInt := congrArg Int32.toInt ex_1
  have bx_1 : (0 : Int) ≤ x_1.toInt ∧ x_1.toInt ≤ (72 : Int) := by rw [qx_1]; exact hB_st.1 28 z.toNatClampNeg (x.toNatClampNeg)
  refine lv_istore_n (lv' := [(3, .int x_1), (0, .ref (ad 25 z.toNatClampNeg)), (1, .int x), (2, .int y)]) hx hb dX4_turnOn_6 rfl hl (by decide) rfl (fun ls hl => ?_)
  refine lv_iload_n hx hb dX4_turnOn_7 rfl (lv_at hl 0 rfl) ?_
  refine lv_if_le (tgt := 24) hx hb dX4_turnOn_8 (by decide) (fun c_2 => ?_) (fun c_2 => ?_)
  · have ic_2 := gz_le (rfl : x_1.toInt = x_1.toInt) (by decide : (0 : Int32).toInt = 0) c_2
    refine lv_iconst (v := (-1)) hx hb dX4_turnOn_24 (by decide) ?_
    exact gs_iret hx hb hr hlocks hM hS rfl ⟨hB_st, ((show ((-1 : Int32)).toInt = -1 from by decide).trans (by have h8 := gs_cl (x := x) (by omega); have h9 := ownT_tab0 (d := Xy) (w := x.toNatClampNeg) hL (by omega) (by omega); rw [show (x.toNatClampNeg : Int) = Xx by omega] at h9; exact h9.symm))⟩ (by exact Nat.le_refl _) (by exact Nat.le_refl _) dX4_turnOn_25
  · have ic_2 := gz_nle (rfl : x_1.toInt = x_1.toInt) (by decide : (0 : Int32).toInt = 0) c_2
    refine lv_aload_n hx hb dX4_turnOn_11 rfl (lv_at hl 1 rfl) ?_
    refine gs_get (C := RX4) (T := TX4) (N := 14) hx hb hts inX4 hown hK hM 25 z.toNatClampNeg 1 (gs_sel hz_z) rfl rfl (by decide) (hts _ gm_191) (fun _ h9 => h9) rfl dX4_turnOn_12 ?_
    refine lv_iload_n hx hb dX4_turnOn_15 rfl (lv_at hl 2 rfl) ?_
    have h_3 : x.toNatClampNeg < 6 := gs_lt (vp_in_iff.mpr ⟨by omega, by omega⟩)
    refine gs_alda hx hb hK hM 26 z.toNatClampNeg (gs_sel hz_z) rfl (vp_in_iff.mpr ⟨by omega, by omega⟩) (a := ad 27 (6 * z.toNatClampNeg + x.toNatClampNeg)) (if_pos h_3) dX4_turnOn_16 ?_
    refine lv_iload_n hx hb dX4_turnOn_17 rfl (lv_at hl 3 rfl) ?_
    refine lv_iload_n hx hb dX4_turnOn_18 rfl (lv_at hl 0 rfl) ?_
    refine lv_irem hx hb dX4_turnOn_19 (fun h9 => by have h8 := congrArg Int32.toInt h9; have h7 : (0 : Int32).toInt = 0 := (by decide); omega) ?_
    refine lv_topi (fun x_4 ex_4 => ?_)
    try have tx_4 := gs_rem (y := x_1.toInt) rfl (show 0 ≤ y.toInt from by omega) (by omega) ex_4
    refine gs_iald hx hb hK hM 27 (6 * z.toNatClampNeg + x.toNatClampNeg) (by show _ < 12; have h91 := h_3; have h92 : z.toNatClampNeg < 2 := (gs_sel hz_z); omega) rfl (vp_in_iff.mpr ⟨by omega, by omega⟩) dX4_turnOn_20 ?_
    refine lv_topi (fun x_5 ex_5 => ?_)
    have qx_5 : x_5.toInt = (st 27 (6 * z.toNatClampNeg + x.toNatClampNeg) (x_4.toNatClampNeg)).toInt := congrArg Int32.toInt ex_5
    refine lv_goto (tgt := 25) hx hb dX4_turnOn_21 (by decide) ?_
    exact gs_iret hx hb hr hlocks hM hS rfl ⟨hB_st, (by have h8 := gs_cl (x := x) (by omega); have h9 := ownT_tab (k := x_4) (w := x.toNatClampNeg) (d := Xy) (m := x_1.toInt) hL (by omega) (by omega) (by omega) (gs_rem3 rfl ky (by omega) (by omega) ex_4); rw [show (x.toNatClampNeg : Int) = Xx by omega] at h9; rw [qx_5]; exact h9)⟩ (by exact Nat.le_refl _) (by exact Nat.le_refl _) dX4_turnOn_25

set_option maxHeartbeats 4000000 in
set_option maxRecDepth 100000 in
/-- WellCourt$Law.areWed -/
theorem s_X4_areWed (l : Launch) (G : va_G) (cy : Nat → ClassId) (sK sV : Nat → Nat) (ad : Nat → Nat → Nat) (sz : Nat) (st : gS) (hB : gBd bX st) (z : Int32) (x : Int32) (y : Int32) (Xx : Int) (Xy : Int) (kx : x.toInt = Xx) (ky : y.toInt = Xy) (hz_z : (0 : Int) ≤ z.toInt ∧ z.toInt ≤ (1 : Int)) (rs : List Rl) (hL : LXk rs st z.toNatClampNeg) (hwf : ∀ r ∈ rs, wfR r) : gsMi l yX4_areWed cX4_areWed 3 (some .boolean) ({ frames := 1, cells := 0, slots := 0, locals := 20 } : Room) G cy sK sV (shX cy ad) cnX ad sz [.ref (ad 25 z.toNatClampNeg), .int x, .int y] st (fun (r : Int32) (u : gS) => gBN bX kX [] st u ∧ ((r = 1 ∧ (wedT rs Xx Xy)) ∨ (r = 0 ∧ (¬ wedT rs Xx Xy)))) := by
  refine gs_start (fun A => gsQi G (shX cy ad) cnX ad _ A) (by decide) (Nat.le_of_ble_eq_true rfl) ?_
  intro p e s m below meth c A ls H hx hb hr hml hlocks hown hts hK hov hE hI hM hm hS hA hl
  have hl : lv_has ls 3 [(0, .ref (ad 25 z.toNatClampNeg)), (1, .int x), (2, .int y)] := hl
  have hB_st : gBN bX kX [] st st := gBN.rf hB
  refine lv_iload_n hx hb dX4_areWed_0 rfl (lv_at hl 1 rfl) ?_
  refine gs_calli (va_runSN (As := [.int x]) (rest := []) ⟨hx, hb, hml, hown, hts⟩ (s_isClan l G cy sK sV ad H.size st hB_st.1 x x.toInt rfl ) ⟨(va_cnB 1 hts (gz_good gm_487) rfl rfl rfl (hov.2.2 _ gn_613) (hts _ gm_1) ⟨by decide +kernel, by decide +kernel, by decide +kernel⟩ ⟨Nat.le_of_ble_eq_true rfl, Nat.le_of_ble_eq_true rfl⟩), hts _ gm_486, trivial⟩ (gs_preS hK hov hE hI hM hm hS hA) rfl rfl hl.1 rfl (lv_room (Nat.le_of_ble_eq_true rfl)) dX4_areWed_1 ⟨Nat.le_of_ble_eq_true rfl, Nat.le_of_ble_eq_true rfl⟩) hm hS hA (fun r_1 st_1 H locs hw_1 hM hS => ?_)
  obtain ⟨n_1, hw_1⟩ := hw_1
  have n_1 := gBN.nil n_1
  subst n_1
  rcases hw_1 with ⟨rfl, hw_1_0, hw_1_1⟩ | ⟨rfl, hw_1_0⟩
  · skip
    refine lv_if_eq (tgt := 32) hx hb dX4_areWed_4 (by decide) (fun h9 => absurd h9 (by decide)) (fun _ => ?_)
    refine lv_iload_n hx hb dX4_areWed_7 rfl (lv_at hl 2 rfl) ?_
    refine gs_calli (va_runSN (As := [.int y]) (rest := []) ⟨hx, hb, hml, hown, hts⟩ (s_isClan l G cy sK sV ad H.size st hB_st.1 y y.toInt rfl ) ⟨(va_cnB 1 hts (gz_good gm_487) rfl rfl rfl (hov.2.2 _ gn_613) (hts _ gm_1) ⟨by decide +kernel, by decide +kernel, by decide +kernel⟩ ⟨Nat.le_of_ble_eq_true rfl, Nat.le_of_ble_eq_true rfl⟩), hts _ gm_486, trivial⟩ (gs_preS hK hov hE hI hM hm hS hA) rfl rfl hl.1 rfl (lv_room (Nat.le_of_ble_eq_true rfl)) dX4_areWed_8 ⟨Nat.le_of_ble_eq_true rfl, Nat.le_of_ble_eq_true rfl⟩) hm hS hA (fun r_2 st_2 H locs hw_2 hM hS => ?_)
    obtain ⟨n_2, hw_2⟩ := hw_2
    have n_2 := gBN.nil n_2
    subst n_2
    rcases hw_2 with ⟨rfl, hw_2_0, hw_2_1⟩ | ⟨rfl, hw_2_0⟩
    · skip
      refine lv_if_eq (tgt := 32) hx hb dX4_areWed_11 (by decide) (fun h9 => absurd h9 (by decide)) (fun _ => ?_)
      refine lv_aload_n hx hb dX4_areWed_14 rfl (lv_at hl 0 rfl) ?_
      refine gs_get (C := RX4) (T := TX4) (N := 14) hx hb hts inX4 hown hK hM 25 z.toNatClampNeg 3 (gs_sel hz_z) rfl rfl (by decide) (hts _ gm_193) (fun _ h9 => h9) rfl dX4_areWed_15 ?_
      refine lv_iload_n hx hb dX4_areWed_18 rfl (lv_at hl 1 rfl) ?_
      refine gs_iald hx hb hK hM 29 z.toNatClampNeg (gs_sel hz_z) rfl (vp_in_iff.mpr ⟨by omega, by omega⟩) dX4_areWed_19 ?_
      refine lv_topi (fun x_3 ex_3 => ?_)
      have qx_3 : x_3.toInt = (st 29 z.toNatClampNeg (x.toNatClampNeg)).toInt := congrArg Int32.toInt ex_3
      refine lv_iload_n hx hb dX4_areWed_20 rfl (lv_at hl 2 rfl) ?_
      refine lv_ishr hx hb dX4_areWed_21 ?_
      refine lv_topi (fun x_4 ex_4 => ?_)
      refine lv_iconst (v := 1) hx hb dX4_areWed_22 (by decide) ?_
      refine lv_iand hx hb dX4_areWed_23 ?_
      refine lv_topi (fun x_5 ex_5 => ?_)
      refine lv_iconst (v := 1) hx hb dX4_areWed_24 (by decide) ?_
      refine lv_icmp_ne (tgt := 32) hx hb dX4_areWed_25 (by decide) (fun c_6 => ?_) (fun c_6 => ?_)
      · have ic_6 := gz_ne (rfl : x_5.toInt = x_5.toInt) (by decide : (1 : Int32).toInt = 1) c_6
        refine lv_iconst (v := 0) hx hb dX4_areWed_32 (by decide) ?_
        exact gs_iret hx hb hr hlocks hM hS (by decide) ⟨hB_st, (Or.inr ⟨rfl, fun h5 => by first | exact (by have h6 := wedT_rng hwf h5; omega) | exact (by have h8 := gs_cl (x := x) (by omega); have h7 := gs_cl (x := y) (by omega); have h9 := hL x.toNatClampNeg (by omega) y.toNatClampNeg (by omega); rw [show (x.toNatClampNeg : Int) = Xx by omega, show (y.toNatClampNeg : Int) = Xy by omega] at h9; rw [← ex_3] at h9; have h6 := (bt_test (by omega) (by omega) ex_4 ex_5).mpr (h9.mpr h5); omega)⟩)⟩ (by exact Nat.le_refl _) (by exact Nat.le_refl _) dX4_areWed_33
      · have ic_6 := gz_eqn (rfl : x_5.toInt = x_5.toInt) (by decide : (1 : Int32).toInt = 1) c_6
        refine lv_iconst (v := 1) hx hb dX4_areWed_28 (by decide) ?_
        refine lv_goto (tgt := 33) hx hb dX4_areWed_29 (by decide) ?_
        exact gs_iret hx hb hr hlocks hM hS (by decide) ⟨hB_st, (Or.inl ⟨rfl, (by have h8 := gs_cl (x := x) (by omega); have h7 := gs_cl (x := y) (by omega); have h9 := hL x.toNatClampNeg (by omega) y.toNatClampNeg (by omega); rw [show (x.toNatClampNeg : Int) = Xx by omega, show (y.toNatClampNeg : Int) = Xy by omega] at h9; rw [← ex_3] at h9; exact h9.mp ((bt_test (by omega) (by omega) ex_4 ex_5).mp (by omega)))⟩)⟩ (by exact Nat.le_refl _) (by exact Nat.le_refl _) dX4_areWed_33
    · skip
      refine lv_if_eq (tgt := 32) hx hb dX4_areWed_11 (by decide) (fun _ => ?_) (fun h9 => absurd (by decide) h9)
      refine lv_iconst (v := 0) hx hb dX4_areWed_32 (by decide) ?_
      exact gs_iret hx hb hr hlocks hM hS (by decide) ⟨hB_st, (Or.inr ⟨rfl, fun h5 => by first | exact (by have h6 := wedT_rng hwf h5; omega) | exact (by have h8 := gs_cl (x := x) (by omega); have h7 := gs_cl (x := y) (by omega); have h9 := hL x.toNatClampNeg (by omega) y.toNatClampNeg (by omega); rw [show (x.toNatClampNeg : Int) = Xx by omega, show (y.toNatClampNeg : Int) = Xy by omega] at h9; rw [← ex_3] at h9; have h6 := (bt_test (by omega) (by omega) ex_4 ex_5).mpr (h9.mpr h5); omega)⟩)⟩ (by exact Nat.le_refl _) (by exact Nat.le_refl _) dX4_areWed_33
  · skip
    refine lv_if_eq (tgt := 32) hx hb dX4_areWed_4 (by decide) (fun _ => ?_) (fun h9 => absurd (by decide) h9)
    refine lv_iconst (v := 0) hx hb dX4_areWed_32 (by decide) ?_
    exact gs_iret hx hb hr hlocks hM hS (by decide) ⟨hB_st, (Or.inr ⟨rfl, fun h5 => by first | exact (by have h6 := wedT_rng hwf h5; omega) | exact (by have h8 := gs_cl (x := x) (by omega); have h7 := gs_cl (x := y) (by omega); have h9 := hL x.toNatClampNeg (by omega) y.toNatClampNeg (by omega); rw [show (x.toNatClampNeg : Int) = Xx by omega, show (y.toNatClampNeg : Int) = Xy by omega] at h9; rw [← ex_3] at h9; have h6 := (bt_test (by omega) (by omega) ex_4 ex_5).mpr (h9.mpr h5); omega)⟩)⟩ (by exact Nat.le_refl _) (by exact Nat.le_refl _) dX4_areWed_33

set_option maxHeartbeats 4000000 in
set_option maxRecDepth 100000 in
/-- WellCourt$Law.leadsDry -/
theorem s_X4_leadsDry (l : Launch) (G : va_G) (cy : Nat → ClassId) (sK sV : Nat → Nat) (ad : Nat → Nat → Nat) (sz : Nat) (st : gS) (hB : gBd bX st) (z : Int32) (x : Int32) (y : Int32) (Xx : Int) (Xy : Int) (kx : x.toInt = Xx) (ky : y.toInt = Xy) (hz_z : (0 : Int) ≤ z.toInt ∧ z.toInt ≤ (1 : Int)) (hy0 : 0 ≤ Xy) (hy1 : Xy < 6) (hx0 : 0 ≤ Xx) (hx1 : Xx < 6) (rs : List Rl) (hL : LXf rs st z.toNatClampNeg) : gsMi l yX4_leadsDry cX4_leadsDry 3 (some .boolean) ({ frames := 0, cells := 0, slots := 0, locals := 0 } : Room) G cy sK sV (shX cy ad) cnX ad sz [.ref (ad 25 z.toNatClampNeg), .int x, .int y] st (fun (r : Int32) (u : gS) => gBN bX kX [] st u ∧ ((r = 1 ∧ (dryT rs Xx Xy)) ∨ (r = 0 ∧ (¬ dryT rs Xx Xy)))) := by
  refine gs_start (fun A => gsQi G (shX cy ad) cnX ad _ A) (by decide) (Nat.le_of_ble_eq_true rfl) ?_
  intro p e s m below meth c A ls H hx hb hr hml hlocks hown hts hK hov hE hI hM hm hS hA hl
  have hl : lv_has ls 3 [(0, .ref (ad 25 z.toNatClampNeg)), (1, .int x), (2, .int y)] := hl
  have hB_st : gBN bX kX [] st st := gBN.rf hB
  refine lv_aload_n hx hb dX4_leadsDry_0 rfl (lv_at hl 0 rfl) ?_
  refine gs_get (C := RX4) (T := TX4) (N := 14) hx hb hts inX4 hown hK hM 25 z.toNatClampNeg 4 (gs_sel hz_z) rfl rfl (by decide) (hts _ gm_194) (fun _ h9 => h9) rfl dX4_leadsDry_1 ?_
  refine lv_iload_n hx hb dX4_leadsDry_4 rfl (lv_at hl 2 rfl) ?_
  refine gs_iald hx hb hK hM 30 z.toNatClampNeg (gs_sel hz_z) rfl (vp_in_iff.mpr ⟨by omega, by omega⟩) dX4_leadsDry_5 ?_
  refine lv_topi (fun x_1 ex_1 => ?_)
  have qx_1 : x_1.toInt = (st 30 z.toNatClampNeg (y.toNatClampNeg)).toInt := congrArg Int32.toInt ex_1
  refine lv_iload_n hx hb dX4_leadsDry_6 rfl (lv_at hl 1 rfl) ?_
  refine lv_ishr hx hb dX4_leadsDry_7 ?_
  refine lv_topi (fun x_2 ex_2 => ?_)
  refine lv_iconst (v := 1) hx hb dX4_leadsDry_8 (by decide) ?_
  refine lv_iand hx hb dX4_leadsDry_9 ?_
  refine lv_topi (fun x_3 ex_3 => ?_)
  refine lv_iconst (v := 1) hx hb dX4_leadsDry_10 (by decide) ?_
  refine lv_icmp_ne (tgt := 18) hx hb dX4_leadsDry_11 (by decide) (fun c_4 => ?_) (fun c_4 => ?_)
  · have ic_4 := gz_ne (rfl : x_3.toInt = x_3.toInt) (by decide : (1 : Int32).toInt = 1) c_4
    refine lv_iconst (v := 0) hx hb dX4_leadsDry_18 (by decide) ?_
    exact gs_iret hx hb hr hlocks hM hS (by decide) ⟨hB_st, (Or.inr ⟨rfl, fun h5 => by have h8 := gs_cl (x := x) (by omega); have h7 := gs_cl (x := y) (by omega); have h9 := hL y.toNatClampNeg (by omega) x.toNatClampNeg (by omega); rw [show (x.toNatClampNeg : Int) = Xx by omega, show (y.toNatClampNeg : Int) = Xy by omega] at h9; rw [← ex_1] at h9; have h6 := (bt_test (by omega) (by omega) ex_2 ex_3).mpr (h9.mpr h5); omega⟩)⟩ (by exact Nat.le_refl _) (by exact Nat.le_refl _) dX4_leadsDry_19
  · have ic_4 := gz_eqn (rfl : x_3.toInt = x_3.toInt) (by decide : (1 : Int32).toInt = 1) c_4
    refine lv_iconst (v := 1) hx hb dX4_leadsDry_14 (by decide) ?_
    refine lv_goto (tgt := 19) hx hb dX4_leadsDry_15 (by decide) ?_
    exact gs_iret hx hb hr hlocks hM hS (by decide) ⟨hB_st, (Or.inl ⟨rfl, (by have h8 := gs_cl (x := x) (by omega); have h7 := gs_cl (x := y) (by omega); have h9 := hL y.toNatClampNeg (by omega) x.toNatClampNeg (by omega); rw [show (x.toNatClampNeg : Int) = Xx by omega, show (y.toNatClampNeg : Int) = Xy by omega] at h9; rw [← ex_1] at h9; exact h9.mp ((bt_test (by omega) (by omega) ex_2 ex_3).mp (by omega)))⟩)⟩ (by exact Nat.le_refl _) (by exact Nat.le_refl _) dX4_leadsDry_19

set_option maxHeartbeats 4000000 in
set_option maxRecDepth 100000 in
/-- WellCourt$Law.droughtOwner -/
theorem s_X4_droughtOwner (l : Launch) (G : va_G) (cy : Nat → ClassId) (sK sV : Nat → Nat) (ad : Nat → Nat → Nat) (sz : Nat) (st : gS) (hB : gBd bX st) (z : Int32) (x : Int32) (y : Int32) (Xx : Int) (Xy : Int) (kx : x.toInt = Xx) (ky : y.toInt = Xy) (hz_z : (0 : Int) ≤ z.toInt ∧ z.toInt ≤ (1 : Int)) (rs : List Rl) (hL : LXd rs st z.toNatClampNeg) : gsMi l yX4_droughtOwner cX4_droughtOwner 4 (some .int) ({ frames := 0, cells := 0, slots := 0, locals := 0 } : Room) G cy sK sV (shX cy ad) cnX ad sz [.ref (ad 25 z.toNatClampNeg), .int x, .int y] st (fun (r : Int32) (u : gS) => gBN bX kX [] st u ∧ ((r.toInt = if Xy = -1 then -1 else dryO rs Xx Xy))) := by
  refine gs_start (fun A => gsQi G (shX cy ad) cnX ad _ A) (by decide) (Nat.le_of_ble_eq_true rfl) ?_
  intro p e s m below meth c A ls H hx hb hr hml hlocks hown hts hK hov hE hI hM hm hS hA hl
  have hl : lv_has ls 4 [(0, .ref (ad 25 z.toNatClampNeg)), (1, .int x), (2, .int y)] := hl
  have hB_st : gBN bX kX [] st st := gBN.rf hB
  generalize hQe : MQ below _ _ s _ _ A = Q
  refine lv_iconst (v := 0) hx hb dX4_droughtOwner_0 (by decide) ?_
  refine lv_istore_n (lv' := [(3, .int 0), (0, .ref (ad 25 z.toNatClampNeg)), (1, .int x), (2, .int y)]) hx hb dX4_droughtOwner_1 rfl hl (by decide) rfl (fun ls hl => ?_)
  have lp1 : ∀ (n1 : Nat)  (y1_0 : Int32) (H : Heap) (locs : List Loc) (ls : Array Slot), (20 - y1_0.toInt).toNat < n1 →  (0 ≤ y1_0.toInt) → (noF (drT rs) (drP Xx Xy) y1_0.toInt) → gM G (shX cy ad) cnX ad st H → va_S A s.heap H locs → lv_has ls 4 [(3, .int y1_0), (0, .ref (ad 25 z.toNatClampNeg)), (1, .int x), (2, .int y)] → W p l e ({ frames := 0, cells := 0, slots := 0, locals := 0 } : Room) s m [.ref (ad 25 z.toNatClampNeg), .int x, .int y].toArray below meth c H locs 0 0 Q (F0 m 2 ls []) := by
    intro n1
    induction n1 with
    | zero => intro  y1_0 H locs ls h9; exact absurd h9 (Nat.not_lt_zero _)
    | succ n1 ih_1 =>
      intro  y1_0 H locs ls hme1  hv1_0 hv1_1 hM hS hl
      refine lv_iload_n hx hb dX4_droughtOwner_2 rfl (lv_at hl 0 rfl) ?_
      refine lv_aload_n hx hb dX4_droughtOwner_3 rfl (lv_at hl 1 rfl) ?_
      refine gs_get (C := RX4) (T := TX4) (N := 14) hx hb hts inX4 hown hK hM 25 z.toNatClampNeg 5 (gs_sel hz_z) rfl rfl (by decide) (hts _ gm_195) (fun _ h9 => h9) rfl dX4_droughtOwner_4 ?_
      have bf_2 : (0 : Int) ≤ (st 25 z.toNatClampNeg 5).toInt ∧ (st 25 z.toNatClampNeg 5).toInt ≤ (20 : Int) := hB_st.1 25 z.toNatClampNeg 5
      refine lv_icmp_ge (tgt := 48) hx hb dX4_droughtOwner_7 (by decide) (fun c_3 => ?_) (fun c_3 => ?_)
      · have ic_3 := gz_le (rfl : (st 25 z.toNatClampNeg 5).toInt = (st 25 z.toNatClampNeg 5).toInt) (rfl : y1_0.toInt = y1_0.toInt) c_3
        refine lv_iconst (v := (-1)) hx hb dX4_droughtOwner_48 (by decide) ?_
        rw [← hQe]
        exact gs_iret hx hb hr hlocks hM hS rfl ⟨hB_st, (by first | (rw [if_pos (by omega)]; decide) | (by_cases h9 : Xy = -1; rw [if_pos h9]; decide; rw [if_neg h9, LXd.miss hL hv1_1 (by omega)]; decide))⟩ (by exact Nat.le_refl _) (by exact Nat.le_refl _) dX4_droughtOwner_49
      · have ic_3 := gz_nle (rfl : (st 25 z.toNatClampNeg 5).toInt = (st 25 z.toNatClampNeg 5).toInt) (rfl : y1_0.toInt = y1_0.toInt) c_3
        have lc_3 := gi_hi (st 25 z.toNatClampNeg 5)
        refine lv_iload_n hx hb dX4_droughtOwner_10 rfl (lv_at hl 3 rfl) ?_
        refine lv_iconst (v := (-1)) hx hb dX4_droughtOwner_11 (by decide) ?_
        refine lv_icmp_eq (tgt := 48) hx hb dX4_droughtOwner_12 (by decide) (fun c_4 => ?_) (fun c_4 => ?_)
        · have ic_4 := gz_eq (rfl : y.toInt = y.toInt) (by decide : ((-1) : Int32).toInt = -1) c_4
          refine lv_iconst (v := (-1)) hx hb dX4_droughtOwner_48 (by decide) ?_
          rw [← hQe]
          exact gs_iret hx hb hr hlocks hM hS rfl ⟨hB_st, (by first | (rw [if_pos (by omega)]; decide) | (by_cases h9 : Xy = -1; rw [if_pos h9]; decide; rw [if_neg h9, LXd.miss hL hv1_1 (by omega)]; decide))⟩ (by exact Nat.le_refl _) (by exact Nat.le_refl _) dX4_droughtOwner_49
        · have ic_4 := gz_ne (rfl : y.toInt = y.toInt) (by decide : ((-1) : Int32).toInt = -1) c_4
          refine lv_aload_n hx hb dX4_droughtOwner_15 rfl (lv_at hl 1 rfl) ?_
          refine gs_get (C := RX4) (T := TX4) (N := 14) hx hb hts inX4 hown hK hM 25 z.toNatClampNeg 6 (gs_sel hz_z) rfl rfl (by decide) (hts _ gm_196) (fun _ h9 => h9) rfl dX4_droughtOwner_16 ?_
          refine lv_iload_n hx hb dX4_droughtOwner_19 rfl (lv_at hl 0 rfl) ?_
          refine gs_iald hx hb hK hM 31 z.toNatClampNeg (gs_sel hz_z) rfl (vp_in_iff.mpr ⟨by omega, by omega⟩) dX4_droughtOwner_20 ?_
          refine lv_topi (fun x_5 ex_5 => ?_)
          have qx_5 : x_5.toInt = (st 31 z.toNatClampNeg (y1_0.toNatClampNeg)).toInt := congrArg Int32.toInt ex_5
          refine lv_iload_n hx hb dX4_droughtOwner_21 rfl (lv_at hl 2 rfl) ?_
          refine lv_icmp_ne (tgt := 42) hx hb dX4_droughtOwner_22 (by decide) (fun c_6 => ?_) (fun c_6 => ?_)
          · have ic_6 := gz_ne (rfl : x_5.toInt = x_5.toInt) (rfl : x.toInt = x.toInt) c_6
            obtain ⟨x_7, ex_7⟩ : ∃ y : Int32, y = y1_0 + 1 := ⟨_, rfl⟩
            try have tx_7 : x_7.toInt = y1_0.toInt + 1 := by rw [ex_7]; exact gz_addP (x := y1_0.toInt) (y := 1) rfl (by decide) (by omega) (by omega)
            refine lv_iinc (v := (x_7)) (lv' := [(3, .int x_7), (0, .ref (ad 25 z.toNatClampNeg)), (1, .int x), (2, .int y)]) hx hb dX4_droughtOwner_42 hl (k := 0) rfl (by rw [ex_7]; rfl) (by decide) rfl (fun ls hl => ?_)
            refine lv_goto (tgt := 2) hx hb dX4_droughtOwner_45 (by decide) ?_
            exact ih_1  (x_7 : Int32) H _ ls (by omega)  (by omega) (noF.step hv1_1 (by omega) (by omega) (LXd.not hL (by omega) (by omega))) hM hS (lv_sub hl [0, 1, 2, 3] rfl)
          · have ic_6 := gz_eqn (rfl : x_5.toInt = x_5.toInt) (rfl : x.toInt = x.toInt) c_6
            refine lv_iload_n hx hb dX4_droughtOwner_25 rfl (lv_at hl 3 rfl) ?_
            refine lv_aload_n hx hb dX4_droughtOwner_26 rfl (lv_at hl 1 rfl) ?_
            refine gs_get (C := RX4) (T := TX4) (N := 14) hx hb hts inX4 hown hK hM 25 z.toNatClampNeg 7 (gs_sel hz_z) rfl rfl (by decide) (hts _ gm_197) (fun _ h9 => h9) rfl dX4_droughtOwner_27 ?_
            refine lv_iload_n hx hb dX4_droughtOwner_30 rfl (lv_at hl 0 rfl) ?_
            refine gs_iald hx hb hK hM 32 z.toNatClampNeg (gs_sel hz_z) rfl (vp_in_iff.mpr ⟨by omega, by omega⟩) dX4_droughtOwner_31 ?_
            refine lv_topi (fun x_8 ex_8 => ?_)
            have qx_8 : x_8.toInt = (st 32 z.toNatClampNeg (y1_0.toNatClampNeg)).toInt := congrArg Int32.toInt ex_8
            refine lv_icmp_ge (tgt := 42) hx hb dX4_droughtOwner_32 (by decide) (fun c_9 => ?_) (fun c_9 => ?_)
            · have ic_9 := gz_le (rfl : x_8.toInt = x_8.toInt) (rfl : y.toInt = y.toInt) c_9
              obtain ⟨x_10, ex_10⟩ : ∃ y : Int32, y = y1_0 + 1 := ⟨_, rfl⟩
              try have tx_10 : x_10.toInt = y1_0.toInt + 1 := by rw [ex_10]; exact gz_addP (x := y1_0.toInt) (y := 1) rfl (by decide) (by omega) (by omega)
              refine lv_iinc (v := (x_10)) (lv' := [(3, .int x_10), (0, .ref (ad 25 z.toNatClampNeg)), (1, .int x), (2, .int y)]) hx hb dX4_droughtOwner_42 hl (k := 0) rfl (by rw [ex_10]; rfl) (by decide) rfl (fun ls hl => ?_)
              refine lv_goto (tgt := 2) hx hb dX4_droughtOwner_45 (by decide) ?_
              exact ih_1  (x_10 : Int32) H _ ls (by omega)  (by omega) (noF.step hv1_1 (by omega) (by omega) (LXd.not hL (by omega) (by omega))) hM hS (lv_sub hl [0, 1, 2, 3] rfl)
            · have ic_9 := gz_nle (rfl : x_8.toInt = x_8.toInt) (rfl : y.toInt = y.toInt) c_9
              have lc_9 := gi_hi x_8
              refine lv_aload_n hx hb dX4_droughtOwner_35 rfl (lv_at hl 1 rfl) ?_
              refine gs_get (C := RX4) (T := TX4) (N := 14) hx hb hts inX4 hown hK hM 25 z.toNatClampNeg 8 (gs_sel hz_z) rfl rfl (by decide) (hts _ gm_198) (fun _ h9 => h9) rfl dX4_droughtOwner_36 ?_
              refine lv_iload_n hx hb dX4_droughtOwner_39 rfl (lv_at hl 0 rfl) ?_
              refine gs_iald hx hb hK hM 33 z.toNatClampNeg (gs_sel hz_z) rfl (vp_in_iff.mpr ⟨by omega, by omega⟩) dX4_droughtOwner_40 ?_
              refine lv_topi (fun x_11 ex_11 => ?_)
              have qx_11 : x_11.toInt = (st 33 z.toNatClampNeg (y1_0.toNatClampNeg)).toInt := congrArg Int32.toInt ex_11
              rw [← hQe]
              exact gs_iret hx hb hr hlocks hM hS rfl ⟨hB_st, (by rw [if_neg (by omega), qx_11]; exact LXd.hit hL hv1_1 (by omega) (by omega) (by omega) (by omega))⟩ (by exact Nat.le_refl _) (by exact Nat.le_refl _) dX4_droughtOwner_41
  exact lp1 ((20 - ((0 : Int32) : Int32).toInt).toNat + 1)  ((0 : Int32) : Int32) H _ ls (Nat.lt_succ_self _)  (by have hl0 : (0 : Int32).toInt = 0 := (by decide); omega) (noF.nil (by decide)) hM hS (lv_sub hl [0, 1, 2, 3] rfl)

set_option maxHeartbeats 4000000 in
set_option maxRecDepth 100000 in
/-- WellCourt$Law.manyOfGuest -/
theorem s_X4_manyOfGuest (l : Launch) (G : va_G) (cy : Nat → ClassId) (sK sV : Nat → Nat) (ad : Nat → Nat → Nat) (sz : Nat) (st : gS) (hB : gBd bX st) (z : Int32) (x : Int32) (y : Int32) (w : Int32) (Xx : Int) (Xy : Int) (Xw : Int) (kx : x.toInt = Xx) (ky : y.toInt = Xy) (kw : w.toInt = Xw) (hz_z : (0 : Int) ≤ z.toInt ∧ z.toInt ≤ (1 : Int)) (rs : List Rl) (hL : LXg rs st z.toNatClampNeg) : gsMi l yX4_manyOfGuest cX4_manyOfGuest 5 (some .int) ({ frames := 0, cells := 0, slots := 0, locals := 0 } : Room) G cy sK sV (shX cy ad) cnX ad sz [.ref (ad 25 z.toNatClampNeg), .int x, .int y, .int w] st (fun (r : Int32) (u : gS) => gBN bX kX [] st u ∧ ((r.toInt = gstT rs Xx Xy Xw))) := by
  refine gs_start (fun A => gsQi G (shX cy ad) cnX ad _ A) (by decide) (Nat.le_of_ble_eq_true rfl) ?_
  intro p e s m below meth c A ls H hx hb hr hml hlocks hown hts hK hov hE hI hM hm hS hA hl
  have hl : lv_has ls 5 [(0, .ref (ad 25 z.toNatClampNeg)), (1, .int x), (2, .int y), (3, .int w)] := hl
  have hB_st : gBN bX kX [] st st := gBN.rf hB
  generalize hQe : MQ below _ _ s _ _ A = Q
  refine lv_iconst (v := 0) hx hb dX4_manyOfGuest_0 (by decide) ?_
  refine lv_istore (lv' := [(4, .int 0), (0, .ref (ad 25 z.toNatClampNeg)), (1, .int x), (2, .int y), (3, .int w)]) hx hb dX4_manyOfGuest_1 hl (by decide) rfl (fun ls hl => ?_)
  have lp1 : ∀ (n1 : Nat)  (y1_0 : Int32) (H : Heap) (locs : List Loc) (ls : Array Slot), (20 - y1_0.toInt).toNat < n1 →  (0 ≤ y1_0.toInt) → (noF (guT rs) (guP Xx Xy Xw) y1_0.toInt) → gM G (shX cy ad) cnX ad st H → va_S A s.heap H locs → lv_has ls 5 [(4, .int y1_0), (0, .ref (ad 25 z.toNatClampNeg)), (1, .int x), (2, .int y), (3, .int w)] → W p l e ({ frames := 0, cells := 0, slots := 0, locals := 0 } : Room) s m [.ref (ad 25 z.toNatClampNeg), .int x, .int y, .int w].toArray below meth c H locs 0 0 Q (F0 m 3 ls []) := by
    intro n1
    induction n1 with
    | zero => intro  y1_0 H locs ls h9; exact absurd h9 (Nat.not_lt_zero _)
    | succ n1 ih_1 =>
      intro  y1_0 H locs ls hme1  hv1_0 hv1_1 hM hS hl
      refine lv_iload hx hb dX4_manyOfGuest_3 (lv_at hl 0 rfl) ?_
      refine lv_aload_n hx hb dX4_manyOfGuest_5 rfl (lv_at hl 1 rfl) ?_
      refine gs_get (C := RX4) (T := TX4) (N := 14) hx hb hts inX4 hown hK hM 25 z.toNatClampNeg 9 (gs_sel hz_z) rfl rfl (by decide) (hts _ gm_199) (fun _ h9 => h9) rfl dX4_manyOfGuest_6 ?_
      have bf_2 : (0 : Int) ≤ (st 25 z.toNatClampNeg 9).toInt ∧ (st 25 z.toNatClampNeg 9).toInt ≤ (20 : Int) := hB_st.1 25 z.toNatClampNeg 9
      refine lv_icmp_ge (tgt := 59) hx hb dX4_manyOfGuest_9 (by decide) (fun c_3 => ?_) (fun c_3 => ?_)
      · have ic_3 := gz_le (rfl : (st 25 z.toNatClampNeg 9).toInt = (st 25 z.toNatClampNeg 9).toInt) (rfl : y1_0.toInt = y1_0.toInt) c_3
        refine lv_iconst (v := (-1)) hx hb dX4_manyOfGuest_59 (by decide) ?_
        rw [← hQe]
        exact gs_iret hx hb hr hlocks hM hS rfl ⟨hB_st, ((show ((-1 : Int32)).toInt = -1 from by decide).trans (LXg.miss hL hv1_1 (by omega)).symm)⟩ (by exact Nat.le_refl _) (by exact Nat.le_refl _) dX4_manyOfGuest_60
      · have ic_3 := gz_nle (rfl : (st 25 z.toNatClampNeg 9).toInt = (st 25 z.toNatClampNeg 9).toInt) (rfl : y1_0.toInt = y1_0.toInt) c_3
        have lc_3 := gi_hi (st 25 z.toNatClampNeg 9)
        refine lv_aload_n hx hb dX4_manyOfGuest_12 rfl (lv_at hl 1 rfl) ?_
        refine gs_get (C := RX4) (T := TX4) (N := 14) hx hb hts inX4 hown hK hM 25 z.toNatClampNeg 10 (gs_sel hz_z) rfl rfl (by decide) (hts _ gm_200) (fun _ h9 => h9) rfl dX4_manyOfGuest_13 ?_
        refine lv_iload hx hb dX4_manyOfGuest_16 (lv_at hl 0 rfl) ?_
        refine gs_iald hx hb hK hM 34 z.toNatClampNeg (gs_sel hz_z) rfl (vp_in_iff.mpr ⟨by omega, by omega⟩) dX4_manyOfGuest_18 ?_
        refine lv_topi (fun x_4 ex_4 => ?_)
        have qx_4 : x_4.toInt = (st 34 z.toNatClampNeg (y1_0.toNatClampNeg)).toInt := congrArg Int32.toInt ex_4
        refine lv_iload_n hx hb dX4_manyOfGuest_19 rfl (lv_at hl 2 rfl) ?_
        refine lv_icmp_ne (tgt := 53) hx hb dX4_manyOfGuest_20 (by decide) (fun c_5 => ?_) (fun c_5 => ?_)
        · have ic_5 := gz_ne (rfl : x_4.toInt = x_4.toInt) (rfl : x.toInt = x.toInt) c_5
          obtain ⟨x_6, ex_6⟩ : ∃ y : Int32, y = y1_0 + 1 := ⟨_, rfl⟩
          try have tx_6 : x_6.toInt = y1_0.toInt + 1 := by rw [ex_6]; exact gz_addP (x := y1_0.toInt) (y := 1) rfl (by decide) (by omega) (by omega)
          refine lv_iinc (v := (x_6)) (lv' := [(4, .int x_6), (0, .ref (ad 25 z.toNatClampNeg)), (1, .int x), (2, .int y), (3, .int w)]) hx hb dX4_manyOfGuest_53 hl (k := 0) rfl (by rw [ex_6]; rfl) (by decide) rfl (fun ls hl => ?_)
          refine lv_goto (tgt := 3) hx hb dX4_manyOfGuest_56 (by decide) ?_
          exact ih_1  (x_6 : Int32) H _ ls (by omega)  (by omega) (noF.step hv1_1 (by omega) (by omega) (LXg.not hL (by omega) (by omega))) hM hS (lv_sub hl [0, 1, 2, 3, 4] rfl)
        · have ic_5 := gz_eqn (rfl : x_4.toInt = x_4.toInt) (rfl : x.toInt = x.toInt) c_5
          refine lv_aload_n hx hb dX4_manyOfGuest_23 rfl (lv_at hl 1 rfl) ?_
          refine gs_get (C := RX4) (T := TX4) (N := 14) hx hb hts inX4 hown hK hM 25 z.toNatClampNeg 11 (gs_sel hz_z) rfl rfl (by decide) (hts _ gm_201) (fun _ h9 => h9) rfl dX4_manyOfGuest_24 ?_
          refine lv_iload hx hb dX4_manyOfGuest_27 (lv_at hl 0 rfl) ?_
          refine gs_iald hx hb hK hM 35 z.toNatClampNeg (gs_sel hz_z) rfl (vp_in_iff.mpr ⟨by omega, by omega⟩) dX4_manyOfGuest_29 ?_
          refine lv_topi (fun x_7 ex_7 => ?_)
          have qx_7 : x_7.toInt = (st 35 z.toNatClampNeg (y1_0.toNatClampNeg)).toInt := congrArg Int32.toInt ex_7
          refine lv_iload_n hx hb dX4_manyOfGuest_30 rfl (lv_at hl 3 rfl) ?_
          refine lv_icmp_ne (tgt := 53) hx hb dX4_manyOfGuest_31 (by decide) (fun c_8 => ?_) (fun c_8 => ?_)
          · have ic_8 := gz_ne (rfl : x_7.toInt = x_7.toInt) (rfl : y.toInt = y.toInt) c_8
            obtain ⟨x_9, ex_9⟩ : ∃ y : Int32, y = y1_0 + 1 := ⟨_, rfl⟩
            try have tx_9 : x_9.toInt = y1_0.toInt + 1 := by rw [ex_9]; exact gz_addP (x := y1_0.toInt) (y := 1) rfl (by decide) (by omega) (by omega)
            refine lv_iinc (v := (x_9)) (lv' := [(4, .int x_9), (0, .ref (ad 25 z.toNatClampNeg)), (1, .int x), (2, .int y), (3, .int w)]) hx hb dX4_manyOfGuest_53 hl (k := 0) rfl (by rw [ex_9]; rfl) (by decide) rfl (fun ls hl => ?_)
            refine lv_goto (tgt := 3) hx hb dX4_manyOfGuest_56 (by decide) ?_
            exact ih_1  (x_9 : Int32) H _ ls (by omega)  (by omega) (noF.step hv1_1 (by omega) (by omega) (LXg.not hL (by omega) (by omega))) hM hS (lv_sub hl [0, 1, 2, 3, 4] rfl)
          · have ic_8 := gz_eqn (rfl : x_7.toInt = x_7.toInt) (rfl : y.toInt = y.toInt) c_8
            refine lv_aload_n hx hb dX4_manyOfGuest_34 rfl (lv_at hl 1 rfl) ?_
            refine gs_get (C := RX4) (T := TX4) (N := 14) hx hb hts inX4 hown hK hM 25 z.toNatClampNeg 12 (gs_sel hz_z) rfl rfl (by decide) (hts _ gm_202) (fun _ h9 => h9) rfl dX4_manyOfGuest_35 ?_
            refine lv_iload hx hb dX4_manyOfGuest_38 (lv_at hl 0 rfl) ?_
            refine gs_iald hx hb hK hM 36 z.toNatClampNeg (gs_sel hz_z) rfl (vp_in_iff.mpr ⟨by omega, by omega⟩) dX4_manyOfGuest_40 ?_
            refine lv_topi (fun x_10 ex_10 => ?_)
            have qx_10 : x_10.toInt = (st 36 z.toNatClampNeg (y1_0.toNatClampNeg)).toInt := congrArg Int32.toInt ex_10
            refine lv_iload_n hx hb dX4_manyOfGuest_41 rfl (lv_at hl 4 rfl) ?_
            refine lv_icmp_ne (tgt := 53) hx hb dX4_manyOfGuest_42 (by decide) (fun c_11 => ?_) (fun c_11 => ?_)
            · have ic_11 := gz_ne (rfl : x_10.toInt = x_10.toInt) (rfl : w.toInt = w.toInt) c_11
              obtain ⟨x_12, ex_12⟩ : ∃ y : Int32, y = y1_0 + 1 := ⟨_, rfl⟩
              try have tx_12 : x_12.toInt = y1_0.toInt + 1 := by rw [ex_12]; exact gz_addP (x := y1_0.toInt) (y := 1) rfl (by decide) (by omega) (by omega)
              refine lv_iinc (v := (x_12)) (lv' := [(4, .int x_12), (0, .ref (ad 25 z.toNatClampNeg)), (1, .int x), (2, .int y), (3, .int w)]) hx hb dX4_manyOfGuest_53 hl (k := 0) rfl (by rw [ex_12]; rfl) (by decide) rfl (fun ls hl => ?_)
              refine lv_goto (tgt := 3) hx hb dX4_manyOfGuest_56 (by decide) ?_
              exact ih_1  (x_12 : Int32) H _ ls (by omega)  (by omega) (noF.step hv1_1 (by omega) (by omega) (LXg.not hL (by omega) (by omega))) hM hS (lv_sub hl [0, 1, 2, 3, 4] rfl)
            · have ic_11 := gz_eqn (rfl : x_10.toInt = x_10.toInt) (rfl : w.toInt = w.toInt) c_11
              refine lv_aload_n hx hb dX4_manyOfGuest_45 rfl (lv_at hl 1 rfl) ?_
              refine gs_get (C := RX4) (T := TX4) (N := 14) hx hb hts inX4 hown hK hM 25 z.toNatClampNeg 13 (gs_sel hz_z) rfl rfl (by decide) (hts _ gm_203) (fun _ h9 => h9) rfl dX4_manyOfGuest_46 ?_
              refine lv_iload hx hb dX4_manyOfGuest_49 (lv_at hl 0 rfl) ?_
              refine gs_iald hx hb hK hM 37 z.toNatClampNeg (gs_sel hz_z) rfl (vp_in_iff.mpr ⟨by omega, by omega⟩) dX4_manyOfGuest_51 ?_
              refine lv_topi (fun x_13 ex_13 => ?_)
              have qx_13 : x_13.toInt = (st 37 z.toNatClampNeg (y1_0.toNatClampNeg)).toInt := congrArg Int32.toInt ex_13
              rw [← hQe]
              exact gs_iret hx hb hr hlocks hM hS rfl ⟨hB_st, (by rw [qx_13]; exact LXg.hit hL hv1_1 (by omega) (by omega) (by omega) (by omega) (by omega))⟩ (by exact Nat.le_refl _) (by exact Nat.le_refl _) dX4_manyOfGuest_52
  exact lp1 ((20 - ((0 : Int32) : Int32).toInt).toNat + 1)  ((0 : Int32) : Int32) H _ ls (Nat.lt_succ_self _)  (by have hl0 : (0 : Int32).toInt = 0 := (by decide); omega) (noF.nil (by decide)) hM hS (lv_sub hl [0, 1, 2, 3, 4] rfl)
