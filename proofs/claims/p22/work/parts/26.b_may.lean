theorem gm_943 : (Jvm.Cond.fieldLink "WellCourtModel" (103 : Nat) "WellCourtModel" "sWell" "[I") ∈ gz_T := gz_at 943 (by decide +kernel) rfl
theorem gm_945 : (Jvm.Cond.fieldLink "WellCourtModel" (109 : Nat) "WellCourtModel" "sDrank" "[I") ∈ gz_T := gz_at 945 (by decide +kernel) rfl
theorem dX10_isGood_0 : decode cX10_isGood 0 = .ok (.iconst 0, 1) := by decide +kernel
theorem dX10_isGood_1 : decode cX10_isGood 1 = .ok (.istore_n 3, 1) := by decide +kernel
theorem dX10_isGood_2 : decode cX10_isGood 2 = .ok (.iload_n 3, 1) := by decide +kernel
theorem dX10_isGood_3 : decode cX10_isGood 3 = .ok (.iconst 4, 1) := by decide +kernel
theorem dX10_isGood_4 : decode cX10_isGood 4 = .ok (.if_icmp .ge 41, 3) := by decide +kernel
theorem dX10_isGood_7 : decode cX10_isGood 7 = .ok (.aload_n 0, 1) := by decide +kernel
theorem dX10_isGood_8 : decode cX10_isGood 8 = .ok (.getfield 79, 3) := by decide +kernel
theorem dX10_isGood_11 : decode cX10_isGood 11 = .ok (.iload_n 3, 1) := by decide +kernel
theorem dX10_isGood_12 : decode cX10_isGood 12 = .ok (.baload, 1) := by decide +kernel
theorem dX10_isGood_13 : decode cX10_isGood 13 = .ok (.ifCond .eq 26, 3) := by decide +kernel
theorem dX10_isGood_16 : decode cX10_isGood 16 = .ok (.iload_n 2, 1) := by decide +kernel
theorem dX10_isGood_17 : decode cX10_isGood 17 = .ok (.aload_n 0, 1) := by decide +kernel
theorem dX10_isGood_18 : decode cX10_isGood 18 = .ok (.getfield 109, 3) := by decide +kernel
theorem dX10_isGood_21 : decode cX10_isGood 21 = .ok (.iconst 4, 1) := by decide +kernel
theorem dX10_isGood_22 : decode cX10_isGood 22 = .ok (.iload_n 1, 1) := by decide +kernel
theorem dX10_isGood_23 : decode cX10_isGood 23 = .ok (.imul, 1) := by decide +kernel
theorem dX10_isGood_24 : decode cX10_isGood 24 = .ok (.iload_n 3, 1) := by decide +kernel
theorem dX10_isGood_25 : decode cX10_isGood 25 = .ok (.iadd, 1) := by decide +kernel
theorem dX10_isGood_26 : decode cX10_isGood 26 = .ok (.iaload, 1) := by decide +kernel
theorem dX10_isGood_27 : decode cX10_isGood 27 = .ok (.isub, 1) := by decide +kernel
theorem dX10_isGood_28 : decode cX10_isGood 28 = .ok (.aload_n 0, 1) := by decide +kernel
theorem dX10_isGood_29 : decode cX10_isGood 29 = .ok (.getfield 88, 3) := by decide +kernel
theorem dX10_isGood_32 : decode cX10_isGood 32 = .ok (.iload_n 3, 1) := by decide +kernel
theorem dX10_isGood_33 : decode cX10_isGood 33 = .ok (.iaload, 1) := by decide +kernel
theorem dX10_isGood_34 : decode cX10_isGood 34 = .ok (.if_icmp .le 5, 3) := by decide +kernel
theorem dX10_isGood_37 : decode cX10_isGood 37 = .ok (.iconst 0, 1) := by decide +kernel
theorem dX10_isGood_38 : decode cX10_isGood 38 = .ok (.ireturn, 1) := by decide +kernel
theorem dX10_isGood_39 : decode cX10_isGood 39 = .ok (.iinc 3 1, 3) := by decide +kernel
theorem dX10_isGood_42 : decode cX10_isGood 42 = .ok (.goto (-40), 3) := by decide +kernel
theorem dX10_isGood_45 : decode cX10_isGood 45 = .ok (.iconst 1, 1) := by decide +kernel
theorem dX10_isGood_46 : decode cX10_isGood 46 = .ok (.ireturn, 1) := by decide +kernel
theorem dX10_mayDo_0 : decode cX10_mayDo 0 = .ok (.aload_n 0, 1) := by decide +kernel
theorem dX10_mayDo_1 : decode cX10_mayDo 1 = .ok (.getfield 103, 3) := by decide +kernel
theorem dX10_mayDo_4 : decode cX10_mayDo 4 = .ok (.iconst 4, 1) := by decide +kernel
theorem dX10_mayDo_5 : decode cX10_mayDo 5 = .ok (.iload_n 1, 1) := by decide +kernel
theorem dX10_mayDo_6 : decode cX10_mayDo 6 = .ok (.imul, 1) := by decide +kernel
theorem dX10_mayDo_7 : decode cX10_mayDo 7 = .ok (.iload_n 2, 1) := by decide +kernel
theorem dX10_mayDo_8 : decode cX10_mayDo 8 = .ok (.iadd, 1) := by decide +kernel
theorem dX10_mayDo_9 : decode cX10_mayDo 9 = .ok (.iaload, 1) := by decide +kernel
theorem dX10_mayDo_10 : decode cX10_mayDo 10 = .ok (.istore 4, 2) := by decide +kernel
theorem dX10_mayDo_12 : decode cX10_mayDo 12 = .ok (.iload_n 3, 1) := by decide +kernel
theorem dX10_mayDo_13 : decode cX10_mayDo 13 = .ok (.ifCond .ne 72, 3) := by decide +kernel
theorem dX10_mayDo_16 : decode cX10_mayDo 16 = .ok (.aload_n 0, 1) := by decide +kernel
theorem dX10_mayDo_17 : decode cX10_mayDo 17 = .ok (.getfield 13, 3) := by decide +kernel
theorem dX10_mayDo_20 : decode cX10_mayDo 20 = .ok (.iload 4, 2) := by decide +kernel
theorem dX10_mayDo_22 : decode cX10_mayDo 22 = .ok (.baload, 1) := by decide +kernel
theorem dX10_mayDo_23 : decode cX10_mayDo 23 = .ok (.ifCond .eq 60, 3) := by decide +kernel
theorem dX10_mayDo_26 : decode cX10_mayDo 26 = .ok (.aload_n 0, 1) := by decide +kernel
theorem dX10_mayDo_27 : decode cX10_mayDo 27 = .ok (.getfield 100, 3) := by decide +kernel
theorem dX10_mayDo_30 : decode cX10_mayDo 30 = .ok (.bipush 6, 2) := by decide +kernel
theorem dX10_mayDo_32 : decode cX10_mayDo 32 = .ok (.iload_n 1, 1) := by decide +kernel
theorem dX10_mayDo_33 : decode cX10_mayDo 33 = .ok (.imul, 1) := by decide +kernel
theorem dX10_mayDo_34 : decode cX10_mayDo 34 = .ok (.iload 4, 2) := by decide +kernel
theorem dX10_mayDo_36 : decode cX10_mayDo 36 = .ok (.iadd, 1) := by decide +kernel
theorem dX10_mayDo_37 : decode cX10_mayDo 37 = .ok (.iaload, 1) := by decide +kernel
theorem dX10_mayDo_38 : decode cX10_mayDo 38 = .ok (.aload_n 0, 1) := by decide +kernel
theorem dX10_mayDo_39 : decode cX10_mayDo 39 = .ok (.getfield 85, 3) := by decide +kernel
theorem dX10_mayDo_42 : decode cX10_mayDo 42 = .ok (.iload_n 2, 1) := by decide +kernel
theorem dX10_mayDo_43 : decode cX10_mayDo 43 = .ok (.iaload, 1) := by decide +kernel
theorem dX10_mayDo_44 : decode cX10_mayDo 44 = .ok (.if_icmp .lt 39, 3) := by decide +kernel
theorem dX10_mayDo_47 : decode cX10_mayDo 47 = .ok (.aload_n 0, 1) := by decide +kernel
theorem dX10_mayDo_48 : decode cX10_mayDo 48 = .ok (.iload 4, 2) := by decide +kernel
theorem dX10_mayDo_50 : decode cX10_mayDo 50 = .ok (.aload_n 0, 1) := by decide +kernel
theorem dX10_mayDo_51 : decode cX10_mayDo 51 = .ok (.getfield 82, 3) := by decide +kernel
theorem dX10_mayDo_54 : decode cX10_mayDo 54 = .ok (.iload_n 2, 1) := by decide +kernel
theorem dX10_mayDo_55 : decode cX10_mayDo 55 = .ok (.iaload, 1) := by decide +kernel
theorem dX10_mayDo_56 : decode cX10_mayDo 56 = .ok (.aload_n 0, 1) := by decide +kernel
theorem dX10_mayDo_57 : decode cX10_mayDo 57 = .ok (.getfield 121, 3) := by decide +kernel
theorem dX10_mayDo_60 : decode cX10_mayDo 60 = .ok (.bipush 6, 2) := by decide +kernel
theorem dX10_mayDo_62 : decode cX10_mayDo 62 = .ok (.iload_n 1, 1) := by decide +kernel
theorem dX10_mayDo_63 : decode cX10_mayDo 63 = .ok (.imul, 1) := by decide +kernel
theorem dX10_mayDo_64 : decode cX10_mayDo 64 = .ok (.iconst 1, 1) := by decide +kernel
theorem dX10_mayDo_65 : decode cX10_mayDo 65 = .ok (.aload_n 0, 1) := by decide +kernel
theorem dX10_mayDo_66 : decode cX10_mayDo 66 = .ok (.getfield 118, 3) := by decide +kernel
theorem dX10_mayDo_69 : decode cX10_mayDo 69 = .ok (.bipush 6, 2) := by decide +kernel
theorem dX10_mayDo_71 : decode cX10_mayDo 71 = .ok (.iload_n 1, 1) := by decide +kernel
theorem dX10_mayDo_72 : decode cX10_mayDo 72 = .ok (.imul, 1) := by decide +kernel
theorem dX10_mayDo_73 : decode cX10_mayDo 73 = .ok (.invokevirtual 274, 3) := by decide +kernel
theorem dX10_mayDo_76 : decode cX10_mayDo 76 = .ok (.ifCond .eq 7, 3) := by decide +kernel
theorem dX10_mayDo_79 : decode cX10_mayDo 79 = .ok (.iconst 1, 1) := by decide +kernel
theorem dX10_mayDo_80 : decode cX10_mayDo 80 = .ok (.goto 4, 3) := by decide +kernel
theorem dX10_mayDo_83 : decode cX10_mayDo 83 = .ok (.iconst 0, 1) := by decide +kernel
theorem dX10_mayDo_84 : decode cX10_mayDo 84 = .ok (.ireturn, 1) := by decide +kernel
theorem dX10_mayDo_85 : decode cX10_mayDo 85 = .ok (.iload_n 3, 1) := by decide +kernel
theorem dX10_mayDo_86 : decode cX10_mayDo 86 = .ok (.iconst 1, 1) := by decide +kernel
theorem dX10_mayDo_87 : decode cX10_mayDo 87 = .ok (.if_icmp .eq 20, 3) := by decide +kernel
theorem dX10_mayDo_90 : decode cX10_mayDo 90 = .ok (.aload_n 0, 1) := by decide +kernel
theorem dX10_mayDo_91 : decode cX10_mayDo 91 = .ok (.getfield 97, 3) := by decide +kernel
theorem dX10_mayDo_94 : decode cX10_mayDo 94 = .ok (.bipush 6, 2) := by decide +kernel
theorem dX10_mayDo_96 : decode cX10_mayDo 96 = .ok (.iload 4, 2) := by decide +kernel
theorem dX10_mayDo_98 : decode cX10_mayDo 98 = .ok (.imul, 1) := by decide +kernel
theorem dX10_mayDo_99 : decode cX10_mayDo 99 = .ok (.iload_n 3, 1) := by decide +kernel
theorem dX10_mayDo_100 : decode cX10_mayDo 100 = .ok (.iadd, 1) := by decide +kernel
theorem dX10_mayDo_101 : decode cX10_mayDo 101 = .ok (.iconst 2, 1) := by decide +kernel
theorem dX10_mayDo_102 : decode cX10_mayDo 102 = .ok (.isub, 1) := by decide +kernel
theorem dX10_mayDo_103 : decode cX10_mayDo 103 = .ok (.iaload, 1) := by decide +kernel
theorem dX10_mayDo_104 : decode cX10_mayDo 104 = .ok (.ifCond .le 7, 3) := by decide +kernel
theorem dX10_mayDo_107 : decode cX10_mayDo 107 = .ok (.iconst 1, 1) := by decide +kernel
theorem dX10_mayDo_108 : decode cX10_mayDo 108 = .ok (.goto 4, 3) := by decide +kernel
theorem dX10_mayDo_111 : decode cX10_mayDo 111 = .ok (.iconst 0, 1) := by decide +kernel
theorem dX10_mayDo_112 : decode cX10_mayDo 112 = .ok (.ireturn, 1) := by decide +kernel
set_option maxHeartbeats 4000000 in
set_option maxRecDepth 100000 in
/-- WellCourtModel.mayDo -/
theorem m_mayDo (l : Launch) (G : va_G) (cy : Nat → ClassId) (sK sV : Nat → Nat) (ad : Nat → Nat → Nat) (sz : Nat) (st : gS) (hB : gBd bM st) (x : Int32) (y : Int32) (w : Int32) (Xx : Int) (Xy : Int) (Xw : Int) (kx : x.toInt = Xx) (ky : y.toInt = Xy) (kw : w.toInt = Xw) (hx0 : 0 ≤ Xx) (hx1 : Xx ≤ 55) (hy0 : 0 ≤ Xy) (hy1 : Xy ≤ 3) (hw0 : 0 ≤ Xw) (hw1 : Xw ≤ 7) (rs : List Rl) (bk : Nat) (hbk : (st 0 0 28).toInt = (bk : Int)) (hru : (st 0 0 29).toInt = (rs.length : Int)) (hLM : LM rs st bk) (hwf : ∀ r ∈ rs, wfR r) : gsMi l yX10_mayDo cX10_mayDo 5 (some .boolean) ({ frames := 1, cells := 0, slots := 0, locals := 29 } : Room) G cy sK sV (shM cy ad) cnM ad sz [.ref (ad 0 0), .int x, .int y, .int w] st (fun (r : Int32) (u : gS) => gBN bM kM [] st u ∧ ((r = 1 ∧ (cdM rs st x.toNatClampNeg y.toNatClampNeg Xw)) ∨ (r = 0 ∧ (¬ cdM rs st x.toNatClampNeg y.toNatClampNeg Xw)))) := by
  refine gs_start (fun A => gsQi G (shM cy ad) cnM ad _ A) (by decide) (Nat.le_of_ble_eq_true rfl) ?_
  intro p e s m below meth c A ls H hx hb hr hml hlocks hown hts hK hov hE hI hM hm hS hA hl
  have hl : lv_has ls 5 [(0, .ref (ad 0 0)), (1, .int x), (2, .int y), (3, .int w)] := hl
  have hB_st : gBN bM kM [] st st := gBN.rf hB
  refine lv_aload_n hx hb dX10_mayDo_0 rfl (lv_at hl 0 rfl) ?_
  refine gs_get (C := RX10) (T := TX10) (N := 59) hx hb hts inX10 hown hK hM 0 0 46 (by decide) rfl rfl (by decide) (hts _ gm_943) (fun _ h9 => h9) rfl dX10_mayDo_1 ?_
  refine lv_iconst (v := 4) hx hb dX10_mayDo_4 (by decide) ?_
  refine lv_iload_n hx hb dX10_mayDo_5 rfl (lv_at hl 1 rfl) ?_
  refine lv_imul hx hb dX10_mayDo_6 ?_
  refine lv_topi (fun x_1 ex_1 => ?_)
  try have tx_1 : x_1.toInt = 4 * x.toInt := by rw [ex_1]; exact gz_mulI (x := 4) (y := x.toInt) (by decide) rfl (by omega) (by omega)
  refine lv_iload_n hx hb dX10_mayDo_7 rfl (lv_at hl 2 rfl) ?_
  refine lv_iadd hx hb dX10_mayDo_8 ?_
  refine lv_topi (fun x_2 ex_2 => ?_)
  try have tx_2 : x_2.toInt = x_1.toInt + y.toInt := by rw [ex_2]; exact gz_addI (x := x_1.toInt) (y := y.toInt) rfl rfl (by omega) (by omega)
  refine gs_iald hx hb hK hM 30 0 (by decide) rfl (vp_in_iff.mpr ⟨by omega, by omega⟩) dX10_mayDo_9 ?_
  refine lv_topi (fun x_3 ex_3 => ?_)
  have qx_3 : x_3.toInt = (st 30 0 (x_2.toNatClampNeg)).toInt := congrArg Int32.toInt ex_3
  have bx_3 : (0 : Int) ≤ x_3.toInt ∧ x_3.toInt ≤ (5 : Int) := by rw [qx_3]; exact hB_st.1 30 0 (x_2.toNatClampNeg)
  have hp9 : x_3 = st 30 0 (4 * x.toNatClampNeg + y.toNatClampNeg) := (by have c_x_2 := gs_cl (x := x_2) (by omega); have c_x := gs_cl (x := x) (by omega); have c_y := gs_cl (x := y) (by omega); have h9 := ex_3; rw [show x_2.toNatClampNeg = 4 * x.toNatClampNeg + y.toNatClampNeg by omega] at h9; exact h9)
  have c_p := gs_cl (x := x_3) (by omega)
  refine lv_istore (lv' := [(4, .int x_3), (0, .ref (ad 0 0)), (1, .int x), (2, .int y), (3, .int w)]) hx hb dX10_mayDo_10 hl (by decide) rfl (fun ls hl => ?_)
  refine lv_iload_n hx hb dX10_mayDo_12 rfl (lv_at hl 4 rfl) ?_
  refine lv_if_ne (tgt := 85) hx hb dX10_mayDo_13 (by decide) (fun c_4 => ?_) (fun c_4 => ?_)
  · have ic_4 := gz_ne (rfl : w.toInt = w.toInt) (by decide : (0 : Int32).toInt = 0) c_4
    refine lv_iload_n hx hb dX10_mayDo_85 rfl (lv_at hl 4 rfl) ?_
    refine lv_iconst (v := 1) hx hb dX10_mayDo_86 (by decide) ?_
    refine lv_icmp_eq (tgt := 107) hx hb dX10_mayDo_87 (by decide) (fun c_5 => ?_) (fun c_5 => ?_)
    · have ic_5 := gz_eq (rfl : w.toInt = w.toInt) (by decide : (1 : Int32).toInt = 1) c_5
      refine lv_iconst (v := 1) hx hb dX10_mayDo_107 (by decide) ?_
      refine lv_goto (tgt := 112) hx hb dX10_mayDo_108 (by decide) ?_
      exact gs_iret hx hb hr hlocks hM hS (by decide) ⟨hB_st, (Or.inl ⟨rfl, by first | exact Or.inr (Or.inl (by omega)) | exact Or.inr (Or.inr ⟨by omega, by omega⟩)⟩)⟩ (by exact Nat.le_refl _) (by exact Nat.le_refl _) dX10_mayDo_112
    · have ic_5 := gz_ne (rfl : w.toInt = w.toInt) (by decide : (1 : Int32).toInt = 1) c_5
      refine lv_aload_n hx hb dX10_mayDo_90 rfl (lv_at hl 1 rfl) ?_
      refine gs_get (C := RX10) (T := TX10) (N := 59) hx hb hts inX10 hown hK hM 0 0 44 (by decide) rfl rfl (by decide) (hts _ gm_941) (fun _ h9 => h9) rfl dX10_mayDo_91 ?_
      refine lv_bipush (v := 6) hx hb dX10_mayDo_94 (by decide) ?_
      refine lv_iload hx hb dX10_mayDo_96 (lv_at hl 0 rfl) ?_
      refine lv_imul hx hb dX10_mayDo_98 ?_
      refine lv_topi (fun x_6 ex_6 => ?_)
      try have tx_6 : x_6.toInt = 6 * x_3.toInt := by rw [ex_6]; exact gz_mulI (x := 6) (y := x_3.toInt) (by decide) rfl (by omega) (by omega)
      refine lv_iload_n hx hb dX10_mayDo_99 rfl (lv_at hl 4 rfl) ?_
      refine lv_iadd hx hb dX10_mayDo_100 ?_
      refine lv_topi (fun x_7 ex_7 => ?_)
      try have tx_7 : x_7.toInt = x_6.toInt + w.toInt := by rw [ex_7]; exact gz_addI (x := x_6.toInt) (y := w.toInt) rfl rfl (by omega) (by omega)
      refine lv_iconst (v := 2) hx hb dX10_mayDo_101 (by decide) ?_
      refine lv_isub hx hb dX10_mayDo_102 ?_
      refine lv_topi (fun x_8 ex_8 => ?_)
      try have tx_8 : x_8.toInt = x_7.toInt - 2 := by rw [ex_8]; exact gz_subP (x := x_7.toInt) (y := 2) rfl (by decide) (by omega) (by omega)
      refine gs_iald hx hb hK hM 28 0 (by decide) rfl (vp_in_iff.mpr ⟨by omega, by omega⟩) dX10_mayDo_103 ?_
      refine lv_topi (fun x_9 ex_9 => ?_)
      have qx_9 : x_9.toInt = (st 28 0 (x_8.toNatClampNeg)).toInt := congrArg Int32.toInt ex_9
      have hy9 : x_9.toInt = (st 28 0 (6 * (st 30 0 (4 * x.toNatClampNeg + y.toNatClampNeg)).toNatClampNeg + (Xw - 2).toNat)).toInt := (by have c_x_8 := gs_cl (x := x_8) (by omega); rw [qx_9, show x_8.toNatClampNeg = 6 * x_3.toNatClampNeg + (Xw - 2).toNat by omega, hp9])
      refine lv_if_le (tgt := 111) hx hb dX10_mayDo_104 (by decide) (fun c_10 => ?_) (fun c_10 => ?_)
      · have ic_10 := gz_le (rfl : x_9.toInt = x_9.toInt) (by decide : (0 : Int32).toInt = 0) c_10
        refine lv_iconst (v := 0) hx hb dX10_mayDo_111 (by decide) ?_
        exact gs_iret hx hb hr hlocks hM hS (by decide) ⟨hB_st, (Or.inr ⟨rfl, fun h8 => by rcases h8 with ⟨h7, h6, h5, _⟩ | h7 | ⟨h7, h6⟩ <;> omega⟩)⟩ (by exact Nat.le_refl _) (by exact Nat.le_refl _) dX10_mayDo_112
      · have ic_10 := gz_nle (rfl : x_9.toInt = x_9.toInt) (by decide : (0 : Int32).toInt = 0) c_10
        refine lv_iconst (v := 1) hx hb dX10_mayDo_107 (by decide) ?_
        refine lv_goto (tgt := 112) hx hb dX10_mayDo_108 (by decide) ?_
        exact gs_iret hx hb hr hlocks hM hS (by decide) ⟨hB_st, (Or.inl ⟨rfl, by first | exact Or.inr (Or.inl (by omega)) | exact Or.inr (Or.inr ⟨by omega, by omega⟩)⟩)⟩ (by exact Nat.le_refl _) (by exact Nat.le_refl _) dX10_mayDo_112
  · have ic_4 := gz_eqn (rfl : w.toInt = w.toInt) (by decide : (0 : Int32).toInt = 0) c_4
    refine lv_aload_n hx hb dX10_mayDo_16 rfl (lv_at hl 1 rfl) ?_
    refine gs_get (C := RX10) (T := TX10) (N := 59) hx hb hts inX10 hown hK hM 0 0 1 (by decide) rfl rfl (by decide) (hts _ gm_898) (fun _ h9 => h9) rfl dX10_mayDo_17 ?_
    refine lv_iload hx hb dX10_mayDo_20 (lv_at hl 0 rfl) ?_
    refine gs_zald hx hb hK hM 1 0 (by decide) rfl (vp_in_iff.mpr ⟨by omega, by omega⟩) dX10_mayDo_22 ?_
    refine lv_topi (fun x_11 ex_11 => ?_)
    have qx_11 : x_11.toInt = (st 1 0 (x_3.toNatClampNeg)).toInt := congrArg Int32.toInt ex_11
    have hw9 : x_11.toInt = (st 1 0 (st 30 0 (4 * x.toNatClampNeg + y.toNatClampNeg)).toNatClampNeg).toInt := (by rw [qx_11, hp9])
    refine lv_if_eq (tgt := 83) hx hb dX10_mayDo_23 (by decide) (fun c_12 => ?_) (fun c_12 => ?_)
    · have ic_12 := gz_eq (rfl : x_11.toInt = x_11.toInt) (by decide : (0 : Int32).toInt = 0) c_12
      refine lv_iconst (v := 0) hx hb dX10_mayDo_83 (by decide) ?_
      exact gs_iret hx hb hr hlocks hM hS (by decide) ⟨hB_st, (Or.inr ⟨rfl, fun h8 => by rcases h8 with ⟨h7, h6, h5, _⟩ | h7 | ⟨h7, h6⟩ <;> omega⟩)⟩ (by exact Nat.le_refl _) (by exact Nat.le_refl _) dX10_mayDo_84
    · have ic_12 := gz_ne (rfl : x_11.toInt = x_11.toInt) (by decide : (0 : Int32).toInt = 0) c_12
      refine lv_aload_n hx hb dX10_mayDo_26 rfl (lv_at hl 1 rfl) ?_
      refine gs_get (C := RX10) (T := TX10) (N := 59) hx hb hts inX10 hown hK hM 0 0 45 (by decide) rfl rfl (by decide) (hts _ gm_942) (fun _ h9 => h9) rfl dX10_mayDo_27 ?_
      refine lv_bipush (v := 6) hx hb dX10_mayDo_30 (by decide) ?_
      refine lv_iload_n hx hb dX10_mayDo_32 rfl (lv_at hl 2 rfl) ?_
      refine lv_imul hx hb dX10_mayDo_33 ?_
      refine lv_topi (fun x_13 ex_13 => ?_)
      try have tx_13 : x_13.toInt = 6 * x.toInt := by rw [ex_13]; exact gz_mulI (x := 6) (y := x.toInt) (by decide) rfl (by omega) (by omega)
      refine lv_iload hx hb dX10_mayDo_34 (lv_at hl 0 rfl) ?_
      refine lv_iadd hx hb dX10_mayDo_36 ?_
      refine lv_topi (fun x_14 ex_14 => ?_)
      try have tx_14 : x_14.toInt = x_13.toInt + x_3.toInt := by rw [ex_14]; exact gz_addI (x := x_13.toInt) (y := x_3.toInt) rfl rfl (by omega) (by omega)
      refine gs_iald hx hb hK hM 29 0 (by decide) rfl (vp_in_iff.mpr ⟨by omega, by omega⟩) dX10_mayDo_37 ?_
      refine lv_topi (fun x_15 ex_15 => ?_)
      have qx_15 : x_15.toInt = (st 29 0 (x_14.toNatClampNeg)).toInt := congrArg Int32.toInt ex_15
      have hl9 : x_15.toInt = (st 29 0 (6 * x.toNatClampNeg + (st 30 0 (4 * x.toNatClampNeg + y.toNatClampNeg)).toNatClampNeg)).toInt := (by have c_x_14 := gs_cl (x := x_14) (by omega); have c_x := gs_cl (x := x) (by omega); rw [qx_15, show x_14.toNatClampNeg = 6 * x.toNatClampNeg + x_3.toNatClampNeg by omega, hp9])
      refine lv_aload_n hx hb dX10_mayDo_38 rfl (lv_at hl 1 rfl) ?_
      refine gs_get (C := RX10) (T := TX10) (N := 59) hx hb hts inX10 hown hK hM 0 0 40 (by decide) rfl rfl (by decide) (hts _ gm_937) (fun _ h9 => h9) rfl dX10_mayDo_39 ?_
      refine lv_iload_n hx hb dX10_mayDo_42 rfl (lv_at hl 3 rfl) ?_
      refine gs_iald hx hb hK hM 24 0 (by decide) rfl (vp_in_iff.mpr ⟨by omega, by omega⟩) dX10_mayDo_43 ?_
      refine lv_topi (fun x_16 ex_16 => ?_)
      have qx_16 : x_16.toInt = (st 24 0 (y.toNatClampNeg)).toInt := congrArg Int32.toInt ex_16
      refine lv_icmp_lt (tgt := 83) hx hb dX10_mayDo_44 (by decide) (fun c_17 => ?_) (fun c_17 => ?_)
      · have ic_17 := gz_lt (rfl : x_15.toInt = x_15.toInt) (rfl : x_16.toInt = x_16.toInt) c_17
        have lc_17 := gi_hi x_16
        refine lv_iconst (v := 0) hx hb dX10_mayDo_83 (by decide) ?_
        exact gs_iret hx hb hr hlocks hM hS (by decide) ⟨hB_st, (Or.inr ⟨rfl, fun h8 => by rcases h8 with ⟨h7, h6, h5, _⟩ | h7 | ⟨h7, h6⟩ <;> omega⟩)⟩ (by exact Nat.le_refl _) (by exact Nat.le_refl _) dX10_mayDo_84
      · have ic_17 := gz_nlt (rfl : x_15.toInt = x_15.toInt) (rfl : x_16.toInt = x_16.toInt) c_17
        refine lv_aload_n hx hb dX10_mayDo_47 rfl (lv_at hl 1 rfl) ?_
        refine lv_iload hx hb dX10_mayDo_48 (lv_at hl 0 rfl) ?_
        refine lv_aload_n hx hb dX10_mayDo_50 rfl (lv_at hl 1 rfl) ?_
        refine gs_get (C := RX10) (T := TX10) (N := 59) hx hb hts inX10 hown hK hM 0 0 39 (by decide) rfl rfl (by decide) (hts _ gm_936) (fun _ h9 => h9) rfl dX10_mayDo_51 ?_
        refine lv_iload_n hx hb dX10_mayDo_54 rfl (lv_at hl 3 rfl) ?_
        refine gs_iald hx hb hK hM 23 0 (by decide) rfl (vp_in_iff.mpr ⟨by omega, by omega⟩) dX10_mayDo_55 ?_
        refine lv_topi (fun x_18 ex_18 => ?_)
        have qx_18 : x_18.toInt = (st 23 0 (y.toNatClampNeg)).toInt := congrArg Int32.toInt ex_18
        refine lv_aload_n hx hb dX10_mayDo_56 rfl (lv_at hl 1 rfl) ?_
        refine gs_get (C := RX10) (T := TX10) (N := 59) hx hb hts inX10 hown hK hM 0 0 52 (by decide) rfl rfl (by decide) (hts _ gm_949) (fun _ h9 => h9) rfl dX10_mayDo_57 ?_
        refine lv_bipush (v := 6) hx hb dX10_mayDo_60 (by decide) ?_
        refine lv_iload_n hx hb dX10_mayDo_62 rfl (lv_at hl 2 rfl) ?_
        refine lv_imul hx hb dX10_mayDo_63 ?_
        refine lv_topi (fun x_19 ex_19 => ?_)
        try have tx_19 : x_19.toInt = 6 * x.toInt := by rw [ex_19]; exact gz_mulI (x := 6) (y := x.toInt) (by decide) rfl (by omega) (by omega)
        refine lv_iconst (v := 1) hx hb dX10_mayDo_64 (by decide) ?_
        refine lv_aload_n hx hb dX10_mayDo_65 rfl (lv_at hl 1 rfl) ?_
        refine gs_get (C := RX10) (T := TX10) (N := 59) hx hb hts inX10 hown hK hM 0 0 51 (by decide) rfl rfl (by decide) (hts _ gm_948) (fun _ h9 => h9) rfl dX10_mayDo_66 ?_
        refine lv_bipush (v := 6) hx hb dX10_mayDo_69 (by decide) ?_
        refine lv_iload_n hx hb dX10_mayDo_71 rfl (lv_at hl 2 rfl) ?_
        refine lv_imul hx hb dX10_mayDo_72 ?_
        refine lv_topi (fun x_20 ex_20 => ?_)
        try have tx_20 : x_20.toInt = 6 * x.toInt := by rw [ex_20]; exact gz_mulI (x := 6) (y := x.toInt) (by decide) rfl (by omega) (by omega)
        refine gs_calli (va_runV (As := [.int x_3, .int x_18, .ref (ad 36 0), .int x_19, .int 1, .ref (ad 35 0), .int x_20]) (rest := []) ⟨hx, hb, hml, hown, hts⟩ (m_isRightB l G cy sK sV ad H.size st hB_st.1 x_3 x_18 x_19 x_20 x_3.toInt x_18.toInt x_19.toInt x_20.toInt rfl rfl rfl rfl (by first | decide | omega) (by first | decide | omega) (by first | decide | omega) (by first | decide | omega) (by first | decide | omega) (by first | decide | omega) rs bk hbk hru (LM.all hLM mA.rf) hwf) ⟨(gz_cb (n := 7) hts gm_1216 gm_12 gm_1219 ⟨by decide +kernel, by decide +kernel, by decide +kernel⟩ ⟨Nat.le_of_ble_eq_true rfl, Nat.le_of_ble_eq_true rfl⟩), hts _ gm_1218, hts _ gs_52⟩ (gs_preV hK hov hE hI hM hm hS hA 0 0 (by decide) rfl rfl) rfl rfl hl.1 rfl (lv_room (Nat.le_of_ble_eq_true rfl)) dX10_mayDo_73 ⟨Nat.le_of_ble_eq_true rfl, Nat.le_of_ble_eq_true rfl⟩) hm hS hA (fun r_21 st_21 H locs hw_21 hM hS => ?_)
        obtain ⟨n_21, hw_21⟩ := hw_21
        have n_21 := gBN.nil n_21
        subst n_21
        rcases hw_21 with ⟨rfl, hw_21_0⟩ | ⟨rfl, hw_21_0⟩
        · skip
          refine lv_if_eq (tgt := 83) hx hb dX10_mayDo_76 (by decide) (fun h9 => absurd h9 (by decide)) (fun _ => ?_)
          refine lv_iconst (v := 1) hx hb dX10_mayDo_79 (by decide) ?_
          refine lv_goto (tgt := 84) hx hb dX10_mayDo_80 (by decide) ?_
          exact gs_iret hx hb hr hlocks hM hS (by decide) ⟨hB_st, (Or.inl ⟨rfl, Or.inl ⟨by omega, by omega, by omega, (by have c_x_19 := gs_cl (x := x_19) (by omega); have c_x := gs_cl (x := x) (by omega); have c_x_20 := gs_cl (x := x_20) (by omega); have h9 := hw_21_0; rw [show x_19.toNatClampNeg = 6 * x.toNatClampNeg by omega, show x_20.toNatClampNeg = 6 * x.toNatClampNeg by omega, hp9, show x_18.toInt = (st 23 0 y.toNatClampNeg).toInt from (by omega)] at h9; exact h9)⟩⟩)⟩ (by exact Nat.le_refl _) (by exact Nat.le_refl _) dX10_mayDo_84
        · skip
          refine lv_if_eq (tgt := 83) hx hb dX10_mayDo_76 (by decide) (fun _ => ?_) (fun h9 => absurd (by decide) h9)
          refine lv_iconst (v := 0) hx hb dX10_mayDo_83 (by decide) ?_
          exact gs_iret hx hb hr hlocks hM hS (by decide) ⟨hB_st, (Or.inr ⟨rfl, fun h8 => by rcases h8 with ⟨_, _, _, h7⟩ | h7 | ⟨h7, _⟩; exact absurd h7 (by have c_x_19 := gs_cl (x := x_19) (by omega); have c_x := gs_cl (x := x) (by omega); have c_x_20 := gs_cl (x := x_20) (by omega); have h9 := hw_21_0; rw [show x_19.toNatClampNeg = 6 * x.toNatClampNeg by omega, show x_20.toNatClampNeg = 6 * x.toNatClampNeg by omega, hp9, show x_18.toInt = (st 23 0 y.toNatClampNeg).toInt from (by omega)] at h9; exact h9); omega; omega⟩)⟩ (by exact Nat.le_refl _) (by exact Nat.le_refl _) dX10_mayDo_84

set_option maxHeartbeats 4000000 in
set_option maxRecDepth 100000 in
/-- WellCourtModel.isGood -/
theorem m_isGood (l : Launch) (G : va_G) (cy : Nat → ClassId) (sK sV : Nat → Nat) (ad : Nat → Nat → Nat) (sz : Nat) (st : gS) (hB : gBd bM st) (x : Int32) (y : Int32) (Xx : Int) (Xy : Int) (kx : x.toInt = Xx) (ky : y.toInt = Xy) (hx0 : 0 ≤ Xx) (hx1 : Xx ≤ 56) : gsMi l yX10_isGood cX10_isGood 4 (some .boolean) ({ frames := 0, cells := 0, slots := 0, locals := 0 } : Room) G cy sK sV (shM cy ad) cnM ad sz [.ref (ad 0 0), .int x, .int y] st (fun (r : Int32) (u : gS) => gBN bM kM [] st u ∧ ((r = 1 ∧ (gdM st x.toNatClampNeg y 4)) ∨ (r = 0 ∧ (¬ gdM st x.toNatClampNeg y 4)))) := by
  refine gs_start (fun A => gsQi G (shM cy ad) cnM ad _ A) (by decide) (Nat.le_of_ble_eq_true rfl) ?_
  intro p e s m below meth c A ls H hx hb hr hml hlocks hown hts hK hov hE hI hM hm hS hA hl
  have hl : lv_has ls 4 [(0, .ref (ad 0 0)), (1, .int x), (2, .int y)] := hl
  have hB_st : gBN bM kM [] st st := gBN.rf hB
  generalize hQe : MQ below _ _ s _ _ A = Q
  refine lv_iconst (v := 0) hx hb dX10_isGood_0 (by decide) ?_
  refine lv_istore_n (lv' := [(3, .int 0), (0, .ref (ad 0 0)), (1, .int x), (2, .int y)]) hx hb dX10_isGood_1 rfl hl (by decide) rfl (fun ls hl => ?_)
  have lp1 : ∀ (n1 : Nat)  (y1_0 : Int32) (H : Heap) (locs : List Loc) (ls : Array Slot), (4 - y1_0.toInt).toNat < n1 →  (0 ≤ y1_0.toInt) → (gdM st x.toNatClampNeg y y1_0.toInt) → gM G (shM cy ad) cnM ad st H → va_S A s.heap H locs → lv_has ls 4 [(3, .int y1_0), (0, .ref (ad 0 0)), (1, .int x), (2, .int y)] → W p l e ({ frames := 0, cells := 0, slots := 0, locals := 0 } : Room) s m [.ref (ad 0 0), .int x, .int y].toArray below meth c H locs 0 0 Q (F0 m 2 ls []) := by
    intro n1
    induction n1 with
    | zero => intro  y1_0 H locs ls h9; exact absurd h9 (Nat.not_lt_zero _)
    | succ n1 ih_1 =>
      intro  y1_0 H locs ls hme1  hv1_0 hv1_1 hM hS hl
      refine lv_iload_n hx hb dX10_isGood_2 rfl (lv_at hl 0 rfl) ?_
      refine lv_iconst (v := 4) hx hb dX10_isGood_3 (by decide) ?_
      refine lv_icmp_ge (tgt := 45) hx hb dX10_isGood_4 (by decide) (fun c_2 => ?_) (fun c_2 => ?_)
      · have ic_2 := gz_le (by decide : (4 : Int32).toInt = 4) (rfl : y1_0.toInt = y1_0.toInt) c_2
        refine lv_iconst (v := 1) hx hb dX10_isGood_45 (by decide) ?_
        rw [← hQe]
        exact gs_iret hx hb hr hlocks hM hS (by decide) ⟨hB_st, (Or.inl ⟨rfl, fun h1 h2 => hv1_1 h1 (by omega)⟩)⟩ (by exact Nat.le_refl _) (by exact Nat.le_refl _) dX10_isGood_46
      · have ic_2 := gz_nle (by decide : (4 : Int32).toInt = 4) (rfl : y1_0.toInt = y1_0.toInt) c_2
        refine lv_aload_n hx hb dX10_isGood_7 rfl (lv_at hl 1 rfl) ?_
        refine gs_get (C := RX10) (T := TX10) (N := 59) hx hb hts inX10 hown hK hM 0 0 38 (by decide) rfl rfl (by decide) (hts _ gm_935) (fun _ h9 => h9) rfl dX10_isGood_8 ?_
        refine lv_iload_n hx hb dX10_isGood_11 rfl (lv_at hl 0 rfl) ?_
        refine gs_zald hx hb hK hM 22 0 (by decide) rfl (vp_in_iff.mpr ⟨by omega, by omega⟩) dX10_isGood_12 ?_
        refine lv_topi (fun x_3 ex_3 => ?_)
        have qx_3 : x_3.toInt = (st 22 0 (y1_0.toNatClampNeg)).toInt := congrArg Int32.toInt ex_3
        refine lv_if_eq (tgt := 39) hx hb dX10_isGood_13 (by decide) (fun c_4 => ?_) (fun c_4 => ?_)
        · have ic_4 := gz_eq (rfl : x_3.toInt = x_3.toInt) (by decide : (0 : Int32).toInt = 0) c_4
          obtain ⟨x_5, ex_5⟩ : ∃ y : Int32, y = y1_0 + 1 := ⟨_, rfl⟩
          try have tx_5 : x_5.toInt = y1_0.toInt + 1 := by rw [ex_5]; exact gz_addP (x := y1_0.toInt) (y := 1) rfl (by decide) (by omega) (by omega)
          refine lv_iinc (v := (x_5)) (lv' := [(3, .int x_5), (0, .ref (ad 0 0)), (1, .int x), (2, .int y)]) hx hb dX10_isGood_39 hl (k := 0) rfl (by rw [ex_5]; rfl) (by decide) rfl (fun ls hl => ?_)
          refine lv_goto (tgt := 2) hx hb dX10_isGood_42 (by decide) ?_
          exact ih_1  (x_5 : Int32) H _ ls (by omega)  (by omega) (gdM.step hv1_1 (by omega) (by omega) (fun h9 => by first | (exfalso; omega) | omega)) hM hS (lv_sub hl [0, 1, 2, 3] rfl)
        · have ic_4 := gz_ne (rfl : x_3.toInt = x_3.toInt) (by decide : (0 : Int32).toInt = 0) c_4
          refine lv_iload_n hx hb dX10_isGood_16 rfl (lv_at hl 3 rfl) ?_
          refine lv_aload_n hx hb dX10_isGood_17 rfl (lv_at hl 1 rfl) ?_
          refine gs_get (C := RX10) (T := TX10) (N := 59) hx hb hts inX10 hown hK hM 0 0 48 (by decide) rfl rfl (by decide) (hts _ gm_945) (fun _ h9 => h9) rfl dX10_isGood_18 ?_
          refine lv_iconst (v := 4) hx hb dX10_isGood_21 (by decide) ?_
          refine lv_iload_n hx hb dX10_isGood_22 rfl (lv_at hl 2 rfl) ?_
          refine lv_imul hx hb dX10_isGood_23 ?_
          refine lv_topi (fun x_6 ex_6 => ?_)
          try have tx_6 : x_6.toInt = 4 * x.toInt := by rw [ex_6]; exact gz_mulI (x := 4) (y := x.toInt) (by decide) rfl (by omega) (by omega)
          refine lv_iload_n hx hb dX10_isGood_24 rfl (lv_at hl 0 rfl) ?_
          refine lv_iadd hx hb dX10_isGood_25 ?_
          refine lv_topi (fun x_7 ex_7 => ?_)
          try have tx_7 : x_7.toInt = x_6.toInt + y1_0.toInt := by rw [ex_7]; exact gz_addI (x := x_6.toInt) (y := y1_0.toInt) rfl rfl (by omega) (by omega)
          refine gs_iald hx hb hK hM 32 0 (by decide) rfl (vp_in_iff.mpr ⟨by omega, by omega⟩) dX10_isGood_26 ?_
          refine lv_topi (fun x_8 ex_8 => ?_)
          have qx_8 : x_8.toInt = (st 32 0 (x_7.toNatClampNeg)).toInt := congrArg Int32.toInt ex_8
          refine lv_isub hx hb dX10_isGood_27 ?_
          refine lv_topi (fun x_9 ex_9 => ?_)
          refine lv_aload_n hx hb dX10_isGood_28 rfl (lv_at hl 1 rfl) ?_
          refine gs_get (C := RX10) (T := TX10) (N := 59) hx hb hts inX10 hown hK hM 0 0 41 (by decide) rfl rfl (by decide) (hts _ gm_938) (fun _ h9 => h9) rfl dX10_isGood_29 ?_
          refine lv_iload_n hx hb dX10_isGood_32 rfl (lv_at hl 0 rfl) ?_
          refine gs_iald hx hb hK hM 25 0 (by decide) rfl (vp_in_iff.mpr ⟨by omega, by omega⟩) dX10_isGood_33 ?_
          refine lv_topi (fun x_10 ex_10 => ?_)
          have qx_10 : x_10.toInt = (st 25 0 (y1_0.toNatClampNeg)).toInt := congrArg Int32.toInt ex_10
          have hs9 : x_9.toInt = (y - st 32 0 (4 * x.toNatClampNeg + y1_0.toNatClampNeg)).toInt := (by have c_x_7 := gs_cl (x := x_7) (by omega); have c_x := gs_cl (x := x) (by omega); have c_y1_0 := gs_cl (x := y1_0) (by omega); have h9 : x_8 = st 32 0 x_7.toNatClampNeg := ex_8; rw [show x_7.toNatClampNeg = 4 * x.toNatClampNeg + y1_0.toNatClampNeg by omega] at h9; rw [ex_9, h9])
          refine lv_icmp_le (tgt := 39) hx hb dX10_isGood_34 (by decide) (fun c_11 => ?_) (fun c_11 => ?_)
          · have ic_11 := gz_le (rfl : x_9.toInt = x_9.toInt) (rfl : x_10.toInt = x_10.toInt) c_11
            obtain ⟨x_12, ex_12⟩ : ∃ y : Int32, y = y1_0 + 1 := ⟨_, rfl⟩
            try have tx_12 : x_12.toInt = y1_0.toInt + 1 := by rw [ex_12]; exact gz_addP (x := y1_0.toInt) (y := 1) rfl (by decide) (by omega) (by omega)
            refine lv_iinc (v := (x_12)) (lv' := [(3, .int x_12), (0, .ref (ad 0 0)), (1, .int x), (2, .int y)]) hx hb dX10_isGood_39 hl (k := 0) rfl (by rw [ex_12]; rfl) (by decide) rfl (fun ls hl => ?_)
            refine lv_goto (tgt := 2) hx hb dX10_isGood_42 (by decide) ?_
            exact ih_1  (x_12 : Int32) H _ ls (by omega)  (by omega) (gdM.step hv1_1 (by omega) (by omega) (fun h9 => by first | (exfalso; omega) | omega)) hM hS (lv_sub hl [0, 1, 2, 3] rfl)
          · have ic_11 := gz_nle (rfl : x_9.toInt = x_9.toInt) (rfl : x_10.toInt = x_10.toInt) c_11
            have lc_11 := gi_hi x_9
            refine lv_iconst (v := 0) hx hb dX10_isGood_37 (by decide) ?_
            rw [← hQe]
            exact gs_iret hx hb hr hlocks hM hS (by decide) ⟨hB_st, (Or.inr ⟨rfl, fun h8 => by have h7 := h8 y1_0.toNatClampNeg (by have := gs_cl (x := y1_0) (by omega); omega) (by omega); omega⟩)⟩ (by exact Nat.le_refl _) (by exact Nat.le_refl _) dX10_isGood_38
  exact lp1 ((4 - ((0 : Int32) : Int32).toInt).toNat + 1)  ((0 : Int32) : Int32) H _ ls (Nat.lt_succ_self _)  (by have hl0 : (0 : Int32).toInt = 0 := (by decide); omega) (gdM.nil (by decide)) hM hS (lv_sub hl [0, 1, 2, 3] rfl)
