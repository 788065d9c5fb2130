theorem dX10_isRight_0 : decode cX10_isRight 0 = .ok (.aload_n 3, 1) := by decide +kernel
theorem dX10_isRight_1 : decode cX10_isRight 1 = .ok (.iload 4, 2) := by decide +kernel
theorem dX10_isRight_3 : decode cX10_isRight 3 = .ok (.iload 5, 2) := by decide +kernel
theorem dX10_isRight_5 : decode cX10_isRight 5 = .ok (.iload_n 1, 1) := by decide +kernel
theorem dX10_isRight_6 : decode cX10_isRight 6 = .ok (.imul, 1) := by decide +kernel
theorem dX10_isRight_7 : decode cX10_isRight 7 = .ok (.iadd, 1) := by decide +kernel
theorem dX10_isRight_8 : decode cX10_isRight 8 = .ok (.iaload, 1) := by decide +kernel
theorem dX10_isRight_9 : decode cX10_isRight 9 = .ok (.istore 8, 2) := by decide +kernel
theorem dX10_isRight_11 : decode cX10_isRight 11 = .ok (.iload 8, 2) := by decide +kernel
theorem dX10_isRight_13 : decode cX10_isRight 13 = .ok (.iload_n 2, 1) := by decide +kernel
theorem dX10_isRight_14 : decode cX10_isRight 14 = .ok (.if_icmp .ne 5, 3) := by decide +kernel
theorem dX10_isRight_17 : decode cX10_isRight 17 = .ok (.iconst 1, 1) := by decide +kernel
theorem dX10_isRight_18 : decode cX10_isRight 18 = .ok (.ireturn, 1) := by decide +kernel
theorem dX10_isRight_19 : decode cX10_isRight 19 = .ok (.bipush 24, 2) := by decide +kernel
theorem dX10_isRight_21 : decode cX10_isRight 21 = .ok (.aload_n 0, 1) := by decide +kernel
theorem dX10_isRight_22 : decode cX10_isRight 22 = .ok (.getfield 201, 3) := by decide +kernel
theorem dX10_isRight_25 : decode cX10_isRight 25 = .ok (.imul, 1) := by decide +kernel
theorem dX10_isRight_26 : decode cX10_isRight 26 = .ok (.istore 9, 2) := by decide +kernel
theorem dX10_isRight_28 : decode cX10_isRight 28 = .ok (.iload 9, 2) := by decide +kernel
theorem dX10_isRight_30 : decode cX10_isRight 30 = .ok (.bipush 24, 2) := by decide +kernel
theorem dX10_isRight_32 : decode cX10_isRight 32 = .ok (.aload_n 0, 1) := by decide +kernel
theorem dX10_isRight_33 : decode cX10_isRight 33 = .ok (.getfield 201, 3) := by decide +kernel
theorem dX10_isRight_36 : decode cX10_isRight 36 = .ok (.imul, 1) := by decide +kernel
theorem dX10_isRight_37 : decode cX10_isRight 37 = .ok (.aload_n 0, 1) := by decide +kernel
theorem dX10_isRight_38 : decode cX10_isRight 38 = .ok (.getfield 210, 3) := by decide +kernel
theorem dX10_isRight_41 : decode cX10_isRight 41 = .ok (.iadd, 1) := by decide +kernel
theorem dX10_isRight_42 : decode cX10_isRight 42 = .ok (.if_icmp .ge 147, 3) := by decide +kernel
theorem dX10_isRight_45 : decode cX10_isRight 45 = .ok (.aload_n 0, 1) := by decide +kernel
theorem dX10_isRight_46 : decode cX10_isRight 46 = .ok (.getfield 37, 3) := by decide +kernel
theorem dX10_isRight_49 : decode cX10_isRight 49 = .ok (.iload 9, 2) := by decide +kernel
theorem dX10_isRight_51 : decode cX10_isRight 51 = .ok (.iaload, 1) := by decide +kernel
theorem dX10_isRight_52 : decode cX10_isRight 52 = .ok (.iconst 2, 1) := by decide +kernel
theorem dX10_isRight_53 : decode cX10_isRight 53 = .ok (.if_icmp .ne 56, 3) := by decide +kernel
theorem dX10_isRight_56 : decode cX10_isRight 56 = .ok (.iload 8, 2) := by decide +kernel
theorem dX10_isRight_58 : decode cX10_isRight 58 = .ok (.ifCond .lt 51, 3) := by decide +kernel
theorem dX10_isRight_61 : decode cX10_isRight 61 = .ok (.aload_n 0, 1) := by decide +kernel
theorem dX10_isRight_62 : decode cX10_isRight 62 = .ok (.getfield 40, 3) := by decide +kernel
theorem dX10_isRight_65 : decode cX10_isRight 65 = .ok (.iload 9, 2) := by decide +kernel
theorem dX10_isRight_67 : decode cX10_isRight 67 = .ok (.iaload, 1) := by decide +kernel
theorem dX10_isRight_68 : decode cX10_isRight 68 = .ok (.iload_n 2, 1) := by decide +kernel
theorem dX10_isRight_69 : decode cX10_isRight 69 = .ok (.if_icmp .ne 15, 3) := by decide +kernel
theorem dX10_isRight_72 : decode cX10_isRight 72 = .ok (.aload_n 0, 1) := by decide +kernel
theorem dX10_isRight_73 : decode cX10_isRight 73 = .ok (.getfield 43, 3) := by decide +kernel
theorem dX10_isRight_76 : decode cX10_isRight 76 = .ok (.iload 9, 2) := by decide +kernel
theorem dX10_isRight_78 : decode cX10_isRight 78 = .ok (.iaload, 1) := by decide +kernel
theorem dX10_isRight_79 : decode cX10_isRight 79 = .ok (.iload 8, 2) := by decide +kernel
theorem dX10_isRight_81 : decode cX10_isRight 81 = .ok (.if_icmp .eq 26, 3) := by decide +kernel
theorem dX10_isRight_84 : decode cX10_isRight 84 = .ok (.aload_n 0, 1) := by decide +kernel
theorem dX10_isRight_85 : decode cX10_isRight 85 = .ok (.getfield 43, 3) := by decide +kernel
theorem dX10_isRight_88 : decode cX10_isRight 88 = .ok (.iload 9, 2) := by decide +kernel
theorem dX10_isRight_90 : decode cX10_isRight 90 = .ok (.iaload, 1) := by decide +kernel
theorem dX10_isRight_91 : decode cX10_isRight 91 = .ok (.iload_n 2, 1) := by decide +kernel
theorem dX10_isRight_92 : decode cX10_isRight 92 = .ok (.if_icmp .ne 17, 3) := by decide +kernel
theorem dX10_isRight_95 : decode cX10_isRight 95 = .ok (.aload_n 0, 1) := by decide +kernel
theorem dX10_isRight_96 : decode cX10_isRight 96 = .ok (.getfield 40, 3) := by decide +kernel
theorem dX10_isRight_99 : decode cX10_isRight 99 = .ok (.iload 9, 2) := by decide +kernel
theorem dX10_isRight_101 : decode cX10_isRight 101 = .ok (.iaload, 1) := by decide +kernel
theorem dX10_isRight_102 : decode cX10_isRight 102 = .ok (.iload 8, 2) := by decide +kernel
theorem dX10_isRight_104 : decode cX10_isRight 104 = .ok (.if_icmp .ne 5, 3) := by decide +kernel
theorem dX10_isRight_107 : decode cX10_isRight 107 = .ok (.iconst 1, 1) := by decide +kernel
theorem dX10_isRight_108 : decode cX10_isRight 108 = .ok (.ireturn, 1) := by decide +kernel
theorem dX10_isRight_109 : decode cX10_isRight 109 = .ok (.aload_n 0, 1) := by decide +kernel
theorem dX10_isRight_110 : decode cX10_isRight 110 = .ok (.getfield 37, 3) := by decide +kernel
theorem dX10_isRight_113 : decode cX10_isRight 113 = .ok (.iload 9, 2) := by decide +kernel
theorem dX10_isRight_115 : decode cX10_isRight 115 = .ok (.iaload, 1) := by decide +kernel
theorem dX10_isRight_116 : decode cX10_isRight 116 = .ok (.iconst 4, 1) := by decide +kernel
theorem dX10_isRight_117 : decode cX10_isRight 117 = .ok (.if_icmp .ne 66, 3) := by decide +kernel
theorem dX10_isRight_120 : decode cX10_isRight 120 = .ok (.aload_n 0, 1) := by decide +kernel
theorem dX10_isRight_121 : decode cX10_isRight 121 = .ok (.getfield 43, 3) := by decide +kernel
theorem dX10_isRight_124 : decode cX10_isRight 124 = .ok (.iload 9, 2) := by decide +kernel
theorem dX10_isRight_126 : decode cX10_isRight 126 = .ok (.iaload, 1) := by decide +kernel
theorem dX10_isRight_127 : decode cX10_isRight 127 = .ok (.iload_n 1, 1) := by decide +kernel
theorem dX10_isRight_128 : decode cX10_isRight 128 = .ok (.if_icmp .ne 55, 3) := by decide +kernel
theorem dX10_isRight_131 : decode cX10_isRight 131 = .ok (.aload_n 0, 1) := by decide +kernel
theorem dX10_isRight_132 : decode cX10_isRight 132 = .ok (.getfield 13, 3) := by decide +kernel
theorem dX10_isRight_135 : decode cX10_isRight 135 = .ok (.aload_n 0, 1) := by decide +kernel
theorem dX10_isRight_136 : decode cX10_isRight 136 = .ok (.getfield 40, 3) := by decide +kernel
theorem dX10_isRight_139 : decode cX10_isRight 139 = .ok (.iload 9, 2) := by decide +kernel
theorem dX10_isRight_141 : decode cX10_isRight 141 = .ok (.iaload, 1) := by decide +kernel
theorem dX10_isRight_142 : decode cX10_isRight 142 = .ok (.baload, 1) := by decide +kernel
theorem dX10_isRight_143 : decode cX10_isRight 143 = .ok (.ifCond .eq 40, 3) := by decide +kernel
theorem dX10_isRight_146 : decode cX10_isRight 146 = .ok (.aload 6, 2) := by decide +kernel
theorem dX10_isRight_148 : decode cX10_isRight 148 = .ok (.iload 7, 2) := by decide +kernel
theorem dX10_isRight_150 : decode cX10_isRight 150 = .ok (.aload_n 0, 1) := by decide +kernel
theorem dX10_isRight_151 : decode cX10_isRight 151 = .ok (.getfield 40, 3) := by decide +kernel
theorem dX10_isRight_154 : decode cX10_isRight 154 = .ok (.iload 9, 2) := by decide +kernel
theorem dX10_isRight_156 : decode cX10_isRight 156 = .ok (.iaload, 1) := by decide +kernel
theorem dX10_isRight_157 : decode cX10_isRight 157 = .ok (.iadd, 1) := by decide +kernel
theorem dX10_isRight_158 : decode cX10_isRight 158 = .ok (.iaload, 1) := by decide +kernel
theorem dX10_isRight_159 : decode cX10_isRight 159 = .ok (.ifCond .ne 24, 3) := by decide +kernel
theorem dX10_isRight_162 : decode cX10_isRight 162 = .ok (.aload_n 3, 1) := by decide +kernel
theorem dX10_isRight_163 : decode cX10_isRight 163 = .ok (.iload 4, 2) := by decide +kernel
theorem dX10_isRight_165 : decode cX10_isRight 165 = .ok (.iload 5, 2) := by decide +kernel
theorem dX10_isRight_167 : decode cX10_isRight 167 = .ok (.aload_n 0, 1) := by decide +kernel
theorem dX10_isRight_168 : decode cX10_isRight 168 = .ok (.getfield 40, 3) := by decide +kernel
theorem dX10_isRight_171 : decode cX10_isRight 171 = .ok (.iload 9, 2) := by decide +kernel
theorem dX10_isRight_173 : decode cX10_isRight 173 = .ok (.iaload, 1) := by decide +kernel
theorem dX10_isRight_174 : decode cX10_isRight 174 = .ok (.imul, 1) := by decide +kernel
theorem dX10_isRight_175 : decode cX10_isRight 175 = .ok (.iadd, 1) := by decide +kernel
theorem dX10_isRight_176 : decode cX10_isRight 176 = .ok (.iaload, 1) := by decide +kernel
theorem dX10_isRight_177 : decode cX10_isRight 177 = .ok (.iload_n 2, 1) := by decide +kernel
theorem dX10_isRight_178 : decode cX10_isRight 178 = .ok (.if_icmp .ne 5, 3) := by decide +kernel
theorem dX10_isRight_181 : decode cX10_isRight 181 = .ok (.iconst 1, 1) := by decide +kernel
theorem dX10_isRight_182 : decode cX10_isRight 182 = .ok (.ireturn, 1) := by decide +kernel
theorem dX10_isRight_183 : decode cX10_isRight 183 = .ok (.iinc 9 1, 3) := by decide +kernel
theorem dX10_isRight_186 : decode cX10_isRight 186 = .ok (.goto (-158), 3) := by decide +kernel
theorem dX10_isRight_189 : decode cX10_isRight 189 = .ok (.iconst 0, 1) := by decide +kernel
theorem dX10_isRight_190 : decode cX10_isRight 190 = .ok (.ireturn, 1) := by decide +kernel
set_option maxHeartbeats 4000000 in
set_option maxRecDepth 100000 in
/-- WellCourtModel.isRight -/
theorem m_isRightA (l : Launch) (G : va_G) (cy : Nat → ClassId) (sK sV : Nat → Nat) (ad : Nat → Nat → Nat) (sz : Nat) (st : gS) (hB : gBd bM st) (x : Int32) (y : Int32) (f : Int32) (Xx : Int) (Xy : Int) (Xf : Int) (kx : x.toInt = Xx) (ky : y.toInt = Xy) (kf : f.toInt = Xf) (hx0 : 0 ≤ Xx) (hx1 : Xx < 6) (hf0 : 0 ≤ Xf) (hf1 : Xf ≤ 199) (rs : List Rl) (bk : Nat) (hbk : (st 0 0 28).toInt = (bk : Int)) (hru : (st 0 0 29).toInt = (rs.length : Int)) (hLM : LM rs st bk) (hwf : ∀ r ∈ rs, wfR r) : gsMi l yX10_isRight cX10_isRight 10 (some .boolean) ({ frames := 0, cells := 0, slots := 0, locals := 0 } : Room) G cy sK sV (shM cy ad) cnM ad sz [.ref (ad 0 0), .int x, .int y, .ref (ad 6 0), .int f, .int 200, .ref (ad 5 0), .int 0] st (fun (r : Int32) (u : gS) => gBN bM kM [] st u ∧ ((r = 1 ∧ (rtM rs (fun a9 => (st 6 0 (200 * a9 + f.toNatClampNeg)).toInt) (fun a9 => (st 1 0 a9).toInt) (fun a9 => (st 5 0 a9).toInt) x.toNatClampNeg Xy)) ∨ (r = 0 ∧ (¬ rtM rs (fun a9 => (st 6 0 (200 * a9 + f.toNatClampNeg)).toInt) (fun a9 => (st 1 0 a9).toInt) (fun a9 => (st 5 0 a9).toInt) x.toNatClampNeg Xy)))) := by
  refine gs_start (fun A => gsQi G (shM cy ad) cnM ad _ A) (by decide) (Nat.le_of_ble_eq_true rfl) ?_
  intro p e s m below meth c A ls H hx hb hr hml hlocks hown hts hK hov hE hI hM hm hS hA hl
  have hl : lv_has ls 10 [(0, .ref (ad 0 0)), (1, .int x), (2, .int y), (3, .ref (ad 6 0)), (4, .int f), (5, .int 200), (6, .ref (ad 5 0)), (7, .int 0)] := hl
  have hB_st : gBN bM kM [] st st := gBN.rf hB
  have bb1 : (0 : Int) ≤ (st 0 0 28).toInt ∧ (st 0 0 28).toInt ≤ (1 : Int) := hB 0 0 28
  have bb3 : (0 : Int) ≤ (st 0 0 30).toInt ∧ (st 0 0 30).toInt ≤ (20 : Int) := hB 0 0 30
  have bb2 : (0 : Int) ≤ (st 0 0 29).toInt ∧ (st 0 0 29).toInt ≤ (20 : Int) := hB 0 0 29
  have cx9 := gs_cl (x := x) (by omega)
  generalize hQe : MQ below _ _ s _ _ A = Q
  refine lv_aload_n hx hb dX10_isRight_0 rfl (lv_at hl 3 rfl) ?_
  refine lv_iload hx hb dX10_isRight_1 (lv_at hl 4 rfl) ?_
  refine lv_iload hx hb dX10_isRight_3 (lv_at hl 5 rfl) ?_
  refine lv_iload_n hx hb dX10_isRight_5 rfl (lv_at hl 1 rfl) ?_
  refine lv_imul hx hb dX10_isRight_6 ?_
  refine lv_topi (fun x_1 ex_1 => ?_)
  try have tx_1 : x_1.toInt = 200 * x.toInt := by rw [ex_1]; exact gz_mulI (x := 200) (y := x.toInt) (by decide) rfl (by omega) (by omega)
  refine lv_iadd hx hb dX10_isRight_7 ?_
  refine lv_topi (fun x_2 ex_2 => ?_)
  try have tx_2 : x_2.toInt = f.toInt + x_1.toInt := by rw [ex_2]; exact gz_addI (x := f.toInt) (y := x_1.toInt) rfl rfl (by omega) (by omega)
  refine gs_iald hx hb hK hM 6 0 (by decide) rfl (vp_in_iff.mpr ⟨by omega, by omega⟩) dX10_isRight_8 ?_
  refine lv_topi (fun x_3 ex_3 => ?_)
  have qx_3 : x_3.toInt = (st 6 0 (x_2.toNatClampNeg)).toInt := congrArg Int32.toInt ex_3
  have hO9 : x_3.toInt = (st 6 0 (200 * x.toNatClampNeg + f.toNatClampNeg)).toInt := (by have c_x_2 := gs_cl (x := x_2) (by omega); have c_x := gs_cl (x := x) (by omega); have c_f := gs_cl (x := f) (by omega); rw [qx_3, show x_2.toNatClampNeg = 200 * x.toNatClampNeg + f.toNatClampNeg by omega])
  refine lv_istore (lv' := [(8, .int x_3), (0, .ref (ad 0 0)), (1, .int x), (2, .int y), (3, .ref (ad 6 0)), (4, .int f), (5, .int 200), (6, .ref (ad 5 0)), (7, .int 0)]) hx hb dX10_isRight_9 hl (by decide) rfl (fun ls hl => ?_)
  refine lv_iload hx hb dX10_isRight_11 (lv_at hl 0 rfl) ?_
  refine lv_iload_n hx hb dX10_isRight_13 rfl (lv_at hl 3 rfl) ?_
  refine lv_icmp_ne (tgt := 19) hx hb dX10_isRight_14 (by decide) (fun c_4 => ?_) (fun c_4 => ?_)
  · have ic_4 := gz_ne (rfl : x_3.toInt = x_3.toInt) (rfl : y.toInt = y.toInt) c_4
    refine lv_bipush (v := 24) hx hb dX10_isRight_19 (by decide) ?_
    refine lv_aload_n hx hb dX10_isRight_21 rfl (lv_at hl 1 rfl) ?_
    refine gs_get (C := RX10) (T := TX10) (N := 59) hx hb hts inX10 hown hK hM 0 0 28 (by decide) rfl rfl (by decide) (hts _ gm_929) (fun _ h9 => h9) rfl dX10_isRight_22 ?_
    have bf_5 : (0 : Int) ≤ (st 0 0 28).toInt ∧ (st 0 0 28).toInt ≤ (1 : Int) := hB_st.1 0 0 28
    refine lv_imul hx hb dX10_isRight_25 ?_
    refine lv_topi (fun x_6 ex_6 => ?_)
    try have tx_6 : x_6.toInt = 24 * (st 0 0 28).toInt := by rw [ex_6]; exact gz_mulI (x := 24) (y := (st 0 0 28).toInt) (by decide) rfl (by omega) (by omega)
    refine lv_istore (lv' := [(9, .int x_6), (8, .int x_3), (0, .ref (ad 0 0)), (1, .int x), (2, .int y), (3, .ref (ad 6 0)), (4, .int f), (5, .int 200), (6, .ref (ad 5 0)), (7, .int 0)]) hx hb dX10_isRight_26 hl (by decide) rfl (fun ls hl => ?_)
    have lp7 : ∀ (n7 : Nat)  (y7_0 : Int32) (H : Heap) (locs : List Loc) (ls : Array Slot), (48 - y7_0.toInt).toNat < n7 →  (24 * (bk : Int) ≤ y7_0.toInt) → (noR st (fun a9 => (st 6 0 (200 * a9 + f.toNatClampNeg)).toInt) (fun a9 => (st 1 0 a9).toInt) (fun a9 => (st 5 0 a9).toInt) x.toNatClampNeg Xy (24 * bk) y7_0.toInt) → gM G (shM cy ad) cnM ad st H → va_S A s.heap H locs → lv_has ls 10 [(9, .int y7_0), (8, .int x_3), (0, .ref (ad 0 0)), (1, .int x), (2, .int y), (3, .ref (ad 6 0)), (4, .int f), (5, .int 200), (6, .ref (ad 5 0)), (7, .int 0)] → W p l e ({ frames := 0, cells := 0, slots := 0, locals := 0 } : Room) s m [.ref (ad 0 0), .int x, .int y, .ref (ad 6 0), .int f, .int 200, .ref (ad 5 0), .int 0].toArray below meth c H locs 0 0 Q (F0 m 28 ls []) := by
      intro n7
      induction n7 with
      | zero => intro  y7_0 H locs ls h9; exact absurd h9 (Nat.not_lt_zero _)
      | succ n7 ih_7 =>
        intro  y7_0 H locs ls hme7  hv7_0 hv7_1 hM hS hl
        refine lv_iload hx hb dX10_isRight_28 (lv_at hl 0 rfl) ?_
        refine lv_bipush (v := 24) hx hb dX10_isRight_30 (by decide) ?_
        refine lv_aload_n hx hb dX10_isRight_32 rfl (lv_at hl 2 rfl) ?_
        refine gs_get (C := RX10) (T := TX10) (N := 59) hx hb hts inX10 hown hK hM 0 0 28 (by decide) rfl rfl (by decide) (hts _ gm_929) (fun _ h9 => h9) rfl dX10_isRight_33 ?_
        have bf_8 : (0 : Int) ≤ (st 0 0 28).toInt ∧ (st 0 0 28).toInt ≤ (1 : Int) := hB_st.1 0 0 28
        refine lv_imul hx hb dX10_isRight_36 ?_
        refine lv_topi (fun x_9 ex_9 => ?_)
        try have tx_9 : x_9.toInt = 24 * (st 0 0 28).toInt := by rw [ex_9]; exact gz_mulI (x := 24) (y := (st 0 0 28).toInt) (by decide) rfl (by omega) (by omega)
        refine lv_aload_n hx hb dX10_isRight_37 rfl (lv_at hl 2 rfl) ?_
        refine gs_get (C := RX10) (T := TX10) (N := 59) hx hb hts inX10 hown hK hM 0 0 29 (by decide) rfl rfl (by decide) (hts _ gm_930) (fun _ h9 => h9) rfl dX10_isRight_38 ?_
        have bf_10 : (0 : Int) ≤ (st 0 0 29).toInt ∧ (st 0 0 29).toInt ≤ (20 : Int) := hB_st.1 0 0 29
        refine lv_iadd hx hb dX10_isRight_41 ?_
        refine lv_topi (fun x_11 ex_11 => ?_)
        try have tx_11 : x_11.toInt = x_9.toInt + (st 0 0 29).toInt := by rw [ex_11]; exact gz_addI (x := x_9.toInt) (y := (st 0 0 29).toInt) rfl rfl (by omega) (by omega)
        refine lv_icmp_ge (tgt := 189) hx hb dX10_isRight_42 (by decide) (fun c_12 => ?_) (fun c_12 => ?_)
        · have ic_12 := gz_le (rfl : x_11.toInt = x_11.toInt) (rfl : y7_0.toInt = y7_0.toInt) c_12
          refine lv_iconst (v := 0) hx hb dX10_isRight_189 (by decide) ?_
          rw [← hQe]
          exact gs_iret hx hb hr hlocks hM hS (by decide) ⟨hB_st, (Or.inr ⟨rfl, rtM.no hLM hwf (show ¬ (st 6 0 (200 * x.toNatClampNeg + f.toNatClampNeg)).toInt = Xy by omega) hv7_1 (by omega)⟩)⟩ (by exact Nat.le_refl _) (by exact Nat.le_refl _) dX10_isRight_190
        · have ic_12 := gz_nle (rfl : x_11.toInt = x_11.toInt) (rfl : y7_0.toInt = y7_0.toInt) c_12
          have lc_12 := gi_hi x_11
          have jn13 : ∀   (H : Heap) (locs : List Loc) (ls : Array Slot),  (¬ hiW st x_3.toInt Xy y7_0.toNatClampNeg) → gM G (shM cy ad) cnM ad st H → va_S A s.heap H locs → lv_has ls 10 [(9, .int y7_0), (8, .int x_3), (0, .ref (ad 0 0)), (1, .int x), (2, .int y), (3, .ref (ad 6 0)), (4, .int f), (5, .int 200), (6, .ref (ad 5 0)), (7, .int 0)] → W p l e ({ frames := 0, cells := 0, slots := 0, locals := 0 } : Room) s m [.ref (ad 0 0), .int x, .int y, .ref (ad 6 0), .int f, .int 200, .ref (ad 5 0), .int 0].toArray below meth c H locs 0 0 Q (F0 m 109 ls []) := by
            intro   H locs ls  hv13_0 hM hS hl
            refine lv_aload_n hx hb dX10_isRight_109 rfl (lv_at hl 2 rfl) ?_
            refine gs_get (C := RX10) (T := TX10) (N := 59) hx hb hts inX10 hown hK hM 0 0 20 (by decide) rfl rfl (by decide) (hts _ gm_921) (fun _ h9 => h9) rfl dX10_isRight_110 ?_
            refine lv_iload hx hb dX10_isRight_113 (lv_at hl 0 rfl) ?_
            refine gs_iald hx hb hK hM 8 0 (by decide) rfl (vp_in_iff.mpr ⟨by omega, by omega⟩) dX10_isRight_115 ?_
            refine lv_topi (fun x_14 ex_14 => ?_)
            have qx_14 : x_14.toInt = (st 8 0 (y7_0.toNatClampNeg)).toInt := congrArg Int32.toInt ex_14
            refine lv_iconst (v := 4) hx hb dX10_isRight_116 (by decide) ?_
            refine lv_icmp_ne (tgt := 183) hx hb dX10_isRight_117 (by decide) (fun c_15 => ?_) (fun c_15 => ?_)
            · have ic_15 := gz_ne (rfl : x_14.toInt = x_14.toInt) (by decide : (4 : Int32).toInt = 4) c_15
              obtain ⟨x_16, ex_16⟩ : ∃ y : Int32, y = y7_0 + 1 := ⟨_, rfl⟩
              try have tx_16 : x_16.toInt = y7_0.toInt + 1 := by rw [ex_16]; exact gz_addP (x := y7_0.toInt) (y := 1) rfl (by decide) (by omega) (by omega)
              refine lv_iinc (v := (x_16)) (lv' := [(9, .int x_16), (8, .int x_3), (0, .ref (ad 0 0)), (1, .int x), (2, .int y), (3, .ref (ad 6 0)), (4, .int f), (5, .int 200), (6, .ref (ad 5 0)), (7, .int 0)]) hx hb dX10_isRight_183 hl (k := 0) rfl (by rw [ex_16]; rfl) (by decide) rfl (fun ls hl => ?_)
              refine lv_goto (tgt := 28) hx hb dX10_isRight_186 (by decide) ?_
              exact ih_7  (x_16 : Int32) H _ ls (by omega)  (by omega) (noR.step hv7_1 (by omega) (by omega) hO9 hv13_0 (fun h9 => by obtain ⟨h8, h7, h6, h5, h4⟩ := h9; have h6 : ¬ (st 1 0 (st 9 0 y7_0.toNatClampNeg).toNatClampNeg).toInt = 0 := h6; have h5 : (st 5 0 (st 9 0 y7_0.toNatClampNeg).toNatClampNeg).toInt = 0 := h5; have h4 : (st 6 0 (200 * (st 9 0 y7_0.toNatClampNeg).toNatClampNeg + f.toNatClampNeg)).toInt = Xy := h4; omega)) hM hS (lv_sub hl [0, 1, 2, 3, 4, 5, 6, 7, 8, 9] rfl)
            · have ic_15 := gz_eqn (rfl : x_14.toInt = x_14.toInt) (by decide : (4 : Int32).toInt = 4) c_15
              refine lv_aload_n hx hb dX10_isRight_120 rfl (lv_at hl 2 rfl) ?_
              refine gs_get (C := RX10) (T := TX10) (N := 59) hx hb hts inX10 hown hK hM 0 0 22 (by decide) rfl rfl (by decide) (hts _ gm_923) (fun _ h9 => h9) rfl dX10_isRight_121 ?_
              refine lv_iload hx hb dX10_isRight_124 (lv_at hl 0 rfl) ?_
              refine gs_iald hx hb hK hM 10 0 (by decide) rfl (vp_in_iff.mpr ⟨by omega, by omega⟩) dX10_isRight_126 ?_
              refine lv_topi (fun x_17 ex_17 => ?_)
              have qx_17 : x_17.toInt = (st 10 0 (y7_0.toNatClampNeg)).toInt := congrArg Int32.toInt ex_17
              refine lv_iload_n hx hb dX10_isRight_127 rfl (lv_at hl 3 rfl) ?_
              refine lv_icmp_ne (tgt := 183) hx hb dX10_isRight_128 (by decide) (fun c_18 => ?_) (fun c_18 => ?_)
              · have ic_18 := gz_ne (rfl : x_17.toInt = x_17.toInt) (rfl : x.toInt = x.toInt) c_18
                obtain ⟨x_19, ex_19⟩ : ∃ y : Int32, y = y7_0 + 1 := ⟨_, rfl⟩
                try have tx_19 : x_19.toInt = y7_0.toInt + 1 := by rw [ex_19]; exact gz_addP (x := y7_0.toInt) (y := 1) rfl (by decide) (by omega) (by omega)
                refine lv_iinc (v := (x_19)) (lv' := [(9, .int x_19), (8, .int x_3), (0, .ref (ad 0 0)), (1, .int x), (2, .int y), (3, .ref (ad 6 0)), (4, .int f), (5, .int 200), (6, .ref (ad 5 0)), (7, .int 0)]) hx hb dX10_isRight_183 hl (k := 0) rfl (by rw [ex_19]; rfl) (by decide) rfl (fun ls hl => ?_)
                refine lv_goto (tgt := 28) hx hb dX10_isRight_186 (by decide) ?_
                exact ih_7  (x_19 : Int32) H _ ls (by omega)  (by omega) (noR.step hv7_1 (by omega) (by omega) hO9 hv13_0 (fun h9 => by obtain ⟨h8, h7, h6, h5, h4⟩ := h9; have h6 : ¬ (st 1 0 (st 9 0 y7_0.toNatClampNeg).toNatClampNeg).toInt = 0 := h6; have h5 : (st 5 0 (st 9 0 y7_0.toNatClampNeg).toNatClampNeg).toInt = 0 := h5; have h4 : (st 6 0 (200 * (st 9 0 y7_0.toNatClampNeg).toNatClampNeg + f.toNatClampNeg)).toInt = Xy := h4; omega)) hM hS (lv_sub hl [0, 1, 2, 3, 4, 5, 6, 7, 8, 9] rfl)
              · have ic_18 := gz_eqn (rfl : x_17.toInt = x_17.toInt) (rfl : x.toInt = x.toInt) c_18
                refine lv_aload_n hx hb dX10_isRight_131 rfl (lv_at hl 2 rfl) ?_
                refine gs_get (C := RX10) (T := TX10) (N := 59) hx hb hts inX10 hown hK hM 0 0 1 (by decide) rfl rfl (by decide) (hts _ gm_902) (fun _ h9 => h9) rfl dX10_isRight_132 ?_
                refine lv_aload_n hx hb dX10_isRight_135 rfl (lv_at hl 2 rfl) ?_
                refine gs_get (C := RX10) (T := TX10) (N := 59) hx hb hts inX10 hown hK hM 0 0 21 (by decide) rfl rfl (by decide) (hts _ gm_922) (fun _ h9 => h9) rfl dX10_isRight_136 ?_
                refine lv_iload hx hb dX10_isRight_139 (lv_at hl 0 rfl) ?_
                refine gs_iald hx hb hK hM 9 0 (by decide) rfl (vp_in_iff.mpr ⟨by omega, by omega⟩) dX10_isRight_141 ?_
                refine lv_topi (fun x_20 ex_20 => ?_)
                have qx_20 : x_20.toInt = (st 9 0 (y7_0.toNatClampNeg)).toInt := congrArg Int32.toInt ex_20
                have bx_20 : (0 : Int) ≤ x_20.toInt ∧ x_20.toInt ≤ (5 : Int) := by rw [qx_20]; exact hB_st.1 9 0 (y7_0.toNatClampNeg)
                refine gs_zald hx hb hK hM 1 0 (by decide) rfl (vp_in_iff.mpr ⟨by omega, by omega⟩) dX10_isRight_142 ?_
                refine lv_topi (fun x_21 ex_21 => ?_)
                have qx_21 : x_21.toInt = (st 1 0 (x_20.toNatClampNeg)).toInt := congrArg Int32.toInt ex_21
                have hj_x_21 : x_21.toInt = (st 1 0 (st 9 0 y7_0.toNatClampNeg).toNatClampNeg).toInt := (by have ej : x_20 = st 9 0 y7_0.toNatClampNeg := ex_20; rw [qx_21, ej])
                refine lv_if_eq (tgt := 183) hx hb dX10_isRight_143 (by decide) (fun c_22 => ?_) (fun c_22 => ?_)
                · have ic_22 := gz_eq (rfl : x_21.toInt = x_21.toInt) (by decide : (0 : Int32).toInt = 0) c_22
                  obtain ⟨x_23, ex_23⟩ : ∃ y : Int32, y = y7_0 + 1 := ⟨_, rfl⟩
                  try have tx_23 : x_23.toInt = y7_0.toInt + 1 := by rw [ex_23]; exact gz_addP (x := y7_0.toInt) (y := 1) rfl (by decide) (by omega) (by omega)
                  refine lv_iinc (v := (x_23)) (lv' := [(9, .int x_23), (8, .int x_3), (0, .ref (ad 0 0)), (1, .int x), (2, .int y), (3, .ref (ad 6 0)), (4, .int f), (5, .int 200), (6, .ref (ad 5 0)), (7, .int 0)]) hx hb dX10_isRight_183 hl (k := 0) rfl (by rw [ex_23]; rfl) (by decide) rfl (fun ls hl => ?_)
                  refine lv_goto (tgt := 28) hx hb dX10_isRight_186 (by decide) ?_
                  exact ih_7  (x_23 : Int32) H _ ls (by omega)  (by omega) (noR.step hv7_1 (by omega) (by omega) hO9 hv13_0 (fun h9 => by obtain ⟨h8, h7, h6, h5, h4⟩ := h9; have h6 : ¬ (st 1 0 (st 9 0 y7_0.toNatClampNeg).toNatClampNeg).toInt = 0 := h6; have h5 : (st 5 0 (st 9 0 y7_0.toNatClampNeg).toNatClampNeg).toInt = 0 := h5; have h4 : (st 6 0 (200 * (st 9 0 y7_0.toNatClampNeg).toNatClampNeg + f.toNatClampNeg)).toInt = Xy := h4; omega)) hM hS (lv_sub hl [0, 1, 2, 3, 4, 5, 6, 7, 8, 9] rfl)
                · have ic_22 := gz_ne (rfl : x_21.toInt = x_21.toInt) (by decide : (0 : Int32).toInt = 0) c_22
                  refine lv_aload hx hb dX10_isRight_146 (lv_at hl 8 rfl) ?_
                  refine lv_iload hx hb dX10_isRight_148 (lv_at hl 9 rfl) ?_
                  refine lv_aload_n hx hb dX10_isRight_150 rfl (lv_at hl 2 rfl) ?_
                  refine gs_get (C := RX10) (T := TX10) (N := 59) hx hb hts inX10 hown hK hM 0 0 21 (by decide) rfl rfl (by decide) (hts _ gm_922) (fun _ h9 => h9) rfl dX10_isRight_151 ?_
                  refine lv_iload hx hb dX10_isRight_154 (lv_at hl 0 rfl) ?_
                  refine gs_iald hx hb hK hM 9 0 (by decide) rfl (vp_in_iff.mpr ⟨by omega, by omega⟩) dX10_isRight_156 ?_
                  refine lv_topi (fun x_24 ex_24 => ?_)
                  have qx_24 : x_24.toInt = (st 9 0 (y7_0.toNatClampNeg)).toInt := congrArg Int32.toInt ex_24
                  have bx_24 : (0 : Int) ≤ x_24.toInt ∧ x_24.toInt ≤ (5 : Int) := by rw [qx_24]; exact hB_st.1 9 0 (y7_0.toNatClampNeg)
                  refine lv_iadd hx hb dX10_isRight_157 ?_
                  refine lv_topi (fun x_25 ex_25 => ?_)
                  try have tx_25 : x_25.toInt = 0 + x_24.toInt := by rw [ex_25]; exact gz_addI (x := 0) (y := x_24.toInt) (by decide) rfl (by omega) (by omega)
                  refine gs_iald hx hb hK hM 5 0 (by decide) rfl (vp_in_iff.mpr ⟨by omega, by omega⟩) dX10_isRight_158 ?_
                  refine lv_topi (fun x_26 ex_26 => ?_)
                  have qx_26 : x_26.toInt = (st 5 0 (x_25.toNatClampNeg)).toInt := congrArg Int32.toInt ex_26
                  have hj_x_26 : x_26.toInt = (st 5 0 (st 9 0 y7_0.toNatClampNeg).toNatClampNeg).toInt := (by have ej : x_24 = st 9 0 y7_0.toNatClampNeg := ex_24; have c_x_25 := gs_cl (x := x_25) (by omega); have c_x_24 := gs_cl (x := x_24) (by omega); rw [qx_26, show x_25.toNatClampNeg = x_24.toNatClampNeg by omega, ej])
                  refine lv_if_ne (tgt := 183) hx hb dX10_isRight_159 (by decide) (fun c_27 => ?_) (fun c_27 => ?_)
                  · have ic_27 := gz_ne (rfl : x_26.toInt = x_26.toInt) (by decide : (0 : Int32).toInt = 0) c_27
                    obtain ⟨x_28, ex_28⟩ : ∃ y : Int32, y = y7_0 + 1 := ⟨_, rfl⟩
                    try have tx_28 : x_28.toInt = y7_0.toInt + 1 := by rw [ex_28]; exact gz_addP (x := y7_0.toInt) (y := 1) rfl (by decide) (by omega) (by omega)
                    refine lv_iinc (v := (x_28)) (lv' := [(9, .int x_28), (8, .int x_3), (0, .ref (ad 0 0)), (1, .int x), (2, .int y), (3, .ref (ad 6 0)), (4, .int f), (5, .int 200), (6, .ref (ad 5 0)), (7, .int 0)]) hx hb dX10_isRight_183 hl (k := 0) rfl (by rw [ex_28]; rfl) (by decide) rfl (fun ls hl => ?_)
                    refine lv_goto (tgt := 28) hx hb dX10_isRight_186 (by decide) ?_
                    exact ih_7  (x_28 : Int32) H _ ls (by omega)  (by omega) (noR.step hv7_1 (by omega) (by omega) hO9 hv13_0 (fun h9 => by obtain ⟨h8, h7, h6, h5, h4⟩ := h9; have h6 : ¬ (st 1 0 (st 9 0 y7_0.toNatClampNeg).toNatClampNeg).toInt = 0 := h6; have h5 : (st 5 0 (st 9 0 y7_0.toNatClampNeg).toNatClampNeg).toInt = 0 := h5; have h4 : (st 6 0 (200 * (st 9 0 y7_0.toNatClampNeg).toNatClampNeg + f.toNatClampNeg)).toInt = Xy := h4; omega)) hM hS (lv_sub hl [0, 1, 2, 3, 4, 5, 6, 7, 8, 9] rfl)
                  · have ic_27 := gz_eqn (rfl : x_26.toInt = x_26.toInt) (by decide : (0 : Int32).toInt = 0) c_27
                    refine lv_aload_n hx hb dX10_isRight_162 rfl (lv_at hl 5 rfl) ?_
                    refine lv_iload hx hb dX10_isRight_163 (lv_at hl 6 rfl) ?_
                    refine lv_iload hx hb dX10_isRight_165 (lv_at hl 7 rfl) ?_
                    refine lv_aload_n hx hb dX10_isRight_167 rfl (lv_at hl 2 rfl) ?_
                    refine gs_get (C := RX10) (T := TX10) (N := 59) hx hb hts inX10 hown hK hM 0 0 21 (by decide) rfl rfl (by decide) (hts _ gm_922) (fun _ h9 => h9) rfl dX10_isRight_168 ?_
                    refine lv_iload hx hb dX10_isRight_171 (lv_at hl 0 rfl) ?_
                    refine gs_iald hx hb hK hM 9 0 (by decide) rfl (vp_in_iff.mpr ⟨by omega, by omega⟩) dX10_isRight_173 ?_
                    refine lv_topi (fun x_29 ex_29 => ?_)
                    have qx_29 : x_29.toInt = (st 9 0 (y7_0.toNatClampNeg)).toInt := congrArg Int32.toInt ex_29
                    have bx_29 : (0 : Int) ≤ x_29.toInt ∧ x_29.toInt ≤ (5 : Int) := by rw [qx_29]; exact hB_st.1 9 0 (y7_0.toNatClampNeg)
                    refine lv_imul hx hb dX10_isRight_174 ?_
                    refine lv_topi (fun x_30 ex_30 => ?_)
                    try have tx_30 : x_30.toInt = 200 * x_29.toInt := by rw [ex_30]; exact gz_mulI (x := 200) (y := x_29.toInt) (by decide) rfl (by omega) (by omega)
                    refine lv_iadd hx hb dX10_isRight_175 ?_
                    refine lv_topi (fun x_31 ex_31 => ?_)
                    try have tx_31 : x_31.toInt = f.toInt + x_30.toInt := by rw [ex_31]; exact gz_addI (x := f.toInt) (y := x_30.toInt) rfl rfl (by omega) (by omega)
                    refine gs_iald hx hb hK hM 6 0 (by decide) rfl (vp_in_iff.mpr ⟨by omega, by omega⟩) dX10_isRight_176 ?_
                    refine lv_topi (fun x_32 ex_32 => ?_)
                    have qx_32 : x_32.toInt = (st 6 0 (x_31.toNatClampNeg)).toInt := congrArg Int32.toInt ex_32
                    have hj_x_32 : x_32.toInt = (st 6 0 (200 * (st 9 0 y7_0.toNatClampNeg).toNatClampNeg + f.toNatClampNeg)).toInt := (by have ej : x_29 = st 9 0 y7_0.toNatClampNeg := ex_29; have c_x_31 := gs_cl (x := x_31) (by omega); have c_x_29 := gs_cl (x := x_29) (by omega); have c_f := gs_cl (x := f) (by omega); rw [qx_32, show x_31.toNatClampNeg = 200 * x_29.toNatClampNeg + f.toNatClampNeg by omega, ej])
                    refine lv_iload_n hx hb dX10_isRight_177 rfl (lv_at hl 4 rfl) ?_
                    refine lv_icmp_ne (tgt := 183) hx hb dX10_isRight_178 (by decide) (fun c_33 => ?_) (fun c_33 => ?_)
                    · have ic_33 := gz_ne (rfl : x_32.toInt = x_32.toInt) (rfl : y.toInt = y.toInt) c_33
                      obtain ⟨x_34, ex_34⟩ : ∃ y : Int32, y = y7_0 + 1 := ⟨_, rfl⟩
                      try have tx_34 : x_34.toInt = y7_0.toInt + 1 := by rw [ex_34]; exact gz_addP (x := y7_0.toInt) (y := 1) rfl (by decide) (by omega) (by omega)
                      refine lv_iinc (v := (x_34)) (lv' := [(9, .int x_34), (8, .int x_3), (0, .ref (ad 0 0)), (1, .int x), (2, .int y), (3, .ref (ad 6 0)), (4, .int f), (5, .int 200), (6, .ref (ad 5 0)), (7, .int 0)]) hx hb dX10_isRight_183 hl (k := 0) rfl (by rw [ex_34]; rfl) (by decide) rfl (fun ls hl => ?_)
                      refine lv_goto (tgt := 28) hx hb dX10_isRight_186 (by decide) ?_
                      exact ih_7  (x_34 : Int32) H _ ls (by omega)  (by omega) (noR.step hv7_1 (by omega) (by omega) hO9 hv13_0 (fun h9 => by obtain ⟨h8, h7, h6, h5, h4⟩ := h9; have h6 : ¬ (st 1 0 (st 9 0 y7_0.toNatClampNeg).toNatClampNeg).toInt = 0 := h6; have h5 : (st 5 0 (st 9 0 y7_0.toNatClampNeg).toNatClampNeg).toInt = 0 := h5; have h4 : (st 6 0 (200 * (st 9 0 y7_0.toNatClampNeg).toNatClampNeg + f.toNatClampNeg)).toInt = Xy := h4; omega)) hM hS (lv_sub hl [0, 1, 2, 3, 4, 5, 6, 7, 8, 9] rfl)
                    · have ic_33 := gz_eqn (rfl : x_32.toInt = x_32.toInt) (rfl : y.toInt = y.toInt) c_33
                      refine lv_iconst (v := 1) hx hb dX10_isRight_181 (by decide) ?_
                      rw [← hQe]
                      exact gs_iret hx hb hr hlocks hM hS (by decide) ⟨hB_st, (Or.inl ⟨rfl, rtM.dry (y := y7_0) hLM hwf (by omega) (by omega) ⟨by omega, by omega, (show ¬ (st 1 0 (st 9 0 y7_0.toNatClampNeg).toNatClampNeg).toInt = 0 by omega), (show (st 5 0 (st 9 0 y7_0.toNatClampNeg).toNatClampNeg).toInt = 0 by omega), (show (st 6 0 (200 * (st 9 0 y7_0.toNatClampNeg).toNatClampNeg + f.toNatClampNeg)).toInt = Xy by omega)⟩⟩)⟩ (by exact Nat.le_refl _) (by exact Nat.le_refl _) dX10_isRight_182
          refine lv_aload_n hx hb dX10_isRight_45 rfl (lv_at hl 2 rfl) ?_
          refine gs_get (C := RX10) (T := TX10) (N := 59) hx hb hts inX10 hown hK hM 0 0 20 (by decide) rfl rfl (by decide) (hts _ gm_921) (fun _ h9 => h9) rfl dX10_isRight_46 ?_
          refine lv_iload hx hb dX10_isRight_49 (lv_at hl 0 rfl) ?_
          refine gs_iald hx hb hK hM 8 0 (by decide) rfl (vp_in_iff.mpr ⟨by omega, by omega⟩) dX10_isRight_51 ?_
          refine lv_topi (fun x_35 ex_35 => ?_)
          have qx_35 : x_35.toInt = (st 8 0 (y7_0.toNatClampNeg)).toInt := congrArg Int32.toInt ex_35
          refine lv_iconst (v := 2) hx hb dX10_isRight_52 (by decide) ?_
          refine lv_icmp_ne (tgt := 109) hx hb dX10_isRight_53 (by decide) (fun c_36 => ?_) (fun c_36 => ?_)
          · have ic_36 := gz_ne (rfl : x_35.toInt = x_35.toInt) (by decide : (2 : Int32).toInt = 2) c_36
            exact jn13   H _ ls  (fun h9 => by obtain ⟨h8, h7, h6⟩ := h9; omega) hM hS (lv_sub hl [0, 1, 2, 3, 4, 5, 6, 7, 8, 9] rfl)
          · have ic_36 := gz_eqn (rfl : x_35.toInt = x_35.toInt) (by decide : (2 : Int32).toInt = 2) c_36
            refine lv_iload hx hb dX10_isRight_56 (lv_at hl 1 rfl) ?_
            refine lv_if_lt (tgt := 109) hx hb dX10_isRight_58 (by decide) (fun c_37 => ?_) (fun c_37 => ?_)
            · have ic_37 := gz_lt (rfl : x_3.toInt = x_3.toInt) (by decide : (0 : Int32).toInt = 0) c_37
              exact jn13   H _ ls  (fun h9 => by obtain ⟨h8, h7, h6⟩ := h9; omega) hM hS (lv_sub hl [0, 1, 2, 3, 4, 5, 6, 7, 8, 9] rfl)
            · have ic_37 := gz_nlt (rfl : x_3.toInt = x_3.toInt) (by decide : (0 : Int32).toInt = 0) c_37
              refine lv_aload_n hx hb dX10_isRight_61 rfl (lv_at hl 2 rfl) ?_
              refine gs_get (C := RX10) (T := TX10) (N := 59) hx hb hts inX10 hown hK hM 0 0 21 (by decide) rfl rfl (by decide) (hts _ gm_922) (fun _ h9 => h9) rfl dX10_isRight_62 ?_
              refine lv_iload hx hb dX10_isRight_65 (lv_at hl 0 rfl) ?_
              refine gs_iald hx hb hK hM 9 0 (by decide) rfl (vp_in_iff.mpr ⟨by omega, by omega⟩) dX10_isRight_67 ?_
              refine lv_topi (fun x_38 ex_38 => ?_)
              have qx_38 : x_38.toInt = (st 9 0 (y7_0.toNatClampNeg)).toInt := congrArg Int32.toInt ex_38
              have bx_38 : (0 : Int) ≤ x_38.toInt ∧ x_38.toInt ≤ (5 : Int) := by rw [qx_38]; exact hB_st.1 9 0 (y7_0.toNatClampNeg)
              refine lv_iload_n hx hb dX10_isRight_68 rfl (lv_at hl 4 rfl) ?_
              refine lv_icmp_ne (tgt := 84) hx hb dX10_isRight_69 (by decide) (fun c_39 => ?_) (fun c_39 => ?_)
              · have ic_39 := gz_ne (rfl : x_38.toInt = x_38.toInt) (rfl : y.toInt = y.toInt) c_39
                refine lv_aload_n hx hb dX10_isRight_84 rfl (lv_at hl 2 rfl) ?_
                refine gs_get (C := RX10) (T := TX10) (N := 59) hx hb hts inX10 hown hK hM 0 0 22 (by decide) rfl rfl (by decide) (hts _ gm_923) (fun _ h9 => h9) rfl dX10_isRight_85 ?_
                refine lv_iload hx hb dX10_isRight_88 (lv_at hl 0 rfl) ?_
                refine gs_iald hx hb hK hM 10 0 (by decide) rfl (vp_in_iff.mpr ⟨by omega, by omega⟩) dX10_isRight_90 ?_
                refine lv_topi (fun x_40 ex_40 => ?_)
                have qx_40 : x_40.toInt = (st 10 0 (y7_0.toNatClampNeg)).toInt := congrArg Int32.toInt ex_40
                refine lv_iload_n hx hb dX10_isRight_91 rfl (lv_at hl 4 rfl) ?_
                refine lv_icmp_ne (tgt := 109) hx hb dX10_isRight_92 (by decide) (fun c_41 => ?_) (fun c_41 => ?_)
                · have ic_41 := gz_ne (rfl : x_40.toInt = x_40.toInt) (rfl : y.toInt = y.toInt) c_41
                  exact jn13   H _ ls  (fun h9 => by obtain ⟨h8, h7, h6⟩ := h9; omega) hM hS (lv_sub hl [0, 1, 2, 3, 4, 5, 6, 7, 8, 9] rfl)
                · have ic_41 := gz_eqn (rfl : x_40.toInt = x_40.toInt) (rfl : y.toInt = y.toInt) c_41
                  refine lv_aload_n hx hb dX10_isRight_95 rfl (lv_at hl 2 rfl) ?_
                  refine gs_get (C := RX10) (T := TX10) (N := 59) hx hb hts inX10 hown hK hM 0 0 21 (by decide) rfl rfl (by decide) (hts _ gm_922) (fun _ h9 => h9) rfl dX10_isRight_96 ?_
                  refine lv_iload hx hb dX10_isRight_99 (lv_at hl 0 rfl) ?_
                  refine gs_iald hx hb hK hM 9 0 (by decide) rfl (vp_in_iff.mpr ⟨by omega, by omega⟩) dX10_isRight_101 ?_
                  refine lv_topi (fun x_42 ex_42 => ?_)
                  have qx_42 : x_42.toInt = (st 9 0 (y7_0.toNatClampNeg)).toInt := congrArg Int32.toInt ex_42
                  have bx_42 : (0 : Int) ≤ x_42.toInt ∧ x_42.toInt ≤ (5 : Int) := by rw [qx_42]; exact hB_st.1 9 0 (y7_0.toNatClampNeg)
                  refine lv_iload hx hb dX10_isRight_102 (lv_at hl 1 rfl) ?_
                  refine lv_icmp_ne (tgt := 109) hx hb dX10_isRight_104 (by decide) (fun c_43 => ?_) (fun c_43 => ?_)
                  · have ic_43 := gz_ne (rfl : x_42.toInt = x_42.toInt) (rfl : x_3.toInt = x_3.toInt) c_43
                    exact jn13   H _ ls  (fun h9 => by obtain ⟨h8, h7, h6⟩ := h9; omega) hM hS (lv_sub hl [0, 1, 2, 3, 4, 5, 6, 7, 8, 9] rfl)
                  · have ic_43 := gz_eqn (rfl : x_42.toInt = x_42.toInt) (rfl : x_3.toInt = x_3.toInt) c_43
                    refine lv_iconst (v := 1) hx hb dX10_isRight_107 (by decide) ?_
                    rw [← hQe]
                    exact gs_iret hx hb hr hlocks hM hS (by decide) ⟨hB_st, (Or.inl ⟨rfl, rtM.wed (y := y7_0) hLM (by omega) (by omega) hO9 ⟨by omega, by omega, by omega⟩⟩)⟩ (by exact Nat.le_refl _) (by exact Nat.le_refl _) dX10_isRight_108
              · have ic_39 := gz_eqn (rfl : x_38.toInt = x_38.toInt) (rfl : y.toInt = y.toInt) c_39
                refine lv_aload_n hx hb dX10_isRight_72 rfl (lv_at hl 2 rfl) ?_
                refine gs_get (C := RX10) (T := TX10) (N := 59) hx hb hts inX10 hown hK hM 0 0 22 (by decide) rfl rfl (by decide) (hts _ gm_923) (fun _ h9 => h9) rfl dX10_isRight_73 ?_
                refine lv_iload hx hb dX10_isRight_76 (lv_at hl 0 rfl) ?_
                refine gs_iald hx hb hK hM 10 0 (by decide) rfl (vp_in_iff.mpr ⟨by omega, by omega⟩) dX10_isRight_78 ?_
                refine lv_topi (fun x_44 ex_44 => ?_)
                have qx_44 : x_44.toInt = (st 10 0 (y7_0.toNatClampNeg)).toInt := congrArg Int32.toInt ex_44
                refine lv_iload hx hb dX10_isRight_79 (lv_at hl 1 rfl) ?_
                refine lv_icmp_eq (tgt := 107) hx hb dX10_isRight_81 (by decide) (fun c_45 => ?_) (fun c_45 => ?_)
                · have ic_45 := gz_eq (rfl : x_44.toInt = x_44.toInt) (rfl : x_3.toInt = x_3.toInt) c_45
                  refine lv_iconst (v := 1) hx hb dX10_isRight_107 (by decide) ?_
                  rw [← hQe]
                  exact gs_iret hx hb hr hlocks hM hS (by decide) ⟨hB_st, (Or.inl ⟨rfl, rtM.wed (y := y7_0) hLM (by omega) (by omega) hO9 ⟨by omega, by omega, by omega⟩⟩)⟩ (by exact Nat.le_refl _) (by exact Nat.le_refl _) dX10_isRight_108
                · have ic_45 := gz_ne (rfl : x_44.toInt = x_44.toInt) (rfl : x_3.toInt = x_3.toInt) c_45
                  refine lv_aload_n hx hb dX10_isRight_84 rfl (lv_at hl 2 rfl) ?_
                  refine gs_get (C := RX10) (T := TX10) (N := 59) hx hb hts inX10 hown hK hM 0 0 22 (by decide) rfl rfl (by decide) (hts _ gm_923) (fun _ h9 => h9) rfl dX10_isRight_85 ?_
                  refine lv_iload hx hb dX10_isRight_88 (lv_at hl 0 rfl) ?_
                  refine gs_iald hx hb hK hM 10 0 (by decide) rfl (vp_in_iff.mpr ⟨by omega, by omega⟩) dX10_isRight_90 ?_
                  refine lv_topi (fun x_46 ex_46 => ?_)
                  have qx_46 : x_46.toInt = (st 10 0 (y7_0.toNatClampNeg)).toInt := congrArg Int32.toInt ex_46
                  refine lv_iload_n hx hb dX10_isRight_91 rfl (lv_at hl 4 rfl) ?_
                  refine lv_icmp_ne (tgt := 109) hx hb dX10_isRight_92 (by decide) (fun c_47 => ?_) (fun c_47 => ?_)
                  · have ic_47 := gz_ne (rfl : x_46.toInt = x_46.toInt) (rfl : y.toInt = y.toInt) c_47
                    exact jn13   H _ ls  (fun h9 => by obtain ⟨h8, h7, h6⟩ := h9; omega) hM hS (lv_sub hl [0, 1, 2, 3, 4, 5, 6, 7, 8, 9] rfl)
                  · have ic_47 := gz_eqn (rfl : x_46.toInt = x_46.toInt) (rfl : y.toInt = y.toInt) c_47
                    refine lv_aload_n hx hb dX10_isRight_95 rfl (lv_at hl 2 rfl) ?_
                    refine gs_get (C := RX10) (T := TX10) (N := 59) hx hb hts inX10 hown hK hM 0 0 21 (by decide) rfl rfl (by decide) (hts _ gm_922) (fun _ h9 => h9) rfl dX10_isRight_96 ?_
                    refine lv_iload hx hb dX10_isRight_99 (lv_at hl 0 rfl) ?_
                    refine gs_iald hx hb hK hM 9 0 (by decide) rfl (vp_in_iff.mpr ⟨by omega, by omega⟩) dX10_isRight_101 ?_
                    refine lv_topi (fun x_48 ex_48 => ?_)
                    have qx_48 : x_48.toInt = (st 9 0 (y7_0.toNatClampNeg)).toInt := congrArg Int32.toInt ex_48
                    have bx_48 : (0 : Int) ≤ x_48.toInt ∧ x_48.toInt ≤ (5 : Int) := by rw [qx_48]; exact hB_st.1 9 0 (y7_0.toNatClampNeg)
                    refine lv_iload hx hb dX10_isRight_102 (lv_at hl 1 rfl) ?_
                    refine lv_icmp_ne (tgt := 109) hx hb dX10_isRight_104 (by decide) (fun c_49 => ?_) (fun c_49 => ?_)
                    · have ic_49 := gz_ne (rfl : x_48.toInt = x_48.toInt) (rfl : x_3.toInt = x_3.toInt) c_49
                      exact jn13   H _ ls  (fun h9 => by obtain ⟨h8, h7, h6⟩ := h9; omega) hM hS (lv_sub hl [0, 1, 2, 3, 4, 5, 6, 7, 8, 9] rfl)
                    · have ic_49 := gz_eqn (rfl : x_48.toInt = x_48.toInt) (rfl : x_3.toInt = x_3.toInt) c_49
                      refine lv_iconst (v := 1) hx hb dX10_isRight_107 (by decide) ?_
                      rw [← hQe]
                      exact gs_iret hx hb hr hlocks hM hS (by decide) ⟨hB_st, (Or.inl ⟨rfl, rtM.wed (y := y7_0) hLM (by omega) (by omega) hO9 ⟨by omega, by omega, by omega⟩⟩)⟩ (by exact Nat.le_refl _) (by exact Nat.le_refl _) dX10_isRight_108
    exact lp7 ((48 - (x_6 : Int32).toInt).toNat + 1)  (x_6 : Int32) H _ ls (Nat.lt_succ_self _)  (by omega) (noR.nil (by omega)) hM hS (lv_sub hl [0, 1, 2, 3, 4, 5, 6, 7, 8, 9] rfl)
  · have ic_4 := gz_eqn (rfl : x_3.toInt = x_3.toInt) (rfl : y.toInt = y.toInt) c_4
    refine lv_iconst (v := 1) hx hb dX10_isRight_17 (by decide) ?_
    rw [← hQe]
    exact gs_iret hx hb hr hlocks hM hS (by decide) ⟨hB_st, (Or.inl ⟨rfl, Or.inl (show (st 6 0 (200 * x.toNatClampNeg + f.toNatClampNeg)).toInt = Xy by omega)⟩)⟩ (by exact Nat.le_refl _) (by exact Nat.le_refl _) dX10_isRight_18

set_option maxHeartbeats 4000000 in
set_option maxRecDepth 100000 in
/-- WellCourtModel.isRight -/
theorem m_isRightB (l : Launch) (G : va_G) (cy : Nat → ClassId) (sK sV : Nat → Nat) (ad : Nat → Nat → Nat) (sz : Nat) (st : gS) (hB : gBd bM st) (x : Int32) (y : Int32) (f : Int32) (g : Int32) (Xx : Int) (Xy : Int) (Xf : Int) (Xg : Int) (kx : x.toInt = Xx) (ky : y.toInt = Xy) (kf : f.toInt = Xf) (kg : g.toInt = Xg) (hx0 : 0 ≤ Xx) (hx1 : Xx < 6) (hf0 : 0 ≤ Xf) (hf1 : Xf ≤ 336) (hg0 : 0 ≤ Xg) (hg1 : Xg ≤ 336) (rs : List Rl) (bk : Nat) (hbk : (st 0 0 28).toInt = (bk : Int)) (hru : (st 0 0 29).toInt = (rs.length : Int)) (hLM : LM rs st bk) (hwf : ∀ r ∈ rs, wfR r) : gsMi l yX10_isRight cX10_isRight 10 (some .boolean) ({ frames := 0, cells := 0, slots := 0, locals := 0 } : Room) G cy sK sV (shM cy ad) cnM ad sz [.ref (ad 0 0), .int x, .int y, .ref (ad 36 0), .int f, .int 1, .ref (ad 35 0), .int g] st (fun (r : Int32) (u : gS) => gBN bM kM [] st u ∧ ((r = 1 ∧ (rtM rs (fun a9 => (st 36 0 (a9 + f.toNatClampNeg)).toInt) (fun a9 => (st 1 0 a9).toInt) (fun a9 => (st 35 0 (a9 + g.toNatClampNeg)).toInt) x.toNatClampNeg Xy)) ∨ (r = 0 ∧ (¬ rtM rs (fun a9 => (st 36 0 (a9 + f.toNatClampNeg)).toInt) (fun a9 => (st 1 0 a9).toInt) (fun a9 => (st 35 0 (a9 + g.toNatClampNeg)).toInt) x.toNatClampNeg Xy)))) := by
  refine gs_start (fun A => gsQi G (shM cy ad) cnM ad _ A) (by decide) (Nat.le_of_ble_eq_true rfl) ?_
  intro p e s m below meth c A ls H hx hb hr hml hlocks hown hts hK hov hE hI hM hm hS hA hl
  have hl : lv_has ls 10 [(0, .ref (ad 0 0)), (1, .int x), (2, .int y), (3, .ref (ad 36 0)), (4, .int f), (5, .int 1), (6, .ref (ad 35 0)), (7, .int g)] := hl
  have hB_st : gBN bM kM [] st st := gBN.rf hB
  have bb1 : (0 : Int) ≤ (st 0 0 28).toInt ∧ (st 0 0 28).toInt ≤ (1 : Int) := hB 0 0 28
  have bb3 : (0 : Int) ≤ (st 0 0 30).toInt ∧ (st 0 0 30).toInt ≤ (20 : Int) := hB 0 0 30
  have bb2 : (0 : Int) ≤ (st 0 0 29).toInt ∧ (st 0 0 29).toInt ≤ (20 : Int) := hB 0 0 29
  have cx9 := gs_cl (x := x) (by omega)
  generalize hQe : MQ below _ _ s _ _ A = Q
  refine lv_aload_n hx hb dX10_isRight_0 rfl (lv_at hl 3 rfl) ?_
  refine lv_iload hx hb dX10_isRight_1 (lv_at hl 4 rfl) ?_
  refine lv_iload hx hb dX10_isRight_3 (lv_at hl 5 rfl) ?_
  refine lv_iload_n hx hb dX10_isRight_5 rfl (lv_at hl 1 rfl) ?_
  refine lv_imul hx hb dX10_isRight_6 ?_
  refine lv_topi (fun x_1 ex_1 => ?_)
  try have tx_1 : x_1.toInt = 1 * x.toInt := by rw [ex_1]; exact gz_mulI (x := 1) (y := x.toInt) (by decide) rfl (by omega) (by omega)
  refine lv_iadd hx hb dX10_isRight_7 ?_
  refine lv_topi (fun x_2 ex_2 => ?_)
  try have tx_2 : x_2.toInt = f.toInt + x_1.toInt := by rw [ex_2]; exact gz_addI (x := f.toInt) (y := x_1.toInt) rfl rfl (by omega) (by omega)
  refine gs_iald hx hb hK hM 36 0 (by decide) rfl (vp_in_iff.mpr ⟨by omega, by omega⟩) dX10_isRight_8 ?_
  refine lv_topi (fun x_3 ex_3 => ?_)
  have qx_3 : x_3.toInt = (st 36 0 (x_2.toNatClampNeg)).toInt := congrArg Int32.toInt ex_3
  have hO9 : x_3.toInt = (st 36 0 (x.toNatClampNeg + f.toNatClampNeg)).toInt := (by have c_x_2 := gs_cl (x := x_2) (by omega); have c_x := gs_cl (x := x) (by omega); have c_f := gs_cl (x := f) (by omega); rw [qx_3, show x_2.toNatClampNeg = x.toNatClampNeg + f.toNatClampNeg by omega])
  refine lv_istore (lv' := [(8, .int x_3), (0, .ref (ad 0 0)), (1, .int x), (2, .int y), (3, .ref (ad 36 0)), (4, .int f), (5, .int 1), (6, .ref (ad 35 0)), (7, .int g)]) hx hb dX10_isRight_9 hl (by decide) rfl (fun ls hl => ?_)
  refine lv_iload hx hb dX10_isRight_11 (lv_at hl 0 rfl) ?_
  refine lv_iload_n hx hb dX10_isRight_13 rfl (lv_at hl 3 rfl) ?_
  refine lv_icmp_ne (tgt := 19) hx hb dX10_isRight_14 (by decide) (fun c_4 => ?_) (fun c_4 => ?_)
  · have ic_4 := gz_ne (rfl : x_3.toInt = x_3.toInt) (rfl : y.toInt = y.toInt) c_4
    refine lv_bipush (v := 24) hx hb dX10_isRight_19 (by decide) ?_
    refine lv_aload_n hx hb dX10_isRight_21 rfl (lv_at hl 1 rfl) ?_
    refine gs_get (C := RX10) (T := TX10) (N := 59) hx hb hts inX10 hown hK hM 0 0 28 (by decide) rfl rfl (by decide) (hts _ gm_929) (fun _ h9 => h9) rfl dX10_isRight_22 ?_
    have bf_5 : (0 : Int) ≤ (st 0 0 28).toInt ∧ (st 0 0 28).toInt ≤ (1 : Int) := hB_st.1 0 0 28
    refine lv_imul hx hb dX10_isRight_25 ?_
    refine lv_topi (fun x_6 ex_6 => ?_)
    try have tx_6 : x_6.toInt = 24 * (st 0 0 28).toInt := by rw [ex_6]; exact gz_mulI (x := 24) (y := (st 0 0 28).toInt) (by decide) rfl (by omega) (by omega)
    refine lv_istore (lv' := [(9, .int x_6), (8, .int x_3), (0, .ref (ad 0 0)), (1, .int x), (2, .int y), (3, .ref (ad 36 0)), (4, .int f), (5, .int 1), (6, .ref (ad 35 0)), (7, .int g)]) hx hb dX10_isRight_26 hl (by decide) rfl (fun ls hl => ?_)
    have lp7 : ∀ (n7 : Nat)  (y7_0 : Int32) (H : Heap) (locs : List Loc) (ls : Array Slot), (48 - y7_0.toInt).toNat < n7 →  (24 * (bk : Int) ≤ y7_0.toInt) → (noR st (fun a9 => (st 36 0 (a9 + f.toNatClampNeg)).toInt) (fun a9 => (st 1 0 a9).toInt) (fun a9 => (st 35 0 (a9 + g.toNatClampNeg)).toInt) x.toNatClampNeg Xy (24 * bk) y7_0.toInt) → gM G (shM cy ad) cnM ad st H → va_S A s.heap H locs → lv_has ls 10 [(9, .int y7_0), (8, .int x_3), (0, .ref (ad 0 0)), (1, .int x), (2, .int y), (3, .ref (ad 36 0)), (4, .int f), (5, .int 1), (6, .ref (ad 35 0)), (7, .int g)] → W p l e ({ frames := 0, cells := 0, slots := 0, locals := 0 } : Room) s m [.ref (ad 0 0), .int x, .int y, .ref (ad 36 0), .int f, .int 1, .ref (ad 35 0), .int g].toArray below meth c H locs 0 0 Q (F0 m 28 ls []) := by
      intro n7
      induction n7 with
      | zero => intro  y7_0 H locs ls h9; exact absurd h9 (Nat.not_lt_zero _)
      | succ n7 ih_7 =>
        intro  y7_0 H locs ls hme7  hv7_0 hv7_1 hM hS hl
        refine lv_iload hx hb dX10_isRight_28 (lv_at hl 0 rfl) ?_
        refine lv_bipush (v := 24) hx hb dX10_isRight_30 (by decide) ?_
        refine lv_aload_n hx hb dX10_isRight_32 rfl (lv_at hl 2 rfl) ?_
        refine gs_get (C := RX10) (T := TX10) (N := 59) hx hb hts inX10 hown hK hM 0 0 28 (by decide) rfl rfl (by decide) (hts _ gm_929) (fun _ h9 => h9) rfl dX10_isRight_33 ?_
        have bf_8 : (0 : Int) ≤ (st 0 0 28).toInt ∧ (st 0 0 28).toInt ≤ (1 : Int) := hB_st.1 0 0 28
        refine lv_imul hx hb dX10_isRight_36 ?_
        refine lv_topi (fun x_9 ex_9 => ?_)
        try have tx_9 : x_9.toInt = 24 * (st 0 0 28).toInt := by rw [ex_9]; exact gz_mulI (x := 24) (y := (st 0 0 28).toInt) (by decide) rfl (by omega) (by omega)
        refine lv_aload_n hx hb dX10_isRight_37 rfl (lv_at hl 2 rfl) ?_
        refine gs_get (C := RX10) (T := TX10) (N := 59) hx hb hts inX10 hown hK hM 0 0 29 (by decide) rfl rfl (by decide) (hts _ gm_930) (fun _ h9 => h9) rfl dX10_isRight_38 ?_
        have bf_10 : (0 : Int) ≤ (st 0 0 29).toInt ∧ (st 0 0 29).toInt ≤ (20 : Int) := hB_st.1 0 0 29
        refine lv_iadd hx hb dX10_isRight_41 ?_
        refine lv_topi (fun x_11 ex_11 => ?_)
        try have tx_11 : x_11.toInt = x_9.toInt + (st 0 0 29).toInt := by rw [ex_11]; exact gz_addI (x := x_9.toInt) (y := (st 0 0 29).toInt) rfl rfl (by omega) (by omega)
        refine lv_icmp_ge (tgt := 189) hx hb dX10_isRight_42 (by decide) (fun c_12 => ?_) (fun c_12 => ?_)
        · have ic_12 := gz_le (rfl : x_11.toInt = x_11.toInt) (rfl : y7_0.toInt = y7_0.toInt) c_12
          refine lv_iconst (v := 0) hx hb dX10_isRight_189 (by decide) ?_
          rw [← hQe]
          exact gs_iret hx hb hr hlocks hM hS (by decide) ⟨hB_st, (Or.inr ⟨rfl, rtM.no hLM hwf (show ¬ (st 36 0 (x.toNatClampNeg + f.toNatClampNeg)).toInt = Xy by omega) hv7_1 (by omega)⟩)⟩ (by exact Nat.le_refl _) (by exact Nat.le_refl _) dX10_isRight_190
        · have ic_12 := gz_nle (rfl : x_11.toInt = x_11.toInt) (rfl : y7_0.toInt = y7_0.toInt) c_12
          have lc_12 := gi_hi x_11
          have jn13 : ∀   (H : Heap) (locs : List Loc) (ls : Array Slot),  (¬ hiW st x_3.toInt Xy y7_0.toNatClampNeg) → gM G (shM cy ad) cnM ad st H → va_S A s.heap H locs → lv_has ls 10 [(9, .int y7_0), (8, .int x_3), (0, .ref (ad 0 0)), (1, .int x), (2, .int y), (3, .ref (ad 36 0)), (4, .int f), (5, .int 1), (6, .ref (ad 35 0)), (7, .int g)] → W p l e ({ frames := 0, cells := 0, slots := 0, locals := 0 } : Room) s m [.ref (ad 0 0), .int x, .int y, .ref (ad 36 0), .int f, .int 1, .ref (ad 35 0), .int g].toArray below meth c H locs 0 0 Q (F0 m 109 ls []) := by
            intro   H locs ls  hv13_0 hM hS hl
            refine lv_aload_n hx hb dX10_isRight_109 rfl (lv_at hl 2 rfl) ?_
            refine gs_get (C := RX10) (T := TX10) (N := 59) hx hb hts inX10 hown hK hM 0 0 20 (by decide) rfl rfl (by decide) (hts _ gm_921) (fun _ h9 => h9) rfl dX10_isRight_110 ?_
            refine lv_iload hx hb dX10_isRight_113 (lv_at hl 0 rfl) ?_
            refine gs_iald hx hb hK hM 8 0 (by decide) rfl (vp_in_iff.mpr ⟨by omega, by omega⟩) dX10_isRight_115 ?_
            refine lv_topi (fun x_14 ex_14 => ?_)
            have qx_14 : x_14.toInt = (st 8 0 (y7_0.toNatClampNeg)).toInt := congrArg Int32.toInt ex_14
            refine lv_iconst (v := 4) hx hb dX10_isRight_116 (by decide) ?_
            refine lv_icmp_ne (tgt := 183) hx hb dX10_isRight_117 (by decide) (fun c_15 => ?_) (fun c_15 => ?_)
            · have ic_15 := gz_ne (rfl : x_14.toInt = x_14.toInt) (by decide : (4 : Int32).toInt = 4) c_15
              obtain ⟨x_16, ex_16⟩ : ∃ y : Int32, y = y7_0 + 1 := ⟨_, rfl⟩
              try have tx_16 : x_16.toInt = y7_0.toInt + 1 := by rw [ex_16]; exact gz_addP (x := y7_0.toInt) (y := 1) rfl (by decide) (by omega) (by omega)
              refine lv_iinc (v := (x_16)) (lv' := [(9, .int x_16), (8, .int x_3), (0, .ref (ad 0 0)), (1, .int x), (2, .int y), (3, .ref (ad 36 0)), (4, .int f), (5, .int 1), (6, .ref (ad 35 0)), (7, .int g)]) hx hb dX10_isRight_183 hl (k := 0) rfl (by rw [ex_16]; rfl) (by decide) rfl (fun ls hl => ?_)
              refine lv_goto (tgt := 28) hx hb dX10_isRight_186 (by decide) ?_
              exact ih_7  (x_16 : Int32) H _ ls (by omega)  (by omega) (noR.step hv7_1 (by omega) (by omega) hO9 hv13_0 (fun h9 => by obtain ⟨h8, h7, h6, h5, h4⟩ := h9; have h6 : ¬ (st 1 0 (st 9 0 y7_0.toNatClampNeg).toNatClampNeg).toInt = 0 := h6; have h5 : (st 35 0 ((st 9 0 y7_0.toNatClampNeg).toNatClampNeg + g.toNatClampNeg)).toInt = 0 := h5; have h4 : (st 36 0 ((st 9 0 y7_0.toNatClampNeg).toNatClampNeg + f.toNatClampNeg)).toInt = Xy := h4; omega)) hM hS (lv_sub hl [0, 1, 2, 3, 4, 5, 6, 7, 8, 9] rfl)
            · have ic_15 := gz_eqn (rfl : x_14.toInt = x_14.toInt) (by decide : (4 : Int32).toInt = 4) c_15
              refine lv_aload_n hx hb dX10_isRight_120 rfl (lv_at hl 2 rfl) ?_
              refine gs_get (C := RX10) (T := TX10) (N := 59) hx hb hts inX10 hown hK hM 0 0 22 (by decide) rfl rfl (by decide) (hts _ gm_923) (fun _ h9 => h9) rfl dX10_isRight_121 ?_
              refine lv_iload hx hb dX10_isRight_124 (lv_at hl 0 rfl) ?_
              refine gs_iald hx hb hK hM 10 0 (by decide) rfl (vp_in_iff.mpr ⟨by omega, by omega⟩) dX10_isRight_126 ?_
              refine lv_topi (fun x_17 ex_17 => ?_)
              have qx_17 : x_17.toInt = (st 10 0 (y7_0.toNatClampNeg)).toInt := congrArg Int32.toInt ex_17
              refine lv_iload_n hx hb dX10_isRight_127 rfl (lv_at hl 3 rfl) ?_
              refine lv_icmp_ne (tgt := 183) hx hb dX10_isRight_128 (by decide) (fun c_18 => ?_) (fun c_18 => ?_)
              · have ic_18 := gz_ne (rfl : x_17.toInt = x_17.toInt) (rfl : x.toInt = x.toInt) c_18
                obtain ⟨x_19, ex_19⟩ : ∃ y : Int32, y = y7_0 + 1 := ⟨_, rfl⟩
                try have tx_19 : x_19.toInt = y7_0.toInt + 1 := by rw [ex_19]; exact gz_addP (x := y7_0.toInt) (y := 1) rfl (by decide) (by omega) (by omega)
                refine lv_iinc (v := (x_19)) (lv' := [(9, .int x_19), (8, .int x_3), (0, .ref (ad 0 0)), (1, .int x), (2, .int y), (3, .ref (ad 36 0)), (4, .int f), (5, .int 1), (6, .ref (ad 35 0)), (7, .int g)]) hx hb dX10_isRight_183 hl (k := 0) rfl (by rw [ex_19]; rfl) (by decide) rfl (fun ls hl => ?_)
                refine lv_goto (tgt := 28) hx hb dX10_isRight_186 (by decide) ?_
                exact ih_7  (x_19 : Int32) H _ ls (by omega)  (by omega) (noR.step hv7_1 (by omega) (by omega) hO9 hv13_0 (fun h9 => by obtain ⟨h8, h7, h6, h5, h4⟩ := h9; have h6 : ¬ (st 1 0 (st 9 0 y7_0.toNatClampNeg).toNatClampNeg).toInt = 0 := h6; have h5 : (st 35 0 ((st 9 0 y7_0.toNatClampNeg).toNatClampNeg + g.toNatClampNeg)).toInt = 0 := h5; have h4 : (st 36 0 ((st 9 0 y7_0.toNatClampNeg).toNatClampNeg + f.toNatClampNeg)).toInt = Xy := h4; omega)) hM hS (lv_sub hl [0, 1, 2, 3, 4, 5, 6, 7, 8, 9] rfl)
              · have ic_18 := gz_eqn (rfl : x_17.toInt = x_17.toInt) (rfl : x.toInt = x.toInt) c_18
                refine lv_aload_n hx hb dX10_isRight_131 rfl (lv_at hl 2 rfl) ?_
                refine gs_get (C := RX10) (T := TX10) (N := 59) hx hb hts inX10 hown hK hM 0 0 1 (by decide) rfl rfl (by decide) (hts _ gm_902) (fun _ h9 => h9) rfl dX10_isRight_132 ?_
                refine lv_aload_n hx hb dX10_isRight_135 rfl (lv_at hl 2 rfl) ?_
                refine gs_get (C := RX10) (T := TX10) (N := 59) hx hb hts inX10 hown hK hM 0 0 21 (by decide) rfl rfl (by decide) (hts _ gm_922) (fun _ h9 => h9) rfl dX10_isRight_136 ?_
                refine lv_iload hx hb dX10_isRight_139 (lv_at hl 0 rfl) ?_
                refine gs_iald hx hb hK hM 9 0 (by decide) rfl (vp_in_iff.mpr ⟨by omega, by omega⟩) dX10_isRight_141 ?_
                refine lv_topi (fun x_20 ex_20 => ?_)
                have qx_20 : x_20.toInt = (st 9 0 (y7_0.toNatClampNeg)).toInt := congrArg Int32.toInt ex_20
                have bx_20 : (0 : Int) ≤ x_20.toInt ∧ x_20.toInt ≤ (5 : Int) := by rw [qx_20]; exact hB_st.1 9 0 (y7_0.toNatClampNeg)
                refine gs_zald hx hb hK hM 1 0 (by decide) rfl (vp_in_iff.mpr ⟨by omega, by omega⟩) dX10_isRight_142 ?_
                refine lv_topi (fun x_21 ex_21 => ?_)
                have qx_21 : x_21.toInt = (st 1 0 (x_20.toNatClampNeg)).toInt := congrArg Int32.toInt ex_21
                have hj_x_21 : x_21.toInt = (st 1 0 (st 9 0 y7_0.toNatClampNeg).toNatClampNeg).toInt := (by have ej : x_20 = st 9 0 y7_0.toNatClampNeg := ex_20; rw [qx_21, ej])
                refine lv_if_eq (tgt := 183) hx hb dX10_isRight_143 (by decide) (fun c_22 => ?_) (fun c_22 => ?_)
                · have ic_22 := gz_eq (rfl : x_21.toInt = x_21.toInt) (by decide : (0 : Int32).toInt = 0) c_22
                  obtain ⟨x_23, ex_23⟩ : ∃ y : Int32, y = y7_0 + 1 := ⟨_, rfl⟩
                  try have tx_23 : x_23.toInt = y7_0.toInt + 1 := by rw [ex_23]; exact gz_addP (x := y7_0.toInt) (y := 1) rfl (by decide) (by omega) (by omega)
                  refine lv_iinc (v := (x_23)) (lv' := [(9, .int x_23), (8, .int x_3), (0, .ref (ad 0 0)), (1, .int x), (2, .int y), (3, .ref (ad 36 0)), (4, .int f), (5, .int 1), (6, .ref (ad 35 0)), (7, .int g)]) hx hb dX10_isRight_183 hl (k := 0) rfl (by rw [ex_23]; rfl) (by decide) rfl (fun ls hl => ?_)
                  refine lv_goto (tgt := 28) hx hb dX10_isRight_186 (by decide) ?_
                  exact ih_7  (x_23 : Int32) H _ ls (by omega)  (by omega) (noR.step hv7_1 (by omega) (by omega) hO9 hv13_0 (fun h9 => by obtain ⟨h8, h7, h6, h5, h4⟩ := h9; have h6 : ¬ (st 1 0 (st 9 0 y7_0.toNatClampNeg).toNatClampNeg).toInt = 0 := h6; have h5 : (st 35 0 ((st 9 0 y7_0.toNatClampNeg).toNatClampNeg + g.toNatClampNeg)).toInt = 0 := h5; have h4 : (st 36 0 ((st 9 0 y7_0.toNatClampNeg).toNatClampNeg + f.toNatClampNeg)).toInt = Xy := h4; omega)) hM hS (lv_sub hl [0, 1, 2, 3, 4, 5, 6, 7, 8, 9] rfl)
                · have ic_22 := gz_ne (rfl : x_21.toInt = x_21.toInt) (by decide : (0 : Int32).toInt = 0) c_22
                  refine lv_aload hx hb dX10_isRight_146 (lv_at hl 8 rfl) ?_
                  refine lv_iload hx hb dX10_isRight_148 (lv_at hl 9 rfl) ?_
                  refine lv_aload_n hx hb dX10_isRight_150 rfl (lv_at hl 2 rfl) ?_
                  refine gs_get (C := RX10) (T := TX10) (N := 59) hx hb hts inX10 hown hK hM 0 0 21 (by decide) rfl rfl (by decide) (hts _ gm_922) (fun _ h9 => h9) rfl dX10_isRight_151 ?_
                  refine lv_iload hx hb dX10_isRight_154 (lv_at hl 0 rfl) ?_
                  refine gs_iald hx hb hK hM 9 0 (by decide) rfl (vp_in_iff.mpr ⟨by omega, by omega⟩) dX10_isRight_156 ?_
                  refine lv_topi (fun x_24 ex_24 => ?_)
                  have qx_24 : x_24.toInt = (st 9 0 (y7_0.toNatClampNeg)).toInt := congrArg Int32.toInt ex_24
                  have bx_24 : (0 : Int) ≤ x_24.toInt ∧ x_24.toInt ≤ (5 : Int) := by rw [qx_24]; exact hB_st.1 9 0 (y7_0.toNatClampNeg)
                  refine lv_iadd hx hb dX10_isRight_157 ?_
                  refine lv_topi (fun x_25 ex_25 => ?_)
                  try have tx_25 : x_25.toInt = g.toInt + x_24.toInt := by rw [ex_25]; exact gz_addI (x := g.toInt) (y := x_24.toInt) rfl rfl (by omega) (by omega)
                  refine gs_iald hx hb hK hM 35 0 (by decide) rfl (vp_in_iff.mpr ⟨by omega, by omega⟩) dX10_isRight_158 ?_
                  refine lv_topi (fun x_26 ex_26 => ?_)
                  have qx_26 : x_26.toInt = (st 35 0 (x_25.toNatClampNeg)).toInt := congrArg Int32.toInt ex_26
                  have hj_x_26 : x_26.toInt = (st 35 0 ((st 9 0 y7_0.toNatClampNeg).toNatClampNeg + g.toNatClampNeg)).toInt := (by have ej : x_24 = st 9 0 y7_0.toNatClampNeg := ex_24; have c_x_25 := gs_cl (x := x_25) (by omega); have c_x_24 := gs_cl (x := x_24) (by omega); have c_g := gs_cl (x := g) (by omega); rw [qx_26, show x_25.toNatClampNeg = x_24.toNatClampNeg + g.toNatClampNeg by omega, ej])
                  refine lv_if_ne (tgt := 183) hx hb dX10_isRight_159 (by decide) (fun c_27 => ?_) (fun c_27 => ?_)
                  · have ic_27 := gz_ne (rfl : x_26.toInt = x_26.toInt) (by decide : (0 : Int32).toInt = 0) c_27
                    obtain ⟨x_28, ex_28⟩ : ∃ y : Int32, y = y7_0 + 1 := ⟨_, rfl⟩
                    try have tx_28 : x_28.toInt = y7_0.toInt + 1 := by rw [ex_28]; exact gz_addP (x := y7_0.toInt) (y := 1) rfl (by decide) (by omega) (by omega)
                    refine lv_iinc (v := (x_28)) (lv' := [(9, .int x_28), (8, .int x_3), (0, .ref (ad 0 0)), (1, .int x), (2, .int y), (3, .ref (ad 36 0)), (4, .int f), (5, .int 1), (6, .ref (ad 35 0)), (7, .int g)]) hx hb dX10_isRight_183 hl (k := 0) rfl (by rw [ex_28]; rfl) (by decide) rfl (fun ls hl => ?_)
                    refine lv_goto (tgt := 28) hx hb dX10_isRight_186 (by decide) ?_
                    exact ih_7  (x_28 : Int32) H _ ls (by omega)  (by omega) (noR.step hv7_1 (by omega) (by omega) hO9 hv13_0 (fun h9 => by obtain ⟨h8, h7, h6, h5, h4⟩ := h9; have h6 : ¬ (st 1 0 (st 9 0 y7_0.toNatClampNeg).toNatClampNeg).toInt = 0 := h6; have h5 : (st 35 0 ((st 9 0 y7_0.toNatClampNeg).toNatClampNeg + g.toNatClampNeg)).toInt = 0 := h5; have h4 : (st 36 0 ((st 9 0 y7_0.toNatClampNeg).toNatClampNeg + f.toNatClampNeg)).toInt = Xy := h4; omega)) hM hS (lv_sub hl [0, 1, 2, 3, 4, 5, 6, 7, 8, 9] rfl)
                  · have ic_27 := gz_eqn (rfl : x_26.toInt = x_26.toInt) (by decide : (0 : Int32).toInt = 0) c_27
                    refine lv_aload_n hx hb dX10_isRight_162 rfl (lv_at hl 5 rfl) ?_
                    refine lv_iload hx hb dX10_isRight_163 (lv_at hl 6 rfl) ?_
                    refine lv_iload hx hb dX10_isRight_165 (lv_at hl 7 rfl) ?_
                    refine lv_aload_n hx hb dX10_isRight_167 rfl (lv_at hl 2 rfl) ?_
                    refine gs_get (C := RX10) (T := TX10) (N := 59) hx hb hts inX10 hown hK hM 0 0 21 (by decide) rfl rfl (by decide) (hts _ gm_922) (fun _ h9 => h9) rfl dX10_isRight_168 ?_
                    refine lv_iload hx hb dX10_isRight_171 (lv_at hl 0 rfl) ?_
                    refine gs_iald hx hb hK hM 9 0 (by decide) rfl (vp_in_iff.mpr ⟨by omega, by omega⟩) dX10_isRight_173 ?_
                    refine lv_topi (fun x_29 ex_29 => ?_)
                    have qx_29 : x_29.toInt = (st 9 0 (y7_0.toNatClampNeg)).toInt := congrArg Int32.toInt ex_29
                    have bx_29 : (0 : Int) ≤ x_29.toInt ∧ x_29.toInt ≤ (5 : Int) := by rw [qx_29]; exact hB_st.1 9 0 (y7_0.toNatClampNeg)
                    refine lv_imul hx hb dX10_isRight_174 ?_
                    refine lv_topi (fun x_30 ex_30 => ?_)
                    try have tx_30 : x_30.toInt = 1 * x_29.toInt := by rw [ex_30]; exact gz_mulI (x := 1) (y := x_29.toInt) (by decide) rfl (by omega) (by omega)
                    refine lv_iadd hx hb dX10_isRight_175 ?_
                    refine lv_topi (fun x_31 ex_31 => ?_)
                    try have tx_31 : x_31.toInt = f.toInt + x_30.toInt := by rw [ex_31]; exact gz_addI (x := f.toInt) (y := x_30.toInt) rfl rfl (by omega) (by omega)
                    refine gs_iald hx hb hK hM 36 0 (by decide) rfl (vp_in_iff.mpr ⟨by omega, by omega⟩) dX10_isRight_176 ?_
                    refine lv_topi (fun x_32 ex_32 => ?_)
                    have qx_32 : x_32.toInt = (st 36 0 (x_31.toNatClampNeg)).toInt := congrArg Int32.toInt ex_32
                    have hj_x_32 : x_32.toInt = (st 36 0 ((st 9 0 y7_0.toNatClampNeg).toNatClampNeg + f.toNatClampNeg)).toInt := (by have ej : x_29 = st 9 0 y7_0.toNatClampNeg := ex_29; have c_x_31 := gs_cl (x := x_31) (by omega); have c_x_29 := gs_cl (x := x_29) (by omega); have c_f := gs_cl (x := f) (by omega); rw [qx_32, show x_31.toNatClampNeg = x_29.toNatClampNeg + f.toNatClampNeg by omega, ej])
                    refine lv_iload_n hx hb dX10_isRight_177 rfl (lv_at hl 4 rfl) ?_
                    refine lv_icmp_ne (tgt := 183) hx hb dX10_isRight_178 (by decide) (fun c_33 => ?_) (fun c_33 => ?_)
                    · have ic_33 := gz_ne (rfl : x_32.toInt = x_32.toInt) (rfl : y.toInt = y.toInt) c_33
                      obtain ⟨x_34, ex_34⟩ : ∃ y : Int32, y = y7_0 + 1 := ⟨_, rfl⟩
                      try have tx_34 : x_34.toInt = y7_0.toInt + 1 := by rw [ex_34]; exact gz_addP (x := y7_0.toInt) (y := 1) rfl (by decide) (by omega) (by omega)
                      refine lv_iinc (v := (x_34)) (lv' := [(9, .int x_34), (8, .int x_3), (0, .ref (ad 0 0)), (1, .int x), (2, .int y), (3, .ref (ad 36 0)), (4, .int f), (5, .int 1), (6, .ref (ad 35 0)), (7, .int g)]) hx hb dX10_isRight_183 hl (k := 0) rfl (by rw [ex_34]; rfl) (by decide) rfl (fun ls hl => ?_)
                      refine lv_goto (tgt := 28) hx hb dX10_isRight_186 (by decide) ?_
                      exact ih_7  (x_34 : Int32) H _ ls (by omega)  (by omega) (noR.step hv7_1 (by omega) (by omega) hO9 hv13_0 (fun h9 => by obtain ⟨h8, h7, h6, h5, h4⟩ := h9; have h6 : ¬ (st 1 0 (st 9 0 y7_0.toNatClampNeg).toNatClampNeg).toInt = 0 := h6; have h5 : (st 35 0 ((st 9 0 y7_0.toNatClampNeg).toNatClampNeg + g.toNatClampNeg)).toInt = 0 := h5; have h4 : (st 36 0 ((st 9 0 y7_0.toNatClampNeg).toNatClampNeg + f.toNatClampNeg)).toInt = Xy := h4; omega)) hM hS (lv_sub hl [0, 1, 2, 3, 4, 5, 6, 7, 8, 9] rfl)
                    · have ic_33 := gz_eqn (rfl : x_32.toInt = x_32.toInt) (rfl : y.toInt = y.toInt) c_33
                      refine lv_iconst (v := 1) hx hb dX10_isRight_181 (by decide) ?_
                      rw [← hQe]
                      exact gs_iret hx hb hr hlocks hM hS (by decide) ⟨hB_st, (Or.inl ⟨rfl, rtM.dry (y := y7_0) hLM hwf (by omega) (by omega) ⟨by omega, by omega, (show ¬ (st 1 0 (st 9 0 y7_0.toNatClampNeg).toNatClampNeg).toInt = 0 by omega), (show (st 35 0 ((st 9 0 y7_0.toNatClampNeg).toNatClampNeg + g.toNatClampNeg)).toInt = 0 by omega), (show (st 36 0 ((st 9 0 y7_0.toNatClampNeg).toNatClampNeg + f.toNatClampNeg)).toInt = Xy by omega)⟩⟩)⟩ (by exact Nat.le_refl _) (by exact Nat.le_refl _) dX10_isRight_182
          refine lv_aload_n hx hb dX10_isRight_45 rfl (lv_at hl 2 rfl) ?_
          refine gs_get (C := RX10) (T := TX10) (N := 59) hx hb hts inX10 hown hK hM 0 0 20 (by decide) rfl rfl (by decide) (hts _ gm_921) (fun _ h9 => h9) rfl dX10_isRight_46 ?_
          refine lv_iload hx hb dX10_isRight_49 (lv_at hl 0 rfl) ?_
          refine gs_iald hx hb hK hM 8 0 (by decide) rfl (vp_in_iff.mpr ⟨by omega, by omega⟩) dX10_isRight_51 ?_
          refine lv_topi (fun x_35 ex_35 => ?_)
          have qx_35 : x_35.toInt = (st 8 0 (y7_0.toNatClampNeg)).toInt := congrArg Int32.toInt ex_35
          refine lv_iconst (v := 2) hx hb dX10_isRight_52 (by decide) ?_
          refine lv_icmp_ne (tgt := 109) hx hb dX10_isRight_53 (by decide) (fun c_36 => ?_) (fun c_36 => ?_)
          · have ic_36 := gz_ne (rfl : x_35.toInt = x_35.toInt) (by decide : (2 : Int32).toInt = 2) c_36
            exact jn13   H _ ls  (fun h9 => by obtain ⟨h8, h7, h6⟩ := h9; omega) hM hS (lv_sub hl [0, 1, 2, 3, 4, 5, 6, 7, 8, 9] rfl)
          · have ic_36 := gz_eqn (rfl : x_35.toInt = x_35.toInt) (by decide : (2 : Int32).toInt = 2) c_36
            refine lv_iload hx hb dX10_isRight_56 (lv_at hl 1 rfl) ?_
            refine lv_if_lt (tgt := 109) hx hb dX10_isRight_58 (by decide) (fun c_37 => ?_) (fun c_37 => ?_)
            · have ic_37 := gz_lt (rfl : x_3.toInt = x_3.toInt) (by decide : (0 : Int32).toInt = 0) c_37
              exact jn13   H _ ls  (fun h9 => by obtain ⟨h8, h7, h6⟩ := h9; omega) hM hS (lv_sub hl [0, 1, 2, 3, 4, 5, 6, 7, 8, 9] rfl)
            · have ic_37 := gz_nlt (rfl : x_3.toInt = x_3.toInt) (by decide : (0 : Int32).toInt = 0) c_37
              refine lv_aload_n hx hb dX10_isRight_61 rfl (lv_at hl 2 rfl) ?_
              refine gs_get (C := RX10) (T := TX10) (N := 59) hx hb hts inX10 hown hK hM 0 0 21 (by decide) rfl rfl (by decide) (hts _ gm_922) (fun _ h9 => h9) rfl dX10_isRight_62 ?_
              refine lv_iload hx hb dX10_isRight_65 (lv_at hl 0 rfl) ?_
              refine gs_iald hx hb hK hM 9 0 (by decide) rfl (vp_in_iff.mpr ⟨by omega, by omega⟩) dX10_isRight_67 ?_
              refine lv_topi (fun x_38 ex_38 => ?_)
              have qx_38 : x_38.toInt = (st 9 0 (y7_0.toNatClampNeg)).toInt := congrArg Int32.toInt ex_38
              have bx_38 : (0 : Int) ≤ x_38.toInt ∧ x_38.toInt ≤ (5 : Int) := by rw [qx_38]; exact hB_st.1 9 0 (y7_0.toNatClampNeg)
              refine lv_iload_n hx hb dX10_isRight_68 rfl (lv_at hl 4 rfl) ?_
              refine lv_icmp_ne (tgt := 84) hx hb dX10_isRight_69 (by decide) (fun c_39 => ?_) (fun c_39 => ?_)
              · have ic_39 := gz_ne (rfl : x_38.toInt = x_38.toInt) (rfl : y.toInt = y.toInt) c_39
                refine lv_aload_n hx hb dX10_isRight_84 rfl (lv_at hl 2 rfl) ?_
                refine gs_get (C := RX10) (T := TX10) (N := 59) hx hb hts inX10 hown hK hM 0 0 22 (by decide) rfl rfl (by decide) (hts _ gm_923) (fun _ h9 => h9) rfl dX10_isRight_85 ?_
                refine lv_iload hx hb dX10_isRight_88 (lv_at hl 0 rfl) ?_
                refine gs_iald hx hb hK hM 10 0 (by decide) rfl (vp_in_iff.mpr ⟨by omega, by omega⟩) dX10_isRight_90 ?_
                refine lv_topi (fun x_40 ex_40 => ?_)
                have qx_40 : x_40.toInt = (st 10 0 (y7_0.toNatClampNeg)).toInt := congrArg Int32.toInt ex_40
                refine lv_iload_n hx hb dX10_isRight_91 rfl (lv_at hl 4 rfl) ?_
                refine lv_icmp_ne (tgt := 109) hx hb dX10_isRight_92 (by decide) (fun c_41 => ?_) (fun c_41 => ?_)
                · have ic_41 := gz_ne (rfl : x_40.toInt = x_40.toInt) (rfl : y.toInt = y.toInt) c_41
                  exact jn13   H _ ls  (fun h9 => by obtain ⟨h8, h7, h6⟩ := h9; omega) hM hS (lv_sub hl [0, 1, 2, 3, 4, 5, 6, 7, 8, 9] rfl)
                · have ic_41 := gz_eqn (rfl : x_40.toInt = x_40.toInt) (rfl : y.toInt = y.toInt) c_41
                  refine lv_aload_n hx hb dX10_isRight_95 rfl (lv_at hl 2 rfl) ?_
                  refine gs_get (C := RX10) (T := TX10) (N := 59) hx hb hts inX10 hown hK hM 0 0 21 (by decide) rfl rfl (by decide) (hts _ gm_922) (fun _ h9 => h9) rfl dX10_isRight_96 ?_
                  refine lv_iload hx hb dX10_isRight_99 (lv_at hl 0 rfl) ?_
                  refine gs_iald hx hb hK hM 9 0 (by decide) rfl (vp_in_iff.mpr ⟨by omega, by omega⟩) dX10_isRight_101 ?_
                  refine lv_topi (fun x_42 ex_42 => ?_)
                  have qx_42 : x_42.toInt = (st 9 0 (y7_0.toNatClampNeg)).toInt := congrArg Int32.toInt ex_42
                  have bx_42 : (0 : Int) ≤ x_42.toInt ∧ x_42.toInt ≤ (5 : Int) := by rw [qx_42]; exact hB_st.1 9 0 (y7_0.toNatClampNeg)
                  refine lv_iload hx hb dX10_isRight_102 (lv_at hl 1 rfl) ?_
                  refine lv_icmp_ne (tgt := 109) hx hb dX10_isRight_104 (by decide) (fun c_43 => ?_) (fun c_43 => ?_)
                  · have ic_43 := gz_ne (rfl : x_42.toInt = x_42.toInt) (rfl : x_3.toInt = x_3.toInt) c_43
                    exact jn13   H _ ls  (fun h9 => by obtain ⟨h8, h7, h6⟩ := h9; omega) hM hS (lv_sub hl [0, 1, 2, 3, 4, 5, 6, 7, 8, 9] rfl)
                  · have ic_43 := gz_eqn (rfl : x_42.toInt = x_42.toInt) (rfl : x_3.toInt = x_3.toInt) c_43
                    refine lv_iconst (v := 1) hx hb dX10_isRight_107 (by decide) ?_
                    rw [← hQe]
                    exact gs_iret hx hb hr hlocks hM hS (by decide) ⟨hB_st, (Or.inl ⟨rfl, rtM.wed (y := y7_0) hLM (by omega) (by omega) hO9 ⟨by omega, by omega, by omega⟩⟩)⟩ (by exact Nat.le_refl _) (by exact Nat.le_refl _) dX10_isRight_108
              · have ic_39 := gz_eqn (rfl : x_38.toInt = x_38.toInt) (rfl : y.toInt = y.toInt) c_39
                refine lv_aload_n hx hb dX10_isRight_72 rfl (lv_at hl 2 rfl) ?_
                refine gs_get (C := RX10) (T := TX10) (N := 59) hx hb hts inX10 hown hK hM 0 0 22 (by decide) rfl rfl (by decide) (hts _ gm_923) (fun _ h9 => h9) rfl dX10_isRight_73 ?_
                refine lv_iload hx hb dX10_isRight_76 (lv_at hl 0 rfl) ?_
                refine gs_iald hx hb hK hM 10 0 (by decide) rfl (vp_in_iff.mpr ⟨by omega, by omega⟩) dX10_isRight_78 ?_
                refine lv_topi (fun x_44 ex_44 => ?_)
                have qx_44 : x_44.toInt = (st 10 0 (y7_0.toNatClampNeg)).toInt := congrArg Int32.toInt ex_44
                refine lv_iload hx hb dX10_isRight_79 (lv_at hl 1 rfl) ?_
                refine lv_icmp_eq (tgt := 107) hx hb dX10_isRight_81 (by decide) (fun c_45 => ?_) (fun c_45 => ?_)
                · have ic_45 := gz_eq (rfl : x_44.toInt = x_44.toInt) (rfl : x_3.toInt = x_3.toInt) c_45
                  refine lv_iconst (v := 1) hx hb dX10_isRight_107 (by decide) ?_
                  rw [← hQe]
                  exact gs_iret hx hb hr hlocks hM hS (by decide) ⟨hB_st, (Or.inl ⟨rfl, rtM.wed (y := y7_0) hLM (by omega) (by omega) hO9 ⟨by omega, by omega, by omega⟩⟩)⟩ (by exact Nat.le_refl _) (by exact Nat.le_refl _) dX10_isRight_108
                · have ic_45 := gz_ne (rfl : x_44.toInt = x_44.toInt) (rfl : x_3.toInt = x_3.toInt) c_45
                  refine lv_aload_n hx hb dX10_isRight_84 rfl (lv_at hl 2 rfl) ?_
                  refine gs_get (C := RX10) (T := TX10) (N := 59) hx hb hts inX10 hown hK hM 0 0 22 (by decide) rfl rfl (by decide) (hts _ gm_923) (fun _ h9 => h9) rfl dX10_isRight_85 ?_
                  refine lv_iload hx hb dX10_isRight_88 (lv_at hl 0 rfl) ?_
                  refine gs_iald hx hb hK hM 10 0 (by decide) rfl (vp_in_iff.mpr ⟨by omega, by omega⟩) dX10_isRight_90 ?_
                  refine lv_topi (fun x_46 ex_46 => ?_)
                  have qx_46 : x_46.toInt = (st 10 0 (y7_0.toNatClampNeg)).toInt := congrArg Int32.toInt ex_46
                  refine lv_iload_n hx hb dX10_isRight_91 rfl (lv_at hl 4 rfl) ?_
                  refine lv_icmp_ne (tgt := 109) hx hb dX10_isRight_92 (by decide) (fun c_47 => ?_) (fun c_47 => ?_)
                  · have ic_47 := gz_ne (rfl : x_46.toInt = x_46.toInt) (rfl : y.toInt = y.toInt) c_47
                    exact jn13   H _ ls  (fun h9 => by obtain ⟨h8, h7, h6⟩ := h9; omega) hM hS (lv_sub hl [0, 1, 2, 3, 4, 5, 6, 7, 8, 9] rfl)
                  · have ic_47 := gz_eqn (rfl : x_46.toInt = x_46.toInt) (rfl : y.toInt = y.toInt) c_47
                    refine lv_aload_n hx hb dX10_isRight_95 rfl (lv_at hl 2 rfl) ?_
                    refine gs_get (C := RX10) (T := TX10) (N := 59) hx hb hts inX10 hown hK hM 0 0 21 (by decide) rfl rfl (by decide) (hts _ gm_922) (fun _ h9 => h9) rfl dX10_isRight_96 ?_
                    refine lv_iload hx hb dX10_isRight_99 (lv_at hl 0 rfl) ?_
                    refine gs_iald hx hb hK hM 9 0 (by decide) rfl (vp_in_iff.mpr ⟨by omega, by omega⟩) dX10_isRight_101 ?_
                    refine lv_topi (fun x_48 ex_48 => ?_)
                    have qx_48 : x_48.toInt = (st 9 0 (y7_0.toNatClampNeg)).toInt := congrArg Int32.toInt ex_48
                    have bx_48 : (0 : Int) ≤ x_48.toInt ∧ x_48.toInt ≤ (5 : Int) := by rw [qx_48]; exact hB_st.1 9 0 (y7_0.toNatClampNeg)
                    refine lv_iload hx hb dX10_isRight_102 (lv_at hl 1 rfl) ?_
                    refine lv_icmp_ne (tgt := 109) hx hb dX10_isRight_104 (by decide) (fun c_49 => ?_) (fun c_49 => ?_)
                    · have ic_49 := gz_ne (rfl : x_48.toInt = x_48.toInt) (rfl : x_3.toInt = x_3.toInt) c_49
                      exact jn13   H _ ls  (fun h9 => by obtain ⟨h8, h7, h6⟩ := h9; omega) hM hS (lv_sub hl [0, 1, 2, 3, 4, 5, 6, 7, 8, 9] rfl)
                    · have ic_49 := gz_eqn (rfl : x_48.toInt = x_48.toInt) (rfl : x_3.toInt = x_3.toInt) c_49
                      refine lv_iconst (v := 1) hx hb dX10_isRight_107 (by decide) ?_
                      rw [← hQe]
                      exact gs_iret hx hb hr hlocks hM hS (by decide) ⟨hB_st, (Or.inl ⟨rfl, rtM.wed (y := y7_0) hLM (by omega) (by omega) hO9 ⟨by omega, by omega, by omega⟩⟩)⟩ (by exact Nat.le_refl _) (by exact Nat.le_refl _) dX10_isRight_108
    exact lp7 ((48 - (x_6 : Int32).toInt).toNat + 1)  (x_6 : Int32) H _ ls (Nat.lt_succ_self _)  (by omega) (noR.nil (by omega)) hM hS (lv_sub hl [0, 1, 2, 3, 4, 5, 6, 7, 8, 9] rfl)
  · have ic_4 := gz_eqn (rfl : x_3.toInt = x_3.toInt) (rfl : y.toInt = y.toInt) c_4
    refine lv_iconst (v := 1) hx hb dX10_isRight_17 (by decide) ?_
    rw [← hQe]
    exact gs_iret hx hb hr hlocks hM hS (by decide) ⟨hB_st, (Or.inl ⟨rfl, Or.inl (show (st 36 0 (x.toNatClampNeg + f.toNatClampNeg)).toInt = Xy by omega)⟩)⟩ (by exact Nat.le_refl _) (by exact Nat.le_refl _) dX10_isRight_18
