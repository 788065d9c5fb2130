theorem dX6_perform_0 : decode cX6_perform 0 = .ok (.iload_n 1, 1) := by decide +kernel
theorem dX6_perform_1 : decode cX6_perform 1 = .ok (.invokestatic 94, 3) := by decide +kernel
theorem dX6_perform_4 : decode cX6_perform 4 = .ok (.istore_n 3, 1) := by decide +kernel
theorem dX6_perform_5 : decode cX6_perform 5 = .ok (.iload_n 1, 1) := by decide +kernel
theorem dX6_perform_6 : decode cX6_perform 6 = .ok (.iconst 4, 1) := by decide +kernel
theorem dX6_perform_7 : decode cX6_perform 7 = .ok (.irem, 1) := by decide +kernel
theorem dX6_perform_8 : decode cX6_perform 8 = .ok (.istore 4, 2) := by decide +kernel
theorem dX6_perform_10 : decode cX6_perform 10 = .ok (.aload_n 0, 1) := by decide +kernel
theorem dX6_perform_11 : decode cX6_perform 11 = .ok (.getfield 23, 3) := by decide +kernel
theorem dX6_perform_14 : decode cX6_perform 14 = .ok (.iload_n 3, 1) := by decide +kernel
theorem dX6_perform_15 : decode cX6_perform 15 = .ok (.iconst 1, 1) := by decide +kernel
theorem dX6_perform_16 : decode cX6_perform 16 = .ok (.isub, 1) := by decide +kernel
theorem dX6_perform_17 : decode cX6_perform 17 = .ok (.aaload, 1) := by decide +kernel
theorem dX6_perform_18 : decode cX6_perform 18 = .ok (.iload 4, 2) := by decide +kernel
theorem dX6_perform_20 : decode cX6_perform 20 = .ok (.iaload, 1) := by decide +kernel
theorem dX6_perform_21 : decode cX6_perform 21 = .ok (.istore 5, 2) := by decide +kernel
theorem dX6_perform_23 : decode cX6_perform 23 = .ok (.aload_n 0, 1) := by decide +kernel
theorem dX6_perform_24 : decode cX6_perform 24 = .ok (.getfield 32, 3) := by decide +kernel
theorem dX6_perform_27 : decode cX6_perform 27 = .ok (.iload_n 1, 1) := by decide +kernel
theorem dX6_perform_28 : decode cX6_perform 28 = .ok (.iload_n 2, 1) := by decide +kernel
theorem dX6_perform_29 : decode cX6_perform 29 = .ok (.iastore, 1) := by decide +kernel
theorem dX6_perform_30 : decode cX6_perform 30 = .ok (.aload_n 0, 1) := by decide +kernel
theorem dX6_perform_31 : decode cX6_perform 31 = .ok (.getfield 23, 3) := by decide +kernel
theorem dX6_perform_34 : decode cX6_perform 34 = .ok (.iload_n 3, 1) := by decide +kernel
theorem dX6_perform_35 : decode cX6_perform 35 = .ok (.aaload, 1) := by decide +kernel
theorem dX6_perform_36 : decode cX6_perform 36 = .ok (.iload 4, 2) := by decide +kernel
theorem dX6_perform_38 : decode cX6_perform 38 = .ok (.iload 5, 2) := by decide +kernel
theorem dX6_perform_40 : decode cX6_perform 40 = .ok (.iastore, 1) := by decide +kernel
theorem dX6_perform_41 : decode cX6_perform 41 = .ok (.aload_n 0, 1) := by decide +kernel
theorem dX6_perform_42 : decode cX6_perform 42 = .ok (.getfield 26, 3) := by decide +kernel
theorem dX6_perform_45 : decode cX6_perform 45 = .ok (.iload_n 3, 1) := by decide +kernel
theorem dX6_perform_46 : decode cX6_perform 46 = .ok (.aaload, 1) := by decide +kernel
theorem dX6_perform_47 : decode cX6_perform 47 = .ok (.iload 4, 2) := by decide +kernel
theorem dX6_perform_49 : decode cX6_perform 49 = .ok (.aload_n 0, 1) := by decide +kernel
theorem dX6_perform_50 : decode cX6_perform 50 = .ok (.getfield 26, 3) := by decide +kernel
theorem dX6_perform_53 : decode cX6_perform 53 = .ok (.iload_n 3, 1) := by decide +kernel
theorem dX6_perform_54 : decode cX6_perform 54 = .ok (.iconst 1, 1) := by decide +kernel
theorem dX6_perform_55 : decode cX6_perform 55 = .ok (.isub, 1) := by decide +kernel
theorem dX6_perform_56 : decode cX6_perform 56 = .ok (.aaload, 1) := by decide +kernel
theorem dX6_perform_57 : decode cX6_perform 57 = .ok (.iload 4, 2) := by decide +kernel
theorem dX6_perform_59 : decode cX6_perform 59 = .ok (.iaload, 1) := by decide +kernel
theorem dX6_perform_60 : decode cX6_perform 60 = .ok (.iastore, 1) := by decide +kernel
theorem dX6_perform_61 : decode cX6_perform 61 = .ok (.aload_n 0, 1) := by decide +kernel
theorem dX6_perform_62 : decode cX6_perform 62 = .ok (.getfield 29, 3) := by decide +kernel
theorem dX6_perform_65 : decode cX6_perform 65 = .ok (.iload_n 3, 1) := by decide +kernel
theorem dX6_perform_66 : decode cX6_perform 66 = .ok (.aaload, 1) := by decide +kernel
theorem dX6_perform_67 : decode cX6_perform 67 = .ok (.iload 4, 2) := by decide +kernel
theorem dX6_perform_69 : decode cX6_perform 69 = .ok (.aload_n 0, 1) := by decide +kernel
theorem dX6_perform_70 : decode cX6_perform 70 = .ok (.getfield 29, 3) := by decide +kernel
theorem dX6_perform_73 : decode cX6_perform 73 = .ok (.iload_n 3, 1) := by decide +kernel
theorem dX6_perform_74 : decode cX6_perform 74 = .ok (.iconst 1, 1) := by decide +kernel
theorem dX6_perform_75 : decode cX6_perform 75 = .ok (.isub, 1) := by decide +kernel
theorem dX6_perform_76 : decode cX6_perform 76 = .ok (.aaload, 1) := by decide +kernel
theorem dX6_perform_77 : decode cX6_perform 77 = .ok (.iload 4, 2) := by decide +kernel
theorem dX6_perform_79 : decode cX6_perform 79 = .ok (.iaload, 1) := by decide +kernel
theorem dX6_perform_80 : decode cX6_perform 80 = .ok (.iastore, 1) := by decide +kernel
theorem dX6_perform_81 : decode cX6_perform 81 = .ok (.iload_n 2, 1) := by decide +kernel
theorem dX6_perform_82 : decode cX6_perform 82 = .ok (.ifCond .ne 46, 3) := by decide +kernel
theorem dX6_perform_85 : decode cX6_perform 85 = .ok (.aload_n 0, 1) := by decide +kernel
theorem dX6_perform_86 : decode cX6_perform 86 = .ok (.getfield 17, 3) := by decide +kernel
theorem dX6_perform_89 : decode cX6_perform 89 = .ok (.iload_n 3, 1) := by decide +kernel
theorem dX6_perform_90 : decode cX6_perform 90 = .ok (.aaload, 1) := by decide +kernel
theorem dX6_perform_91 : decode cX6_perform 91 = .ok (.getfield 128, 3) := by decide +kernel
theorem dX6_perform_94 : decode cX6_perform 94 = .ok (.iload 5, 2) := by decide +kernel
theorem dX6_perform_96 : decode cX6_perform 96 = .ok (.dup2, 1) := by decide +kernel
theorem dX6_perform_97 : decode cX6_perform 97 = .ok (.iaload, 1) := by decide +kernel
theorem dX6_perform_98 : decode cX6_perform 98 = .ok (.aload_n 0, 1) := by decide +kernel
theorem dX6_perform_99 : decode cX6_perform 99 = .ok (.getfield 59, 3) := by decide +kernel
theorem dX6_perform_102 : decode cX6_perform 102 = .ok (.getfield 131, 3) := by decide +kernel
theorem dX6_perform_105 : decode cX6_perform 105 = .ok (.iload 4, 2) := by decide +kernel
theorem dX6_perform_107 : decode cX6_perform 107 = .ok (.iaload, 1) := by decide +kernel
theorem dX6_perform_108 : decode cX6_perform 108 = .ok (.isub, 1) := by decide +kernel
theorem dX6_perform_109 : decode cX6_perform 109 = .ok (.iastore, 1) := by decide +kernel
theorem dX6_perform_110 : decode cX6_perform 110 = .ok (.aload_n 0, 1) := by decide +kernel
theorem dX6_perform_111 : decode cX6_perform 111 = .ok (.getfield 29, 3) := by decide +kernel
theorem dX6_perform_114 : decode cX6_perform 114 = .ok (.iload_n 3, 1) := by decide +kernel
theorem dX6_perform_115 : decode cX6_perform 115 = .ok (.aaload, 1) := by decide +kernel
theorem dX6_perform_116 : decode cX6_perform 116 = .ok (.iload 4, 2) := by decide +kernel
theorem dX6_perform_118 : decode cX6_perform 118 = .ok (.aload_n 0, 1) := by decide +kernel
theorem dX6_perform_119 : decode cX6_perform 119 = .ok (.getfield 11, 3) := by decide +kernel
theorem dX6_perform_122 : decode cX6_perform 122 = .ok (.iload_n 3, 1) := by decide +kernel
theorem dX6_perform_123 : decode cX6_perform 123 = .ok (.iadd, 1) := by decide +kernel
theorem dX6_perform_124 : decode cX6_perform 124 = .ok (.iastore, 1) := by decide +kernel
theorem dX6_perform_125 : decode cX6_perform 125 = .ok (.goto 51, 3) := by decide +kernel
theorem dX6_perform_128 : decode cX6_perform 128 = .ok (.iload_n 2, 1) := by decide +kernel
theorem dX6_perform_129 : decode cX6_perform 129 = .ok (.iconst 2, 1) := by decide +kernel
theorem dX6_perform_130 : decode cX6_perform 130 = .ok (.if_icmp .lt 46, 3) := by decide +kernel
theorem dX6_perform_133 : decode cX6_perform 133 = .ok (.iload_n 2, 1) := by decide +kernel
theorem dX6_perform_134 : decode cX6_perform 134 = .ok (.bipush 7, 2) := by decide +kernel
theorem dX6_perform_136 : decode cX6_perform 136 = .ok (.if_icmp .gt 40, 3) := by decide +kernel
theorem dX6_perform_139 : decode cX6_perform 139 = .ok (.aload_n 0, 1) := by decide +kernel
theorem dX6_perform_140 : decode cX6_perform 140 = .ok (.getfield 23, 3) := by decide +kernel
theorem dX6_perform_143 : decode cX6_perform 143 = .ok (.iload_n 3, 1) := by decide +kernel
theorem dX6_perform_144 : decode cX6_perform 144 = .ok (.aaload, 1) := by decide +kernel
theorem dX6_perform_145 : decode cX6_perform 145 = .ok (.iload 4, 2) := by decide +kernel
theorem dX6_perform_147 : decode cX6_perform 147 = .ok (.iload_n 2, 1) := by decide +kernel
theorem dX6_perform_148 : decode cX6_perform 148 = .ok (.iconst 2, 1) := by decide +kernel
theorem dX6_perform_149 : decode cX6_perform 149 = .ok (.isub, 1) := by decide +kernel
theorem dX6_perform_150 : decode cX6_perform 150 = .ok (.iastore, 1) := by decide +kernel
theorem dX6_perform_151 : decode cX6_perform 151 = .ok (.aload_n 0, 1) := by decide +kernel
theorem dX6_perform_152 : decode cX6_perform 152 = .ok (.getfield 26, 3) := by decide +kernel
theorem dX6_perform_155 : decode cX6_perform 155 = .ok (.iload_n 3, 1) := by decide +kernel
theorem dX6_perform_156 : decode cX6_perform 156 = .ok (.aaload, 1) := by decide +kernel
theorem dX6_perform_157 : decode cX6_perform 157 = .ok (.iload 4, 2) := by decide +kernel
theorem dX6_perform_159 : decode cX6_perform 159 = .ok (.iload_n 3, 1) := by decide +kernel
theorem dX6_perform_160 : decode cX6_perform 160 = .ok (.aload_n 0, 1) := by decide +kernel
theorem dX6_perform_161 : decode cX6_perform 161 = .ok (.getfield 51, 3) := by decide +kernel
theorem dX6_perform_164 : decode cX6_perform 164 = .ok (.getfield 141, 3) := by decide +kernel
theorem dX6_perform_167 : decode cX6_perform 167 = .ok (.iload 5, 2) := by decide +kernel
theorem dX6_perform_169 : decode cX6_perform 169 = .ok (.aaload, 1) := by decide +kernel
theorem dX6_perform_170 : decode cX6_perform 170 = .ok (.iload_n 2, 1) := by decide +kernel
theorem dX6_perform_171 : decode cX6_perform 171 = .ok (.iconst 2, 1) := by decide +kernel
theorem dX6_perform_172 : decode cX6_perform 172 = .ok (.isub, 1) := by decide +kernel
theorem dX6_perform_173 : decode cX6_perform 173 = .ok (.iaload, 1) := by decide +kernel
theorem dX6_perform_174 : decode cX6_perform 174 = .ok (.iadd, 1) := by decide +kernel
theorem dX6_perform_175 : decode cX6_perform 175 = .ok (.iastore, 1) := by decide +kernel
theorem dX6_perform_176 : decode cX6_perform 176 = .ok (.return_, 1) := by decide +kernel
theorem dX6_undo_0 : decode cX6_undo 0 = .ok (.aload_n 0, 1) := by decide +kernel
theorem dX6_undo_1 : decode cX6_undo 1 = .ok (.getfield 32, 3) := by decide +kernel
theorem dX6_undo_4 : decode cX6_undo 4 = .ok (.iload_n 1, 1) := by decide +kernel
theorem dX6_undo_5 : decode cX6_undo 5 = .ok (.iaload, 1) := by decide +kernel
theorem dX6_undo_6 : decode cX6_undo 6 = .ok (.ifCond .ne 42, 3) := by decide +kernel
theorem dX6_undo_9 : decode cX6_undo 9 = .ok (.iload_n 1, 1) := by decide +kernel
theorem dX6_undo_10 : decode cX6_undo 10 = .ok (.invokestatic 94, 3) := by decide +kernel
theorem dX6_undo_13 : decode cX6_undo 13 = .ok (.istore_n 2, 1) := by decide +kernel
theorem dX6_undo_14 : decode cX6_undo 14 = .ok (.iload_n 1, 1) := by decide +kernel
theorem dX6_undo_15 : decode cX6_undo 15 = .ok (.iconst 4, 1) := by decide +kernel
theorem dX6_undo_16 : decode cX6_undo 16 = .ok (.irem, 1) := by decide +kernel
theorem dX6_undo_17 : decode cX6_undo 17 = .ok (.istore_n 3, 1) := by decide +kernel
theorem dX6_undo_18 : decode cX6_undo 18 = .ok (.aload_n 0, 1) := by decide +kernel
theorem dX6_undo_19 : decode cX6_undo 19 = .ok (.getfield 17, 3) := by decide +kernel
theorem dX6_undo_22 : decode cX6_undo 22 = .ok (.iload_n 2, 1) := by decide +kernel
theorem dX6_undo_23 : decode cX6_undo 23 = .ok (.aaload, 1) := by decide +kernel
theorem dX6_undo_24 : decode cX6_undo 24 = .ok (.getfield 128, 3) := by decide +kernel
theorem dX6_undo_27 : decode cX6_undo 27 = .ok (.aload_n 0, 1) := by decide +kernel
theorem dX6_undo_28 : decode cX6_undo 28 = .ok (.getfield 23, 3) := by decide +kernel
theorem dX6_undo_31 : decode cX6_undo 31 = .ok (.iload_n 2, 1) := by decide +kernel
theorem dX6_undo_32 : decode cX6_undo 32 = .ok (.aaload, 1) := by decide +kernel
theorem dX6_undo_33 : decode cX6_undo 33 = .ok (.iload_n 3, 1) := by decide +kernel
theorem dX6_undo_34 : decode cX6_undo 34 = .ok (.iaload, 1) := by decide +kernel
theorem dX6_undo_35 : decode cX6_undo 35 = .ok (.dup2, 1) := by decide +kernel
theorem dX6_undo_36 : decode cX6_undo 36 = .ok (.iaload, 1) := by decide +kernel
theorem dX6_undo_37 : decode cX6_undo 37 = .ok (.aload_n 0, 1) := by decide +kernel
theorem dX6_undo_38 : decode cX6_undo 38 = .ok (.getfield 59, 3) := by decide +kernel
theorem dX6_undo_41 : decode cX6_undo 41 = .ok (.getfield 131, 3) := by decide +kernel
theorem dX6_undo_44 : decode cX6_undo 44 = .ok (.iload_n 3, 1) := by decide +kernel
theorem dX6_undo_45 : decode cX6_undo 45 = .ok (.iaload, 1) := by decide +kernel
theorem dX6_undo_46 : decode cX6_undo 46 = .ok (.iadd, 1) := by decide +kernel
theorem dX6_undo_47 : decode cX6_undo 47 = .ok (.iastore, 1) := by decide +kernel
theorem dX6_undo_48 : decode cX6_undo 48 = .ok (.return_, 1) := by decide +kernel
set_option maxHeartbeats 4000000 in
set_option maxRecDepth 100000 in
/-- WellCourt$Planner.perform -/
theorem s_X6_perform (l : Launch) (G : va_G) (cy : Nat → ClassId) (sK sV : Nat → Nat) (ad : Nat → Nat → Nat) (sz : Nat) (st : gS) (hB : gBd bX st) (x : Int32) (y : Int32) (Xx : Int) (Xy : Int) (kx : x.toInt = Xx) (ky : y.toInt = Xy) (hx0 : 0 ≤ Xx) (hx1 : Xx ≤ 55) (hy0 : Xy = 9 ∨ (0 ≤ Xy ∧ Xy ≤ 7)) : gsMv l yX6_perform cX6_perform 6 ({ frames := 1, cells := 0, slots := 0, locals := 20 } : Room) G cy sK sV (shX cy ad) cnX ad sz [.ref (ad 38 0), .int x, .int y] st (fun (u : gS) => gBN bX kX [1300, 4100, 4300, 4500, 4600] st u ∧ ((pfX st u x y (x.toNatClampNeg / 4 + 1) (x.toNatClampNeg % 4)) ∧ (tdX st u))) := by
  refine gs_start (fun A => gsQv G (shX cy ad) cnX ad _ A) (by decide) (Nat.le_of_ble_eq_true rfl) ?_
  intro p e s m below meth c A ls H hx hb hr hml hlocks hown hts hK hov hE hI hM hm hS hA hl
  have hl : lv_has ls 6 [(0, .ref (ad 38 0)), (1, .int x), (2, .int y)] := hl
  have hB_st : gBN bX kX [1300, 4100, 4300, 4500, 4600] st st := gBN.rf hB
  refine lv_iload_n hx hb dX6_perform_0 rfl (lv_at hl 1 rfl) ?_
  refine gs_calli (va_runS (As := [.int x]) (rest := []) ⟨hx, hb, hml, hown, hts⟩ (s_X6_rowOf l G cy sK sV ad H.size st hB_st.1 x x.toInt rfl (by first | decide | omega) (by first | decide | omega)) ⟨(gz_cb (n := 1) hts gm_865 gm_11 gm_867 ⟨by decide +kernel, by decide +kernel, by decide +kernel⟩ ⟨Nat.le_of_ble_eq_true rfl, Nat.le_of_ble_eq_true rfl⟩), hts _ gm_866⟩ (gs_preS hK hov hE hI hM hm hS hA) rfl rfl hl.1 rfl (lv_room (Nat.le_of_ble_eq_true rfl)) dX6_perform_1 ⟨Nat.le_of_ble_eq_true rfl, Nat.le_of_ble_eq_true rfl⟩) hm hS hA (fun r_1 st_1 H locs hw_1 hM hS => ?_)
  obtain ⟨n_1, hw_1⟩ := hw_1
  have n_1 := gBN.nil n_1
  subst n_1
  obtain ⟨hw_1_0, hw_1_1, hw_1_2, hw_1_3⟩ := hw_1
  refine lv_istore_n (lv' := [(3, .int r_1), (0, .ref (ad 38 0)), (1, .int x), (2, .int y)]) hx hb dX6_perform_4 rfl hl (by decide) rfl (fun ls hl => ?_)
  refine lv_iload_n hx hb dX6_perform_5 rfl (lv_at hl 2 rfl) ?_
  refine lv_iconst (v := 4) hx hb dX6_perform_6 (by decide) ?_
  refine lv_irem hx hb dX6_perform_7 (by decide) ?_
  refine lv_topi (fun x_2 ex_2 => ?_)
  try have tx_2 := gs_rem (y := 4) (by decide) (show 0 ≤ x.toInt from by omega) (by omega) ex_2
  refine lv_istore (lv' := [(4, .int x_2), (3, .int r_1), (0, .ref (ad 38 0)), (1, .int x), (2, .int y)]) hx hb dX6_perform_8 hl (by decide) rfl (fun ls hl => ?_)
  have c_x := gs_cl (x := x) (by omega)
  have c_r := gs_cl (x := r_1) (by omega)
  have c_h := gs_cl (x := x_2) (by omega)
  have hm9 : x_2.toInt = Xx % 4 := gs_rem3 (b := 4) (by decide) kx (by omega) (by decide) ex_2
  have er9 : r_1.toNatClampNeg = (x.toNatClampNeg / 4 + 1) := (by omega)
  have eh9 : x_2.toNatClampNeg = (x.toNatClampNeg % 4) := (by omega)
  refine lv_aload_n hx hb dX6_perform_10 rfl (lv_at hl 2 rfl) ?_
  refine gs_get (C := RX6) (T := TX6) (N := 15) hx hb hts inX6 hown hK hM 38 0 6 (by decide) rfl rfl (by decide) (hts _ gm_249) (fun _ h9 => h9) rfl dX6_perform_11 ?_
  refine lv_iload_n hx hb dX6_perform_14 rfl (lv_at hl 1 rfl) ?_
  refine lv_iconst (v := 1) hx hb dX6_perform_15 (by decide) ?_
  refine lv_isub hx hb dX6_perform_16 ?_
  refine lv_topi (fun x_3 ex_3 => ?_)
  try have tx_3 : x_3.toInt = r_1.toInt - 1 := by rw [ex_3]; exact gz_subP (x := r_1.toInt) (y := 1) rfl (by decide) (by omega) (by omega)
  have h_4 : x_3.toNatClampNeg < 15 := gs_lt (vp_in_iff.mpr ⟨by omega, by omega⟩)
  refine gs_alda hx hb hK hM 40 0 (by decide) rfl (vp_in_iff.mpr ⟨by omega, by omega⟩) (a := ad 41 x_3.toNatClampNeg) (if_pos h_4) dX6_perform_17 ?_
  refine lv_iload hx hb dX6_perform_18 (lv_at hl 0 rfl) ?_
  refine gs_iald hx hb hK hM 41 x_3.toNatClampNeg h_4 rfl (vp_in_iff.mpr ⟨by omega, by omega⟩) dX6_perform_20 ?_
  refine lv_topi (fun x_5 ex_5 => ?_)
  have qx_5 : x_5.toInt = (st 41 x_3.toNatClampNeg (x_2.toNatClampNeg)).toInt := congrArg Int32.toInt ex_5
  have bx_5 : (0 : Int) ≤ x_5.toInt ∧ x_5.toInt ≤ (5 : Int) := by rw [qx_5]; exact hB_st.1 41 x_3.toNatClampNeg (x_2.toNatClampNeg)
  have hp9 : x_5 = st 41 (r_1.toNatClampNeg - 1) x_2.toNatClampNeg := (by have c_m := gs_cl (x := x_3) (by omega); have h9 := ex_5; rw [show x_3.toNatClampNeg = r_1.toNatClampNeg - 1 by omega] at h9; exact h9)
  refine lv_istore (lv' := [(5, .int x_5), (4, .int x_2), (3, .int r_1), (0, .ref (ad 38 0)), (1, .int x), (2, .int y)]) hx hb dX6_perform_21 hl (by decide) rfl (fun ls hl => ?_)
  refine lv_aload_n hx hb dX6_perform_23 rfl (lv_at hl 3 rfl) ?_
  refine gs_get (C := RX6) (T := TX6) (N := 15) hx hb hts inX6 hown hK hM 38 0 9 (by decide) rfl rfl (by decide) (hts _ gm_252) (fun _ h9 => h9) rfl dX6_perform_24 ?_
  refine lv_iload_n hx hb dX6_perform_27 rfl (lv_at hl 4 rfl) ?_
  refine lv_iload_n hx hb dX6_perform_28 rfl (lv_at hl 5 rfl) ?_
  refine gs_iast hx hb hK hI hm hM hS 46 0 (by decide) (fun _ => rfl) (vp_in_iff.mpr ⟨by omega, by omega⟩) dX6_perform_29 (fun st_6 H locs est_6 hM hS => ?_)
  have hB_st_6 : gBN bX kX [1300, 4100, 4300, 4500, 4600] st st_6 := by rw [est_6]; exact hB_st.up (show (4600 : Nat) ∈ _ from by decide) (show (-1 : Int) ≤ y.toInt from by omega) (show y.toInt ≤ (9 : Int) from by omega)
  refine lv_aload_n hx hb dX6_perform_30 rfl (lv_at hl 3 rfl) ?_
  refine gs_get (C := RX6) (T := TX6) (N := 15) hx hb hts inX6 hown hK hM 38 0 6 (by decide) rfl rfl (by decide) (hts _ gm_249) (fun _ h9 => h9) rfl dX6_perform_31 ?_
  refine lv_iload_n hx hb dX6_perform_34 rfl (lv_at hl 2 rfl) ?_
  have h_7 : r_1.toNatClampNeg < 15 := gs_lt (vp_in_iff.mpr ⟨by omega, by omega⟩)
  refine gs_alda hx hb hK hM 40 0 (by decide) rfl (vp_in_iff.mpr ⟨by omega, by omega⟩) (a := ad 41 r_1.toNatClampNeg) (if_pos h_7) dX6_perform_35 ?_
  refine lv_iload hx hb dX6_perform_36 (lv_at hl 1 rfl) ?_
  refine lv_iload hx hb dX6_perform_38 (lv_at hl 0 rfl) ?_
  refine gs_iast hx hb hK hI hm hM hS 41 r_1.toNatClampNeg h_7 (fun _ => rfl) (vp_in_iff.mpr ⟨by omega, by omega⟩) dX6_perform_40 (fun st_8 H locs est_8 hM hS => ?_)
  have hB_st_8 : gBN bX kX [1300, 4100, 4300, 4500, 4600] st st_8 := by rw [est_8]; exact hB_st_6.up (show (4100 : Nat) ∈ _ from by decide) (show (0 : Int) ≤ x_5.toInt from by omega) (show x_5.toInt ≤ (5 : Int) from by omega)
  refine lv_aload_n hx hb dX6_perform_41 rfl (lv_at hl 3 rfl) ?_
  refine gs_get (C := RX6) (T := TX6) (N := 15) hx hb hts inX6 hown hK hM 38 0 7 (by decide) rfl rfl (by decide) (hts _ gm_250) (fun _ h9 => h9) rfl dX6_perform_42 ?_
  refine lv_iload_n hx hb dX6_perform_45 rfl (lv_at hl 2 rfl) ?_
  have h_9 : r_1.toNatClampNeg < 15 := gs_lt (vp_in_iff.mpr ⟨by omega, by omega⟩)
  refine gs_alda hx hb hK hM 42 0 (by decide) rfl (vp_in_iff.mpr ⟨by omega, by omega⟩) (a := ad 43 r_1.toNatClampNeg) (if_pos h_9) dX6_perform_46 ?_
  refine lv_iload hx hb dX6_perform_47 (lv_at hl 1 rfl) ?_
  refine lv_aload_n hx hb dX6_perform_49 rfl (lv_at hl 3 rfl) ?_
  refine gs_get (C := RX6) (T := TX6) (N := 15) hx hb hts inX6 hown hK hM 38 0 7 (by decide) rfl rfl (by decide) (hts _ gm_250) (fun _ h9 => h9) rfl dX6_perform_50 ?_
  refine lv_iload_n hx hb dX6_perform_53 rfl (lv_at hl 2 rfl) ?_
  refine lv_iconst (v := 1) hx hb dX6_perform_54 (by decide) ?_
  refine lv_isub hx hb dX6_perform_55 ?_
  refine lv_topi (fun x_10 ex_10 => ?_)
  try have tx_10 : x_10.toInt = r_1.toInt - 1 := by rw [ex_10]; exact gz_subP (x := r_1.toInt) (y := 1) rfl (by decide) (by omega) (by omega)
  have h_11 : x_10.toNatClampNeg < 15 := gs_lt (vp_in_iff.mpr ⟨by omega, by omega⟩)
  refine gs_alda hx hb hK hM 42 0 (by decide) rfl (vp_in_iff.mpr ⟨by omega, by omega⟩) (a := ad 43 x_10.toNatClampNeg) (if_pos h_11) dX6_perform_56 ?_
  refine lv_iload hx hb dX6_perform_57 (lv_at hl 1 rfl) ?_
  refine gs_iald hx hb hK hM 43 x_10.toNatClampNeg h_11 rfl (vp_in_iff.mpr ⟨by omega, by omega⟩) dX6_perform_59 ?_
  refine lv_topi (fun x_12 ex_12 => ?_)
  have qx_12 : x_12.toInt = (st_8 43 x_10.toNatClampNeg (x_2.toNatClampNeg)).toInt := congrArg Int32.toInt ex_12
  have rx_12 : x_12.toInt = ((st 43 x_10.toNatClampNeg (x_2.toNatClampNeg)) : Int32).toInt := by rw [ex_12]; exact congrArg Int32.toInt ((((congrFun (congrFun (congrFun est_8 43) x_10.toNatClampNeg) (x_2.toNatClampNeg)).trans (congrFun (congrFun (gU_k (by decide)) x_10.toNatClampNeg) (x_2.toNatClampNeg))).trans ((congrFun (congrFun (congrFun est_6 43) x_10.toNatClampNeg) (x_2.toNatClampNeg)).trans (congrFun (congrFun (gU_k (by decide)) x_10.toNatClampNeg) (x_2.toNatClampNeg)))))
  have ha9 : x_12 = st 43 (r_1.toNatClampNeg - 1) x_2.toNatClampNeg := (by have c_m := gs_cl (x := x_10) (by omega); have h9 := (ex_12.trans (((congrFun (congrFun (congrFun est_8 43) x_10.toNatClampNeg) (x_2.toNatClampNeg)).trans (congrFun (congrFun (gU_k (by decide)) x_10.toNatClampNeg) (x_2.toNatClampNeg))).trans ((congrFun (congrFun (congrFun est_6 43) x_10.toNatClampNeg) (x_2.toNatClampNeg)).trans (congrFun (congrFun (gU_k (by decide)) x_10.toNatClampNeg) (x_2.toNatClampNeg))))); rw [show x_10.toNatClampNeg = r_1.toNatClampNeg - 1 by omega] at h9; exact h9)
  refine gs_iast hx hb hK hI hm hM hS 43 r_1.toNatClampNeg h_9 (fun _ => rfl) (vp_in_iff.mpr ⟨by omega, by omega⟩) dX6_perform_60 (fun st_13 H locs est_13 hM hS => ?_)
  have hB_st_13 : gBN bX kX [1300, 4100, 4300, 4500, 4600] st st_13 := by rw [est_13]; exact hB_st_8.up (show (4300 : Nat) ∈ _ from by decide) (gi_lo _) (gi_hi _)
  refine lv_aload_n hx hb dX6_perform_61 rfl (lv_at hl 3 rfl) ?_
  refine gs_get (C := RX6) (T := TX6) (N := 15) hx hb hts inX6 hown hK hM 38 0 8 (by decide) rfl rfl (by decide) (hts _ gm_251) (fun _ h9 => h9) rfl dX6_perform_62 ?_
  refine lv_iload_n hx hb dX6_perform_65 rfl (lv_at hl 2 rfl) ?_
  have h_14 : r_1.toNatClampNeg < 15 := gs_lt (vp_in_iff.mpr ⟨by omega, by omega⟩)
  refine gs_alda hx hb hK hM 44 0 (by decide) rfl (vp_in_iff.mpr ⟨by omega, by omega⟩) (a := ad 45 r_1.toNatClampNeg) (if_pos h_14) dX6_perform_66 ?_
  refine lv_iload hx hb dX6_perform_67 (lv_at hl 1 rfl) ?_
  refine lv_aload_n hx hb dX6_perform_69 rfl (lv_at hl 3 rfl) ?_
  refine gs_get (C := RX6) (T := TX6) (N := 15) hx hb hts inX6 hown hK hM 38 0 8 (by decide) rfl rfl (by decide) (hts _ gm_251) (fun _ h9 => h9) rfl dX6_perform_70 ?_
  refine lv_iload_n hx hb dX6_perform_73 rfl (lv_at hl 2 rfl) ?_
  refine lv_iconst (v := 1) hx hb dX6_perform_74 (by decide) ?_
  refine lv_isub hx hb dX6_perform_75 ?_
  refine lv_topi (fun x_15 ex_15 => ?_)
  try have tx_15 : x_15.toInt = r_1.toInt - 1 := by rw [ex_15]; exact gz_subP (x := r_1.toInt) (y := 1) rfl (by decide) (by omega) (by omega)
  have h_16 : x_15.toNatClampNeg < 15 := gs_lt (vp_in_iff.mpr ⟨by omega, by omega⟩)
  refine gs_alda hx hb hK hM 44 0 (by decide) rfl (vp_in_iff.mpr ⟨by omega, by omega⟩) (a := ad 45 x_15.toNatClampNeg) (if_pos h_16) dX6_perform_76 ?_
  refine lv_iload hx hb dX6_perform_77 (lv_at hl 1 rfl) ?_
  refine gs_iald hx hb hK hM 45 x_15.toNatClampNeg h_16 rfl (vp_in_iff.mpr ⟨by omega, by omega⟩) dX6_perform_79 ?_
  refine lv_topi (fun x_17 ex_17 => ?_)
  have qx_17 : x_17.toInt = (st_13 45 x_15.toNatClampNeg (x_2.toNatClampNeg)).toInt := congrArg Int32.toInt ex_17
  have rx_17 : x_17.toInt = ((st 45 x_15.toNatClampNeg (x_2.toNatClampNeg)) : Int32).toInt := by rw [ex_17]; exact congrArg Int32.toInt ((((congrFun (congrFun (congrFun est_13 45) x_15.toNatClampNeg) (x_2.toNatClampNeg)).trans (congrFun (congrFun (gU_k (by decide)) x_15.toNatClampNeg) (x_2.toNatClampNeg))).trans (((congrFun (congrFun (congrFun est_8 45) x_15.toNatClampNeg) (x_2.toNatClampNeg)).trans (congrFun (congrFun (gU_k (by decide)) x_15.toNatClampNeg) (x_2.toNatClampNeg))).trans ((congrFun (congrFun (congrFun est_6 45) x_15.toNatClampNeg) (x_2.toNatClampNeg)).trans (congrFun (congrFun (gU_k (by decide)) x_15.toNatClampNeg) (x_2.toNatClampNeg))))))
  have hd9 : x_17 = st 45 (r_1.toNatClampNeg - 1) x_2.toNatClampNeg := (by have c_m := gs_cl (x := x_15) (by omega); have h9 := (ex_17.trans (((congrFun (congrFun (congrFun est_13 45) x_15.toNatClampNeg) (x_2.toNatClampNeg)).trans (congrFun (congrFun (gU_k (by decide)) x_15.toNatClampNeg) (x_2.toNatClampNeg))).trans (((congrFun (congrFun (congrFun est_8 45) x_15.toNatClampNeg) (x_2.toNatClampNeg)).trans (congrFun (congrFun (gU_k (by decide)) x_15.toNatClampNeg) (x_2.toNatClampNeg))).trans ((congrFun (congrFun (congrFun est_6 45) x_15.toNatClampNeg) (x_2.toNatClampNeg)).trans (congrFun (congrFun (gU_k (by decide)) x_15.toNatClampNeg) (x_2.toNatClampNeg)))))); rw [show x_15.toNatClampNeg = r_1.toNatClampNeg - 1 by omega] at h9; exact h9)
  refine gs_iast hx hb hK hI hm hM hS 45 r_1.toNatClampNeg h_14 (fun _ => rfl) (vp_in_iff.mpr ⟨by omega, by omega⟩) dX6_perform_80 (fun st_18 H locs est_18 hM hS => ?_)
  have hB_st_18 : gBN bX kX [1300, 4100, 4300, 4500, 4600] st st_18 := by rw [est_18]; exact hB_st_13.up (show (4500 : Nat) ∈ _ from by decide) (gi_lo _) (gi_hi _)
  refine lv_iload_n hx hb dX6_perform_81 rfl (lv_at hl 5 rfl) ?_
  refine lv_if_ne (tgt := 128) hx hb dX6_perform_82 (by decide) (fun c_19 => ?_) (fun c_19 => ?_)
  · have ic_19 := gz_ne (rfl : y.toInt = y.toInt) (by decide : (0 : Int32).toInt = 0) c_19
    refine lv_iload_n hx hb dX6_perform_128 rfl (lv_at hl 5 rfl) ?_
    refine lv_iconst (v := 2) hx hb dX6_perform_129 (by decide) ?_
    refine lv_icmp_lt (tgt := 176) hx hb dX6_perform_130 (by decide) (fun c_20 => ?_) (fun c_20 => ?_)
    · have ic_20 := gz_lt (rfl : y.toInt = y.toInt) (by decide : (2 : Int32).toInt = 2) c_20
      exact gs_vret hx hb hr hlocks hM hS ⟨hB_st_18, (by rw [← er9, ← eh9]; exact ⟨((congrFun (congrFun est_18 46) 0).trans ((congrFun (gU_k (by decide)) 0).trans ((congrFun (congrFun est_13 46) 0).trans ((congrFun (gU_k (by decide)) 0).trans ((congrFun (congrFun est_8 46) 0).trans ((congrFun (gU_k (by decide)) 0).trans ((congrFun (congrFun est_6 46) 0).trans ((gU_at _ _ _ _ _).trans (congrArg (fun f9 => upd f9 (x.toNatClampNeg) (y : Int32)) rfl))))))))), (fO.up (fO.up (fO.up (fO.upk fO.rf est_6 (by decide)) est_8) est_13) est_18), (fun j hj => ⟨(by rw [show st_18 41 r_1.toNatClampNeg = (upd (st 41 r_1.toNatClampNeg) (x_2.toNatClampNeg) (x_5 : Int32)) from ((congrFun (congrFun est_18 41) r_1.toNatClampNeg).trans ((congrFun (gU_k (by decide)) r_1.toNatClampNeg).trans ((congrFun (congrFun est_13 41) r_1.toNatClampNeg).trans ((congrFun (gU_k (by decide)) r_1.toNatClampNeg).trans ((congrFun (congrFun est_8 41) r_1.toNatClampNeg).trans ((gU_at _ _ _ _ _).trans (congrArg (fun f9 => upd f9 (x_2.toNatClampNeg) (x_5 : Int32)) ((congrFun (congrFun est_6 41) r_1.toNatClampNeg).trans ((congrFun (gU_k (by decide)) r_1.toNatClampNeg).trans rfl))))))))), pk_un hj]), (by rw [show st_18 43 r_1.toNatClampNeg = (upd (st 43 r_1.toNatClampNeg) (x_2.toNatClampNeg) (x_12 : Int32)) from ((congrFun (congrFun est_18 43) r_1.toNatClampNeg).trans ((congrFun (gU_k (by decide)) r_1.toNatClampNeg).trans ((congrFun (congrFun est_13 43) r_1.toNatClampNeg).trans ((gU_at _ _ _ _ _).trans (congrArg (fun f9 => upd f9 (x_2.toNatClampNeg) (x_12 : Int32)) ((congrFun (congrFun est_8 43) r_1.toNatClampNeg).trans ((congrFun (gU_k (by decide)) r_1.toNatClampNeg).trans ((congrFun (congrFun est_6 43) r_1.toNatClampNeg).trans ((congrFun (gU_k (by decide)) r_1.toNatClampNeg).trans rfl))))))))), pk_un hj]), (by rw [show st_18 45 r_1.toNatClampNeg = (upd (st 45 r_1.toNatClampNeg) (x_2.toNatClampNeg) (x_17 : Int32)) from ((congrFun (congrFun est_18 45) r_1.toNatClampNeg).trans ((gU_at _ _ _ _ _).trans (congrArg (fun f9 => upd f9 (x_2.toNatClampNeg) (x_17 : Int32)) ((congrFun (congrFun est_13 45) r_1.toNatClampNeg).trans ((congrFun (gU_k (by decide)) r_1.toNatClampNeg).trans ((congrFun (congrFun est_8 45) r_1.toNatClampNeg).trans ((congrFun (gU_k (by decide)) r_1.toNatClampNeg).trans ((congrFun (congrFun est_6 45) r_1.toNatClampNeg).trans ((congrFun (gU_k (by decide)) r_1.toNatClampNeg).trans rfl))))))))), pk_un hj])⟩), r_1, by omega, Or.inr (Or.inl ⟨by omega, (by rw [show st_18 41 r_1.toNatClampNeg = (upd (st 41 r_1.toNatClampNeg) (x_2.toNatClampNeg) (x_5 : Int32)) from ((congrFun (congrFun est_18 41) r_1.toNatClampNeg).trans ((congrFun (gU_k (by decide)) r_1.toNatClampNeg).trans ((congrFun (congrFun est_13 41) r_1.toNatClampNeg).trans ((congrFun (gU_k (by decide)) r_1.toNatClampNeg).trans ((congrFun (congrFun est_8 41) r_1.toNatClampNeg).trans ((gU_at _ _ _ _ _).trans (congrArg (fun f9 => upd f9 (x_2.toNatClampNeg) (x_5 : Int32)) ((congrFun (congrFun est_6 41) r_1.toNatClampNeg).trans ((congrFun (gU_k (by decide)) r_1.toNatClampNeg).trans rfl))))))))), pk_us]; exact hp9), (by rw [show st_18 43 r_1.toNatClampNeg = (upd (st 43 r_1.toNatClampNeg) (x_2.toNatClampNeg) (x_12 : Int32)) from ((congrFun (congrFun est_18 43) r_1.toNatClampNeg).trans ((congrFun (gU_k (by decide)) r_1.toNatClampNeg).trans ((congrFun (congrFun est_13 43) r_1.toNatClampNeg).trans ((gU_at _ _ _ _ _).trans (congrArg (fun f9 => upd f9 (x_2.toNatClampNeg) (x_12 : Int32)) ((congrFun (congrFun est_8 43) r_1.toNatClampNeg).trans ((congrFun (gU_k (by decide)) r_1.toNatClampNeg).trans ((congrFun (congrFun est_6 43) r_1.toNatClampNeg).trans ((congrFun (gU_k (by decide)) r_1.toNatClampNeg).trans rfl))))))))), pk_us]; exact ha9), (by rw [show st_18 45 r_1.toNatClampNeg = (upd (st 45 r_1.toNatClampNeg) (x_2.toNatClampNeg) (x_17 : Int32)) from ((congrFun (congrFun est_18 45) r_1.toNatClampNeg).trans ((gU_at _ _ _ _ _).trans (congrArg (fun f9 => upd f9 (x_2.toNatClampNeg) (x_17 : Int32)) ((congrFun (congrFun est_13 45) r_1.toNatClampNeg).trans ((congrFun (gU_k (by decide)) r_1.toNatClampNeg).trans ((congrFun (congrFun est_8 45) r_1.toNatClampNeg).trans ((congrFun (gU_k (by decide)) r_1.toNatClampNeg).trans ((congrFun (congrFun est_6 45) r_1.toNatClampNeg).trans ((congrFun (gU_k (by decide)) r_1.toNatClampNeg).trans rfl))))))))), pk_us]; exact hd9), ((congrFun (congrFun est_18 13) r_1.toNatClampNeg).trans ((congrFun (gU_k (by decide)) r_1.toNatClampNeg).trans ((congrFun (congrFun est_13 13) r_1.toNatClampNeg).trans ((congrFun (gU_k (by decide)) r_1.toNatClampNeg).trans ((congrFun (congrFun est_8 13) r_1.toNatClampNeg).trans ((congrFun (gU_k (by decide)) r_1.toNatClampNeg).trans ((congrFun (congrFun est_6 13) r_1.toNatClampNeg).trans ((congrFun (gU_k (by decide)) r_1.toNatClampNeg).trans rfl))))))))⟩)⟩), (tdX.trans (tdX.trans (tdX.trans (tdX.trans tdX.rf (tdX.upk est_6 (by decide))) (tdX.upk est_8 (by decide))) (tdX.upk est_13 (by decide))) (tdX.upk est_18 (by decide)))⟩ (by exact Nat.le_refl _) (by exact Nat.le_refl _) dX6_perform_176
    · have ic_20 := gz_nlt (rfl : y.toInt = y.toInt) (by decide : (2 : Int32).toInt = 2) c_20
      refine lv_iload_n hx hb dX6_perform_133 rfl (lv_at hl 5 rfl) ?_
      refine lv_bipush (v := 7) hx hb dX6_perform_134 (by decide) ?_
      refine lv_icmp_gt (tgt := 176) hx hb dX6_perform_136 (by decide) (fun c_21 => ?_) (fun c_21 => ?_)
      · have ic_21 := gz_lt (by decide : (7 : Int32).toInt = 7) (rfl : y.toInt = y.toInt) c_21
        exact gs_vret hx hb hr hlocks hM hS ⟨hB_st_18, (by rw [← er9, ← eh9]; exact ⟨((congrFun (congrFun est_18 46) 0).trans ((congrFun (gU_k (by decide)) 0).trans ((congrFun (congrFun est_13 46) 0).trans ((congrFun (gU_k (by decide)) 0).trans ((congrFun (congrFun est_8 46) 0).trans ((congrFun (gU_k (by decide)) 0).trans ((congrFun (congrFun est_6 46) 0).trans ((gU_at _ _ _ _ _).trans (congrArg (fun f9 => upd f9 (x.toNatClampNeg) (y : Int32)) rfl))))))))), (fO.up (fO.up (fO.up (fO.upk fO.rf est_6 (by decide)) est_8) est_13) est_18), (fun j hj => ⟨(by rw [show st_18 41 r_1.toNatClampNeg = (upd (st 41 r_1.toNatClampNeg) (x_2.toNatClampNeg) (x_5 : Int32)) from ((congrFun (congrFun est_18 41) r_1.toNatClampNeg).trans ((congrFun (gU_k (by decide)) r_1.toNatClampNeg).trans ((congrFun (congrFun est_13 41) r_1.toNatClampNeg).trans ((congrFun (gU_k (by decide)) r_1.toNatClampNeg).trans ((congrFun (congrFun est_8 41) r_1.toNatClampNeg).trans ((gU_at _ _ _ _ _).trans (congrArg (fun f9 => upd f9 (x_2.toNatClampNeg) (x_5 : Int32)) ((congrFun (congrFun est_6 41) r_1.toNatClampNeg).trans ((congrFun (gU_k (by decide)) r_1.toNatClampNeg).trans rfl))))))))), pk_un hj]), (by rw [show st_18 43 r_1.toNatClampNeg = (upd (st 43 r_1.toNatClampNeg) (x_2.toNatClampNeg) (x_12 : Int32)) from ((congrFun (congrFun est_18 43) r_1.toNatClampNeg).trans ((congrFun (gU_k (by decide)) r_1.toNatClampNeg).trans ((congrFun (congrFun est_13 43) r_1.toNatClampNeg).trans ((gU_at _ _ _ _ _).trans (congrArg (fun f9 => upd f9 (x_2.toNatClampNeg) (x_12 : Int32)) ((congrFun (congrFun est_8 43) r_1.toNatClampNeg).trans ((congrFun (gU_k (by decide)) r_1.toNatClampNeg).trans ((congrFun (congrFun est_6 43) r_1.toNatClampNeg).trans ((congrFun (gU_k (by decide)) r_1.toNatClampNeg).trans rfl))))))))), pk_un hj]), (by rw [show st_18 45 r_1.toNatClampNeg = (upd (st 45 r_1.toNatClampNeg) (x_2.toNatClampNeg) (x_17 : Int32)) from ((congrFun (congrFun est_18 45) r_1.toNatClampNeg).trans ((gU_at _ _ _ _ _).trans (congrArg (fun f9 => upd f9 (x_2.toNatClampNeg) (x_17 : Int32)) ((congrFun (congrFun est_13 45) r_1.toNatClampNeg).trans ((congrFun (gU_k (by decide)) r_1.toNatClampNeg).trans ((congrFun (congrFun est_8 45) r_1.toNatClampNeg).trans ((congrFun (gU_k (by decide)) r_1.toNatClampNeg).trans ((congrFun (congrFun est_6 45) r_1.toNatClampNeg).trans ((congrFun (gU_k (by decide)) r_1.toNatClampNeg).trans rfl))))))))), pk_un hj])⟩), r_1, by omega, Or.inr (Or.inl ⟨by omega, (by rw [show st_18 41 r_1.toNatClampNeg = (upd (st 41 r_1.toNatClampNeg) (x_2.toNatClampNeg) (x_5 : Int32)) from ((congrFun (congrFun est_18 41) r_1.toNatClampNeg).trans ((congrFun (gU_k (by decide)) r_1.toNatClampNeg).trans ((congrFun (congrFun est_13 41) r_1.toNatClampNeg).trans ((congrFun (gU_k (by decide)) r_1.toNatClampNeg).trans ((congrFun (congrFun est_8 41) r_1.toNatClampNeg).trans ((gU_at _ _ _ _ _).trans (congrArg (fun f9 => upd f9 (x_2.toNatClampNeg) (x_5 : Int32)) ((congrFun (congrFun est_6 41) r_1.toNatClampNeg).trans ((congrFun (gU_k (by decide)) r_1.toNatClampNeg).trans rfl))))))))), pk_us]; exact hp9), (by rw [show st_18 43 r_1.toNatClampNeg = (upd (st 43 r_1.toNatClampNeg) (x_2.toNatClampNeg) (x_12 : Int32)) from ((congrFun (congrFun est_18 43) r_1.toNatClampNeg).trans ((congrFun (gU_k (by decide)) r_1.toNatClampNeg).trans ((congrFun (congrFun est_13 43) r_1.toNatClampNeg).trans ((gU_at _ _ _ _ _).trans (congrArg (fun f9 => upd f9 (x_2.toNatClampNeg) (x_12 : Int32)) ((congrFun (congrFun est_8 43) r_1.toNatClampNeg).trans ((congrFun (gU_k (by decide)) r_1.toNatClampNeg).trans ((congrFun (congrFun est_6 43) r_1.toNatClampNeg).trans ((congrFun (gU_k (by decide)) r_1.toNatClampNeg).trans rfl))))))))), pk_us]; exact ha9), (by rw [show st_18 45 r_1.toNatClampNeg = (upd (st 45 r_1.toNatClampNeg) (x_2.toNatClampNeg) (x_17 : Int32)) from ((congrFun (congrFun est_18 45) r_1.toNatClampNeg).trans ((gU_at _ _ _ _ _).trans (congrArg (fun f9 => upd f9 (x_2.toNatClampNeg) (x_17 : Int32)) ((congrFun (congrFun est_13 45) r_1.toNatClampNeg).trans ((congrFun (gU_k (by decide)) r_1.toNatClampNeg).trans ((congrFun (congrFun est_8 45) r_1.toNatClampNeg).trans ((congrFun (gU_k (by decide)) r_1.toNatClampNeg).trans ((congrFun (congrFun est_6 45) r_1.toNatClampNeg).trans ((congrFun (gU_k (by decide)) r_1.toNatClampNeg).trans rfl))))))))), pk_us]; exact hd9), ((congrFun (congrFun est_18 13) r_1.toNatClampNeg).trans ((congrFun (gU_k (by decide)) r_1.toNatClampNeg).trans ((congrFun (congrFun est_13 13) r_1.toNatClampNeg).trans ((congrFun (gU_k (by decide)) r_1.toNatClampNeg).trans ((congrFun (congrFun est_8 13) r_1.toNatClampNeg).trans ((congrFun (gU_k (by decide)) r_1.toNatClampNeg).trans ((congrFun (congrFun est_6 13) r_1.toNatClampNeg).trans ((congrFun (gU_k (by decide)) r_1.toNatClampNeg).trans rfl))))))))⟩)⟩), (tdX.trans (tdX.trans (tdX.trans (tdX.trans tdX.rf (tdX.upk est_6 (by decide))) (tdX.upk est_8 (by decide))) (tdX.upk est_13 (by decide))) (tdX.upk est_18 (by decide)))⟩ (by exact Nat.le_refl _) (by exact Nat.le_refl _) dX6_perform_176
      · have ic_21 := gz_nlt (by decide : (7 : Int32).toInt = 7) (rfl : y.toInt = y.toInt) c_21
        refine lv_aload_n hx hb dX6_perform_139 rfl (lv_at hl 3 rfl) ?_
        refine gs_get (C := RX6) (T := TX6) (N := 15) hx hb hts inX6 hown hK hM 38 0 6 (by decide) rfl rfl (by decide) (hts _ gm_249) (fun _ h9 => h9) rfl dX6_perform_140 ?_
        refine lv_iload_n hx hb dX6_perform_143 rfl (lv_at hl 2 rfl) ?_
        have h_22 : r_1.toNatClampNeg < 15 := gs_lt (vp_in_iff.mpr ⟨by omega, by omega⟩)
        refine gs_alda hx hb hK hM 40 0 (by decide) rfl (vp_in_iff.mpr ⟨by omega, by omega⟩) (a := ad 41 r_1.toNatClampNeg) (if_pos h_22) dX6_perform_144 ?_
        refine lv_iload hx hb dX6_perform_145 (lv_at hl 1 rfl) ?_
        refine lv_iload_n hx hb dX6_perform_147 rfl (lv_at hl 5 rfl) ?_
        refine lv_iconst (v := 2) hx hb dX6_perform_148 (by decide) ?_
        refine lv_isub hx hb dX6_perform_149 ?_
        refine lv_topi (fun x_23 ex_23 => ?_)
        try have tx_23 : x_23.toInt = y.toInt - 2 := by rw [ex_23]; exact gz_subP (x := y.toInt) (y := 2) rfl (by decide) (by omega) (by omega)
        refine gs_iast hx hb hK hI hm hM hS 41 r_1.toNatClampNeg h_22 (fun _ => rfl) (vp_in_iff.mpr ⟨by omega, by omega⟩) dX6_perform_150 (fun st_24 H locs est_24 hM hS => ?_)
        have hB_st_24 : gBN bX kX [1300, 4100, 4300, 4500, 4600] st st_24 := by rw [est_24]; exact hB_st_18.up (show (4100 : Nat) ∈ _ from by decide) (show (0 : Int) ≤ x_23.toInt from by omega) (show x_23.toInt ≤ (5 : Int) from by omega)
        refine lv_aload_n hx hb dX6_perform_151 rfl (lv_at hl 3 rfl) ?_
        refine gs_get (C := RX6) (T := TX6) (N := 15) hx hb hts inX6 hown hK hM 38 0 7 (by decide) rfl rfl (by decide) (hts _ gm_250) (fun _ h9 => h9) rfl dX6_perform_152 ?_
        refine lv_iload_n hx hb dX6_perform_155 rfl (lv_at hl 2 rfl) ?_
        have h_25 : r_1.toNatClampNeg < 15 := gs_lt (vp_in_iff.mpr ⟨by omega, by omega⟩)
        refine gs_alda hx hb hK hM 42 0 (by decide) rfl (vp_in_iff.mpr ⟨by omega, by omega⟩) (a := ad 43 r_1.toNatClampNeg) (if_pos h_25) dX6_perform_156 ?_
        refine lv_iload hx hb dX6_perform_157 (lv_at hl 1 rfl) ?_
        refine lv_iload_n hx hb dX6_perform_159 rfl (lv_at hl 2 rfl) ?_
        refine lv_aload_n hx hb dX6_perform_160 rfl (lv_at hl 3 rfl) ?_
        refine gs_get (C := RX6) (T := TX6) (N := 15) hx hb hts inX6 hown hK hM 38 0 0 (by decide) rfl rfl (by decide) (hts _ gm_243) (fun _ h9 => h9) rfl dX6_perform_161 ?_
        refine gs_getN (host := "WellCourt") (C := RX3) (T := TX3) (N := 3) hx hb hts inX3 hown hK hM 4 0 2 (by decide) rfl rfl (by decide) (va_Nw.use rfl (hov.2.2 _ gn_89)) (fun _ h9 => h9) rfl dX6_perform_164 ?_
        refine lv_iload hx hb dX6_perform_167 (lv_at hl 0 rfl) ?_
        have h_26 : x_5.toNatClampNeg < 6 := gs_lt (vp_in_iff.mpr ⟨by omega, by omega⟩)
        refine gs_alda hx hb hK hM 7 0 (by decide) rfl (vp_in_iff.mpr ⟨by omega, by omega⟩) (a := ad 8 x_5.toNatClampNeg) (if_pos h_26) dX6_perform_169 ?_
        refine lv_iload_n hx hb dX6_perform_170 rfl (lv_at hl 5 rfl) ?_
        refine lv_iconst (v := 2) hx hb dX6_perform_171 (by decide) ?_
        refine lv_isub hx hb dX6_perform_172 ?_
        refine lv_topi (fun x_27 ex_27 => ?_)
        try have tx_27 : x_27.toInt = y.toInt - 2 := by rw [ex_27]; exact gz_subP (x := y.toInt) (y := 2) rfl (by decide) (by omega) (by omega)
        refine gs_iald hx hb hK hM 8 x_5.toNatClampNeg h_26 rfl (vp_in_iff.mpr ⟨by omega, by omega⟩) dX6_perform_173 ?_
        refine lv_topi (fun x_28 ex_28 => ?_)
        have qx_28 : x_28.toInt = (st_24 8 x_5.toNatClampNeg (x_27.toNatClampNeg)).toInt := congrArg Int32.toInt ex_28
        have rx_28 : x_28.toInt = ((st 8 x_5.toNatClampNeg (x_27.toNatClampNeg)) : Int32).toInt := by rw [ex_28]; exact congrArg Int32.toInt ((((congrFun (congrFun (congrFun est_24 8) x_5.toNatClampNeg) (x_27.toNatClampNeg)).trans (congrFun (congrFun (gU_k (by decide)) x_5.toNatClampNeg) (x_27.toNatClampNeg))).trans (((congrFun (congrFun (congrFun est_18 8) x_5.toNatClampNeg) (x_27.toNatClampNeg)).trans (congrFun (congrFun (gU_k (by decide)) x_5.toNatClampNeg) (x_27.toNatClampNeg))).trans (((congrFun (congrFun (congrFun est_13 8) x_5.toNatClampNeg) (x_27.toNatClampNeg)).trans (congrFun (congrFun (gU_k (by decide)) x_5.toNatClampNeg) (x_27.toNatClampNeg))).trans (((congrFun (congrFun (congrFun est_8 8) x_5.toNatClampNeg) (x_27.toNatClampNeg)).trans (congrFun (congrFun (gU_k (by decide)) x_5.toNatClampNeg) (x_27.toNatClampNeg))).trans ((congrFun (congrFun (congrFun est_6 8) x_5.toNatClampNeg) (x_27.toNatClampNeg)).trans (congrFun (congrFun (gU_k (by decide)) x_5.toNatClampNeg) (x_27.toNatClampNeg))))))))
        refine lv_iadd hx hb dX6_perform_174 ?_
        refine lv_topi (fun x_29 ex_29 => ?_)
        try have tx_29 : x_29.toInt = r_1.toInt + x_28.toInt := by rw [ex_29]; exact gz_addI (x := r_1.toInt) (y := x_28.toInt) rfl rfl (by omega) (by omega)
        refine gs_iast hx hb hK hI hm hM hS 43 r_1.toNatClampNeg h_25 (fun _ => rfl) (vp_in_iff.mpr ⟨by omega, by omega⟩) dX6_perform_175 (fun st_30 H locs est_30 hM hS => ?_)
        have hB_st_30 : gBN bX kX [1300, 4100, 4300, 4500, 4600] st st_30 := by rw [est_30]; exact hB_st_24.up (show (4300 : Nat) ∈ _ from by decide) (gi_lo _) (gi_hi _)
        exact gs_vret hx hb hr hlocks hM hS ⟨hB_st_30, (by rw [← er9, ← eh9]; exact ⟨((congrFun (congrFun est_30 46) 0).trans ((congrFun (gU_k (by decide)) 0).trans ((congrFun (congrFun est_24 46) 0).trans ((congrFun (gU_k (by decide)) 0).trans ((congrFun (congrFun est_18 46) 0).trans ((congrFun (gU_k (by decide)) 0).trans ((congrFun (congrFun est_13 46) 0).trans ((congrFun (gU_k (by decide)) 0).trans ((congrFun (congrFun est_8 46) 0).trans ((congrFun (gU_k (by decide)) 0).trans ((congrFun (congrFun est_6 46) 0).trans ((gU_at _ _ _ _ _).trans (congrArg (fun f9 => upd f9 (x.toNatClampNeg) (y : Int32)) rfl))))))))))))), (fO.up (fO.up (fO.up (fO.up (fO.up (fO.upk fO.rf est_6 (by decide)) est_8) est_13) est_18) est_24) est_30), (fun j hj => ⟨(by rw [show st_30 41 r_1.toNatClampNeg = (upd (upd (st 41 r_1.toNatClampNeg) (x_2.toNatClampNeg) (x_5 : Int32)) (x_2.toNatClampNeg) (x_23 : Int32)) from ((congrFun (congrFun est_30 41) r_1.toNatClampNeg).trans ((congrFun (gU_k (by decide)) r_1.toNatClampNeg).trans ((congrFun (congrFun est_24 41) r_1.toNatClampNeg).trans ((gU_at _ _ _ _ _).trans (congrArg (fun f9 => upd f9 (x_2.toNatClampNeg) (x_23 : Int32)) ((congrFun (congrFun est_18 41) r_1.toNatClampNeg).trans ((congrFun (gU_k (by decide)) r_1.toNatClampNeg).trans ((congrFun (congrFun est_13 41) r_1.toNatClampNeg).trans ((congrFun (gU_k (by decide)) r_1.toNatClampNeg).trans ((congrFun (congrFun est_8 41) r_1.toNatClampNeg).trans ((gU_at _ _ _ _ _).trans (congrArg (fun f9 => upd f9 (x_2.toNatClampNeg) (x_5 : Int32)) ((congrFun (congrFun est_6 41) r_1.toNatClampNeg).trans ((congrFun (gU_k (by decide)) r_1.toNatClampNeg).trans rfl)))))))))))))), pk_un hj, pk_un hj]), (by rw [show st_30 43 r_1.toNatClampNeg = (upd (upd (st 43 r_1.toNatClampNeg) (x_2.toNatClampNeg) (x_12 : Int32)) (x_2.toNatClampNeg) (x_29 : Int32)) from ((congrFun (congrFun est_30 43) r_1.toNatClampNeg).trans ((gU_at _ _ _ _ _).trans (congrArg (fun f9 => upd f9 (x_2.toNatClampNeg) (x_29 : Int32)) ((congrFun (congrFun est_24 43) r_1.toNatClampNeg).trans ((congrFun (gU_k (by decide)) r_1.toNatClampNeg).trans ((congrFun (congrFun est_18 43) r_1.toNatClampNeg).trans ((congrFun (gU_k (by decide)) r_1.toNatClampNeg).trans ((congrFun (congrFun est_13 43) r_1.toNatClampNeg).trans ((gU_at _ _ _ _ _).trans (congrArg (fun f9 => upd f9 (x_2.toNatClampNeg) (x_12 : Int32)) ((congrFun (congrFun est_8 43) r_1.toNatClampNeg).trans ((congrFun (gU_k (by decide)) r_1.toNatClampNeg).trans ((congrFun (congrFun est_6 43) r_1.toNatClampNeg).trans ((congrFun (gU_k (by decide)) r_1.toNatClampNeg).trans rfl)))))))))))))), pk_un hj, pk_un hj]), (by rw [show st_30 45 r_1.toNatClampNeg = (upd (st 45 r_1.toNatClampNeg) (x_2.toNatClampNeg) (x_17 : Int32)) from ((congrFun (congrFun est_30 45) r_1.toNatClampNeg).trans ((congrFun (gU_k (by decide)) r_1.toNatClampNeg).trans ((congrFun (congrFun est_24 45) r_1.toNatClampNeg).trans ((congrFun (gU_k (by decide)) r_1.toNatClampNeg).trans ((congrFun (congrFun est_18 45) r_1.toNatClampNeg).trans ((gU_at _ _ _ _ _).trans (congrArg (fun f9 => upd f9 (x_2.toNatClampNeg) (x_17 : Int32)) ((congrFun (congrFun est_13 45) r_1.toNatClampNeg).trans ((congrFun (gU_k (by decide)) r_1.toNatClampNeg).trans ((congrFun (congrFun est_8 45) r_1.toNatClampNeg).trans ((congrFun (gU_k (by decide)) r_1.toNatClampNeg).trans ((congrFun (congrFun est_6 45) r_1.toNatClampNeg).trans ((congrFun (gU_k (by decide)) r_1.toNatClampNeg).trans rfl))))))))))))), pk_un hj])⟩), r_1, by omega, Or.inr (Or.inr ⟨⟨by omega, by omega⟩, (by rw [show st_30 41 r_1.toNatClampNeg = (upd (upd (st 41 r_1.toNatClampNeg) (x_2.toNatClampNeg) (x_5 : Int32)) (x_2.toNatClampNeg) (x_23 : Int32)) from ((congrFun (congrFun est_30 41) r_1.toNatClampNeg).trans ((congrFun (gU_k (by decide)) r_1.toNatClampNeg).trans ((congrFun (congrFun est_24 41) r_1.toNatClampNeg).trans ((gU_at _ _ _ _ _).trans (congrArg (fun f9 => upd f9 (x_2.toNatClampNeg) (x_23 : Int32)) ((congrFun (congrFun est_18 41) r_1.toNatClampNeg).trans ((congrFun (gU_k (by decide)) r_1.toNatClampNeg).trans ((congrFun (congrFun est_13 41) r_1.toNatClampNeg).trans ((congrFun (gU_k (by decide)) r_1.toNatClampNeg).trans ((congrFun (congrFun est_8 41) r_1.toNatClampNeg).trans ((gU_at _ _ _ _ _).trans (congrArg (fun f9 => upd f9 (x_2.toNatClampNeg) (x_5 : Int32)) ((congrFun (congrFun est_6 41) r_1.toNatClampNeg).trans ((congrFun (gU_k (by decide)) r_1.toNatClampNeg).trans rfl)))))))))))))), pk_us]; omega), (by rw [show st_30 43 r_1.toNatClampNeg = (upd (upd (st 43 r_1.toNatClampNeg) (x_2.toNatClampNeg) (x_12 : Int32)) (x_2.toNatClampNeg) (x_29 : Int32)) from ((congrFun (congrFun est_30 43) r_1.toNatClampNeg).trans ((gU_at _ _ _ _ _).trans (congrArg (fun f9 => upd f9 (x_2.toNatClampNeg) (x_29 : Int32)) ((congrFun (congrFun est_24 43) r_1.toNatClampNeg).trans ((congrFun (gU_k (by decide)) r_1.toNatClampNeg).trans ((congrFun (congrFun est_18 43) r_1.toNatClampNeg).trans ((congrFun (gU_k (by decide)) r_1.toNatClampNeg).trans ((congrFun (congrFun est_13 43) r_1.toNatClampNeg).trans ((gU_at _ _ _ _ _).trans (congrArg (fun f9 => upd f9 (x_2.toNatClampNeg) (x_12 : Int32)) ((congrFun (congrFun est_8 43) r_1.toNatClampNeg).trans ((congrFun (gU_k (by decide)) r_1.toNatClampNeg).trans ((congrFun (congrFun est_6 43) r_1.toNatClampNeg).trans ((congrFun (gU_k (by decide)) r_1.toNatClampNeg).trans rfl)))))))))))))), pk_us]; rw [ex_29]; have c_i := gs_cl (x := x_27) (by omega); have h9 := (ex_28.trans (((congrFun (congrFun (congrFun est_24 8) x_5.toNatClampNeg) (x_27.toNatClampNeg)).trans (congrFun (congrFun (gU_k (by decide)) x_5.toNatClampNeg) (x_27.toNatClampNeg))).trans (((congrFun (congrFun (congrFun est_18 8) x_5.toNatClampNeg) (x_27.toNatClampNeg)).trans (congrFun (congrFun (gU_k (by decide)) x_5.toNatClampNeg) (x_27.toNatClampNeg))).trans (((congrFun (congrFun (congrFun est_13 8) x_5.toNatClampNeg) (x_27.toNatClampNeg)).trans (congrFun (congrFun (gU_k (by decide)) x_5.toNatClampNeg) (x_27.toNatClampNeg))).trans (((congrFun (congrFun (congrFun est_8 8) x_5.toNatClampNeg) (x_27.toNatClampNeg)).trans (congrFun (congrFun (gU_k (by decide)) x_5.toNatClampNeg) (x_27.toNatClampNeg))).trans ((congrFun (congrFun (congrFun est_6 8) x_5.toNatClampNeg) (x_27.toNatClampNeg)).trans (congrFun (congrFun (gU_k (by decide)) x_5.toNatClampNeg) (x_27.toNatClampNeg)))))))); rw [hp9, show x_27.toNatClampNeg = (y.toInt - 2).toNat by omega] at h9; rw [h9]), (by rw [show st_30 45 r_1.toNatClampNeg = (upd (st 45 r_1.toNatClampNeg) (x_2.toNatClampNeg) (x_17 : Int32)) from ((congrFun (congrFun est_30 45) r_1.toNatClampNeg).trans ((congrFun (gU_k (by decide)) r_1.toNatClampNeg).trans ((congrFun (congrFun est_24 45) r_1.toNatClampNeg).trans ((congrFun (gU_k (by decide)) r_1.toNatClampNeg).trans ((congrFun (congrFun est_18 45) r_1.toNatClampNeg).trans ((gU_at _ _ _ _ _).trans (congrArg (fun f9 => upd f9 (x_2.toNatClampNeg) (x_17 : Int32)) ((congrFun (congrFun est_13 45) r_1.toNatClampNeg).trans ((congrFun (gU_k (by decide)) r_1.toNatClampNeg).trans ((congrFun (congrFun est_8 45) r_1.toNatClampNeg).trans ((congrFun (gU_k (by decide)) r_1.toNatClampNeg).trans ((congrFun (congrFun est_6 45) r_1.toNatClampNeg).trans ((congrFun (gU_k (by decide)) r_1.toNatClampNeg).trans rfl))))))))))))), pk_us]; exact hd9), ((congrFun (congrFun est_30 13) r_1.toNatClampNeg).trans ((congrFun (gU_k (by decide)) r_1.toNatClampNeg).trans ((congrFun (congrFun est_24 13) r_1.toNatClampNeg).trans ((congrFun (gU_k (by decide)) r_1.toNatClampNeg).trans ((congrFun (congrFun est_18 13) r_1.toNatClampNeg).trans ((congrFun (gU_k (by decide)) r_1.toNatClampNeg).trans ((congrFun (congrFun est_13 13) r_1.toNatClampNeg).trans ((congrFun (gU_k (by decide)) r_1.toNatClampNeg).trans ((congrFun (congrFun est_8 13) r_1.toNatClampNeg).trans ((congrFun (gU_k (by decide)) r_1.toNatClampNeg).trans ((congrFun (congrFun est_6 13) r_1.toNatClampNeg).trans ((congrFun (gU_k (by decide)) r_1.toNatClampNeg).trans rfl))))))))))))⟩)⟩), (tdX.trans (tdX.trans (tdX.trans (tdX.trans (tdX.trans (tdX.trans tdX.rf (tdX.upk est_6 (by decide))) (tdX.upk est_8 (by decide))) (tdX.upk est_13 (by decide))) (tdX.upk est_18 (by decide))) (tdX.upk est_24 (by decide))) (tdX.upk est_30 (by decide)))⟩ (by exact Nat.le_refl _) (by exact Nat.le_refl _) dX6_perform_176
  · have ic_19 := gz_eqn (rfl : y.toInt = y.toInt) (by decide : (0 : Int32).toInt = 0) c_19
    refine lv_aload_n hx hb dX6_perform_85 rfl (lv_at hl 3 rfl) ?_
    refine gs_get (C := RX6) (T := TX6) (N := 15) hx hb hts inX6 hown hK hM 38 0 5 (by decide) rfl rfl (by decide) (hts _ gm_248) (fun _ h9 => h9) rfl dX6_perform_86 ?_
    refine lv_iload_n hx hb dX6_perform_89 rfl (lv_at hl 2 rfl) ?_
    have h_31 : r_1.toNatClampNeg < 15 := gs_lt (vp_in_iff.mpr ⟨by omega, by omega⟩)
    refine gs_aldd hx hb hK hM 39 0 (by decide) rfl (vp_in_iff.mpr ⟨by omega, by omega⟩) (a := ad 12 r_1.toNatClampNeg) (if_pos h_31) dX6_perform_90 ?_
    refine gs_getN (host := "WellCourt") (C := RX1) (T := TX1) (N := 3) hx hb hts inX1 hown hK hM 12 r_1.toNatClampNeg 0 (Nat.lt_trans h_31 (by decide)) rfl rfl (by decide) (va_Nw.use rfl (hov.2.2 _ gn_122)) (fun _ h9 => h9) rfl dX6_perform_91 ?_
    refine lv_iload hx hb dX6_perform_94 (lv_at hl 0 rfl) ?_
    refine lv_dup2_11 hx hb dX6_perform_96 rfl rfl ?_
    refine gs_iald hx hb hK hM 13 r_1.toNatClampNeg (Nat.lt_trans h_31 (by decide)) rfl (vp_in_iff.mpr ⟨by omega, by omega⟩) dX6_perform_97 ?_
    refine lv_topi (fun x_32 ex_32 => ?_)
    have qx_32 : x_32.toInt = (st_18 13 r_1.toNatClampNeg (x_5.toNatClampNeg)).toInt := congrArg Int32.toInt ex_32
    have rx_32 : x_32.toInt = ((st 13 r_1.toNatClampNeg (x_5.toNatClampNeg)) : Int32).toInt := by rw [ex_32]; exact congrArg Int32.toInt ((((congrFun (congrFun (congrFun est_18 13) r_1.toNatClampNeg) (x_5.toNatClampNeg)).trans (congrFun (congrFun (gU_k (by decide)) r_1.toNatClampNeg) (x_5.toNatClampNeg))).trans (((congrFun (congrFun (congrFun est_13 13) r_1.toNatClampNeg) (x_5.toNatClampNeg)).trans (congrFun (congrFun (gU_k (by decide)) r_1.toNatClampNeg) (x_5.toNatClampNeg))).trans (((congrFun (congrFun (congrFun est_8 13) r_1.toNatClampNeg) (x_5.toNatClampNeg)).trans (congrFun (congrFun (gU_k (by decide)) r_1.toNatClampNeg) (x_5.toNatClampNeg))).trans ((congrFun (congrFun (congrFun est_6 13) r_1.toNatClampNeg) (x_5.toNatClampNeg)).trans (congrFun (congrFun (gU_k (by decide)) r_1.toNatClampNeg) (x_5.toNatClampNeg)))))))
    refine lv_aload_n hx hb dX6_perform_98 rfl (lv_at hl 3 rfl) ?_
    refine gs_get (C := RX6) (T := TX6) (N := 15) hx hb hts inX6 hown hK hM 38 0 2 (by decide) rfl rfl (by decide) (hts _ gm_245) (fun _ h9 => h9) rfl dX6_perform_99 ?_
    refine gs_getN (host := "WellCourt") (C := RX2) (T := TX2) (N := 5) hx hb hts inX2 hown hK hM 19 0 1 (by decide) rfl rfl (by decide) (va_Nw.use rfl (hov.2.2 _ gn_161)) (fun _ h9 => h9) rfl dX6_perform_102 ?_
    refine lv_iload hx hb dX6_perform_105 (lv_at hl 1 rfl) ?_
    refine gs_iald hx hb hK hM 21 0 (by decide) rfl (vp_in_iff.mpr ⟨by omega, by omega⟩) dX6_perform_107 ?_
    refine lv_topi (fun x_33 ex_33 => ?_)
    have qx_33 : x_33.toInt = (st_18 21 0 (x_2.toNatClampNeg)).toInt := congrArg Int32.toInt ex_33
    have rx_33 : x_33.toInt = ((st 21 0 (x_2.toNatClampNeg)) : Int32).toInt := by rw [ex_33]; exact congrArg Int32.toInt ((((congrFun (congrFun (congrFun est_18 21) 0) (x_2.toNatClampNeg)).trans (congrFun (congrFun (gU_k (by decide)) 0) (x_2.toNatClampNeg))).trans (((congrFun (congrFun (congrFun est_13 21) 0) (x_2.toNatClampNeg)).trans (congrFun (congrFun (gU_k (by decide)) 0) (x_2.toNatClampNeg))).trans (((congrFun (congrFun (congrFun est_8 21) 0) (x_2.toNatClampNeg)).trans (congrFun (congrFun (gU_k (by decide)) 0) (x_2.toNatClampNeg))).trans ((congrFun (congrFun (congrFun est_6 21) 0) (x_2.toNatClampNeg)).trans (congrFun (congrFun (gU_k (by decide)) 0) (x_2.toNatClampNeg)))))))
    refine lv_isub hx hb dX6_perform_108 ?_
    refine lv_topi (fun x_34 ex_34 => ?_)
    refine gs_iast hx hb hK hI hm hM hS 13 r_1.toNatClampNeg (Nat.lt_trans h_31 (by decide)) (fun _ => rfl) (vp_in_iff.mpr ⟨by omega, by omega⟩) dX6_perform_109 (fun st_35 H locs est_35 hM hS => ?_)
    have hB_st_35 : gBN bX kX [1300, 4100, 4300, 4500, 4600] st st_35 := by rw [est_35]; exact hB_st_18.up (show (1300 : Nat) ∈ _ from by decide) (gi_lo _) (gi_hi _)
    refine lv_aload_n hx hb dX6_perform_110 rfl (lv_at hl 3 rfl) ?_
    refine gs_get (C := RX6) (T := TX6) (N := 15) hx hb hts inX6 hown hK hM 38 0 8 (by decide) rfl rfl (by decide) (hts _ gm_251) (fun _ h9 => h9) rfl dX6_perform_111 ?_
    refine lv_iload_n hx hb dX6_perform_114 rfl (lv_at hl 2 rfl) ?_
    have h_36 : r_1.toNatClampNeg < 15 := gs_lt (vp_in_iff.mpr ⟨by omega, by omega⟩)
    refine gs_alda hx hb hK hM 44 0 (by decide) rfl (vp_in_iff.mpr ⟨by omega, by omega⟩) (a := ad 45 r_1.toNatClampNeg) (if_pos h_36) dX6_perform_115 ?_
    refine lv_iload hx hb dX6_perform_116 (lv_at hl 1 rfl) ?_
    refine lv_aload_n hx hb dX6_perform_118 rfl (lv_at hl 3 rfl) ?_
    refine gs_get (C := RX6) (T := TX6) (N := 15) hx hb hts inX6 hown hK hM 38 0 4 (by decide) rfl rfl (by decide) (hts _ gm_247) (fun _ h9 => h9) rfl dX6_perform_119 ?_
    refine lv_topi (fun x_37 ex_37 => ?_)
    have ex_37 : (st 38 0 4) = x_37 := Eq.symm (ex_37.trans (((congrFun (congrFun (congrFun est_35 38) 0) 4).trans (congrFun (congrFun (gU_k (by decide)) 0) 4)).trans (((congrFun (congrFun (congrFun est_18 38) 0) 4).trans (congrFun (congrFun (gU_k (by decide)) 0) 4)).trans (((congrFun (congrFun (congrFun est_13 38) 0) 4).trans (congrFun (congrFun (gU_k (by decide)) 0) 4)).trans (((congrFun (congrFun (congrFun est_8 38) 0) 4).trans (congrFun (congrFun (gU_k (by decide)) 0) 4)).trans ((congrFun (congrFun (congrFun est_6 38) 0) 4).trans (congrFun (congrFun (gU_k (by decide)) 0) 4)))))))
    subst ex_37
    have bf_38 : (0 : Int) ≤ (st 38 0 4).toInt ∧ (st 38 0 4).toInt ≤ (199 : Int) := hB_st.1 38 0 4
    refine lv_iload_n hx hb dX6_perform_122 rfl (lv_at hl 2 rfl) ?_
    refine lv_iadd hx hb dX6_perform_123 ?_
    refine lv_topi (fun x_39 ex_39 => ?_)
    try have tx_39 : x_39.toInt = (st 38 0 4).toInt + r_1.toInt := by rw [ex_39]; exact gz_addI (x := (st 38 0 4).toInt) (y := r_1.toInt) rfl rfl (by omega) (by omega)
    refine gs_iast hx hb hK hI hm hM hS 45 r_1.toNatClampNeg h_36 (fun _ => rfl) (vp_in_iff.mpr ⟨by omega, by omega⟩) dX6_perform_124 (fun st_40 H locs est_40 hM hS => ?_)
    have hB_st_40 : gBN bX kX [1300, 4100, 4300, 4500, 4600] st st_40 := by rw [est_40]; exact hB_st_35.up (show (4500 : Nat) ∈ _ from by decide) (gi_lo _) (gi_hi _)
    refine lv_goto (tgt := 176) hx hb dX6_perform_125 (by decide) ?_
    exact gs_vret hx hb hr hlocks hM hS ⟨hB_st_40, (by rw [← er9, ← eh9]; exact ⟨((congrFun (congrFun est_40 46) 0).trans ((congrFun (gU_k (by decide)) 0).trans ((congrFun (congrFun est_35 46) 0).trans ((congrFun (gU_k (by decide)) 0).trans ((congrFun (congrFun est_18 46) 0).trans ((congrFun (gU_k (by decide)) 0).trans ((congrFun (congrFun est_13 46) 0).trans ((congrFun (gU_k (by decide)) 0).trans ((congrFun (congrFun est_8 46) 0).trans ((congrFun (gU_k (by decide)) 0).trans ((congrFun (congrFun est_6 46) 0).trans ((gU_at _ _ _ _ _).trans (congrArg (fun f9 => upd f9 (x.toNatClampNeg) (y : Int32)) rfl))))))))))))), (fO.up (fO.up (fO.up (fO.up (fO.up (fO.upk fO.rf est_6 (by decide)) est_8) est_13) est_18) est_35) est_40), (fun j hj => ⟨(by rw [show st_40 41 r_1.toNatClampNeg = (upd (st 41 r_1.toNatClampNeg) (x_2.toNatClampNeg) (x_5 : Int32)) from ((congrFun (congrFun est_40 41) r_1.toNatClampNeg).trans ((congrFun (gU_k (by decide)) r_1.toNatClampNeg).trans ((congrFun (congrFun est_35 41) r_1.toNatClampNeg).trans ((congrFun (gU_k (by decide)) r_1.toNatClampNeg).trans ((congrFun (congrFun est_18 41) r_1.toNatClampNeg).trans ((congrFun (gU_k (by decide)) r_1.toNatClampNeg).trans ((congrFun (congrFun est_13 41) r_1.toNatClampNeg).trans ((congrFun (gU_k (by decide)) r_1.toNatClampNeg).trans ((congrFun (congrFun est_8 41) r_1.toNatClampNeg).trans ((gU_at _ _ _ _ _).trans (congrArg (fun f9 => upd f9 (x_2.toNatClampNeg) (x_5 : Int32)) ((congrFun (congrFun est_6 41) r_1.toNatClampNeg).trans ((congrFun (gU_k (by decide)) r_1.toNatClampNeg).trans rfl))))))))))))), pk_un hj]), (by rw [show st_40 43 r_1.toNatClampNeg = (upd (st 43 r_1.toNatClampNeg) (x_2.toNatClampNeg) (x_12 : Int32)) from ((congrFun (congrFun est_40 43) r_1.toNatClampNeg).trans ((congrFun (gU_k (by decide)) r_1.toNatClampNeg).trans ((congrFun (congrFun est_35 43) r_1.toNatClampNeg).trans ((congrFun (gU_k (by decide)) r_1.toNatClampNeg).trans ((congrFun (congrFun est_18 43) r_1.toNatClampNeg).trans ((congrFun (gU_k (by decide)) r_1.toNatClampNeg).trans ((congrFun (congrFun est_13 43) r_1.toNatClampNeg).trans ((gU_at _ _ _ _ _).trans (congrArg (fun f9 => upd f9 (x_2.toNatClampNeg) (x_12 : Int32)) ((congrFun (congrFun est_8 43) r_1.toNatClampNeg).trans ((congrFun (gU_k (by decide)) r_1.toNatClampNeg).trans ((congrFun (congrFun est_6 43) r_1.toNatClampNeg).trans ((congrFun (gU_k (by decide)) r_1.toNatClampNeg).trans rfl))))))))))))), pk_un hj]), (by rw [show st_40 45 r_1.toNatClampNeg = (upd (upd (st 45 r_1.toNatClampNeg) (x_2.toNatClampNeg) (x_17 : Int32)) (x_2.toNatClampNeg) (x_39 : Int32)) from ((congrFun (congrFun est_40 45) r_1.toNatClampNeg).trans ((gU_at _ _ _ _ _).trans (congrArg (fun f9 => upd f9 (x_2.toNatClampNeg) (x_39 : Int32)) ((congrFun (congrFun est_35 45) r_1.toNatClampNeg).trans ((congrFun (gU_k (by decide)) r_1.toNatClampNeg).trans ((congrFun (congrFun est_18 45) r_1.toNatClampNeg).trans ((gU_at _ _ _ _ _).trans (congrArg (fun f9 => upd f9 (x_2.toNatClampNeg) (x_17 : Int32)) ((congrFun (congrFun est_13 45) r_1.toNatClampNeg).trans ((congrFun (gU_k (by decide)) r_1.toNatClampNeg).trans ((congrFun (congrFun est_8 45) r_1.toNatClampNeg).trans ((congrFun (gU_k (by decide)) r_1.toNatClampNeg).trans ((congrFun (congrFun est_6 45) r_1.toNatClampNeg).trans ((congrFun (gU_k (by decide)) r_1.toNatClampNeg).trans rfl)))))))))))))), pk_un hj, pk_un hj])⟩), r_1, by omega, Or.inl ⟨by omega, (by rw [show st_40 41 r_1.toNatClampNeg = (upd (st 41 r_1.toNatClampNeg) (x_2.toNatClampNeg) (x_5 : Int32)) from ((congrFun (congrFun est_40 41) r_1.toNatClampNeg).trans ((congrFun (gU_k (by decide)) r_1.toNatClampNeg).trans ((congrFun (congrFun est_35 41) r_1.toNatClampNeg).trans ((congrFun (gU_k (by decide)) r_1.toNatClampNeg).trans ((congrFun (congrFun est_18 41) r_1.toNatClampNeg).trans ((congrFun (gU_k (by decide)) r_1.toNatClampNeg).trans ((congrFun (congrFun est_13 41) r_1.toNatClampNeg).trans ((congrFun (gU_k (by decide)) r_1.toNatClampNeg).trans ((congrFun (congrFun est_8 41) r_1.toNatClampNeg).trans ((gU_at _ _ _ _ _).trans (congrArg (fun f9 => upd f9 (x_2.toNatClampNeg) (x_5 : Int32)) ((congrFun (congrFun est_6 41) r_1.toNatClampNeg).trans ((congrFun (gU_k (by decide)) r_1.toNatClampNeg).trans rfl))))))))))))), pk_us]; exact hp9), (by rw [show st_40 43 r_1.toNatClampNeg = (upd (st 43 r_1.toNatClampNeg) (x_2.toNatClampNeg) (x_12 : Int32)) from ((congrFun (congrFun est_40 43) r_1.toNatClampNeg).trans ((congrFun (gU_k (by decide)) r_1.toNatClampNeg).trans ((congrFun (congrFun est_35 43) r_1.toNatClampNeg).trans ((congrFun (gU_k (by decide)) r_1.toNatClampNeg).trans ((congrFun (congrFun est_18 43) r_1.toNatClampNeg).trans ((congrFun (gU_k (by decide)) r_1.toNatClampNeg).trans ((congrFun (congrFun est_13 43) r_1.toNatClampNeg).trans ((gU_at _ _ _ _ _).trans (congrArg (fun f9 => upd f9 (x_2.toNatClampNeg) (x_12 : Int32)) ((congrFun (congrFun est_8 43) r_1.toNatClampNeg).trans ((congrFun (gU_k (by decide)) r_1.toNatClampNeg).trans ((congrFun (congrFun est_6 43) r_1.toNatClampNeg).trans ((congrFun (gU_k (by decide)) r_1.toNatClampNeg).trans rfl))))))))))))), pk_us]; exact ha9), (by rw [show st_40 45 r_1.toNatClampNeg = (upd (upd (st 45 r_1.toNatClampNeg) (x_2.toNatClampNeg) (x_17 : Int32)) (x_2.toNatClampNeg) (x_39 : Int32)) from ((congrFun (congrFun est_40 45) r_1.toNatClampNeg).trans ((gU_at _ _ _ _ _).trans (congrArg (fun f9 => upd f9 (x_2.toNatClampNeg) (x_39 : Int32)) ((congrFun (congrFun est_35 45) r_1.toNatClampNeg).trans ((congrFun (gU_k (by decide)) r_1.toNatClampNeg).trans ((congrFun (congrFun est_18 45) r_1.toNatClampNeg).trans ((gU_at _ _ _ _ _).trans (congrArg (fun f9 => upd f9 (x_2.toNatClampNeg) (x_17 : Int32)) ((congrFun (congrFun est_13 45) r_1.toNatClampNeg).trans ((congrFun (gU_k (by decide)) r_1.toNatClampNeg).trans ((congrFun (congrFun est_8 45) r_1.toNatClampNeg).trans ((congrFun (gU_k (by decide)) r_1.toNatClampNeg).trans ((congrFun (congrFun est_6 45) r_1.toNatClampNeg).trans ((congrFun (gU_k (by decide)) r_1.toNatClampNeg).trans rfl)))))))))))))), pk_us]; exact ex_39), (((congrFun (congrFun est_40 13) r_1.toNatClampNeg).trans ((congrFun (gU_k (by decide)) r_1.toNatClampNeg).trans ((congrFun (congrFun est_35 13) r_1.toNatClampNeg).trans ((gU_at _ _ _ _ _).trans (congrArg (fun f9 => upd f9 (x_5.toNatClampNeg) (x_34 : Int32)) ((congrFun (congrFun est_18 13) r_1.toNatClampNeg).trans ((congrFun (gU_k (by decide)) r_1.toNatClampNeg).trans ((congrFun (congrFun est_13 13) r_1.toNatClampNeg).trans ((congrFun (gU_k (by decide)) r_1.toNatClampNeg).trans ((congrFun (congrFun est_8 13) r_1.toNatClampNeg).trans ((congrFun (gU_k (by decide)) r_1.toNatClampNeg).trans ((congrFun (congrFun est_6 13) r_1.toNatClampNeg).trans ((congrFun (gU_k (by decide)) r_1.toNatClampNeg).trans rfl))))))))))))).trans (by rw [ex_34, show x_32 = _ from (ex_32.trans (((congrFun (congrFun (congrFun est_18 13) r_1.toNatClampNeg) (x_5.toNatClampNeg)).trans (congrFun (congrFun (gU_k (by decide)) r_1.toNatClampNeg) (x_5.toNatClampNeg))).trans (((congrFun (congrFun (congrFun est_13 13) r_1.toNatClampNeg) (x_5.toNatClampNeg)).trans (congrFun (congrFun (gU_k (by decide)) r_1.toNatClampNeg) (x_5.toNatClampNeg))).trans (((congrFun (congrFun (congrFun est_8 13) r_1.toNatClampNeg) (x_5.toNatClampNeg)).trans (congrFun (congrFun (gU_k (by decide)) r_1.toNatClampNeg) (x_5.toNatClampNeg))).trans ((congrFun (congrFun (congrFun est_6 13) r_1.toNatClampNeg) (x_5.toNatClampNeg)).trans (congrFun (congrFun (gU_k (by decide)) r_1.toNatClampNeg) (x_5.toNatClampNeg))))))), show x_33 = _ from (ex_33.trans (((congrFun (congrFun (congrFun est_18 21) 0) (x_2.toNatClampNeg)).trans (congrFun (congrFun (gU_k (by decide)) 0) (x_2.toNatClampNeg))).trans (((congrFun (congrFun (congrFun est_13 21) 0) (x_2.toNatClampNeg)).trans (congrFun (congrFun (gU_k (by decide)) 0) (x_2.toNatClampNeg))).trans (((congrFun (congrFun (congrFun est_8 21) 0) (x_2.toNatClampNeg)).trans (congrFun (congrFun (gU_k (by decide)) 0) (x_2.toNatClampNeg))).trans ((congrFun (congrFun (congrFun est_6 21) 0) (x_2.toNatClampNeg)).trans (congrFun (congrFun (gU_k (by decide)) 0) (x_2.toNatClampNeg))))))), hp9]))⟩⟩), (tdX.trans (tdX.trans (tdX.trans (tdX.trans (tdX.trans (tdX.trans tdX.rf (tdX.upk est_6 (by decide))) (tdX.upk est_8 (by decide))) (tdX.upk est_13 (by decide))) (tdX.upk est_18 (by decide))) (tdX.up est_35 (by first | decide | omega))) (tdX.upk est_40 (by decide)))⟩ (by exact Nat.le_refl _) (by exact Nat.le_refl _) dX6_perform_176

set_option maxHeartbeats 4000000 in
set_option maxRecDepth 100000 in
/-- WellCourt$Planner.undo -/
theorem s_X6_undo (l : Launch) (G : va_G) (cy : Nat → ClassId) (sK sV : Nat → Nat) (ad : Nat → Nat → Nat) (sz : Nat) (st : gS) (hB : gBd bX st) (x : Int32) (Xx : Int) (kx : x.toInt = Xx) (hx0 : 0 ≤ Xx) (hx1 : Xx ≤ 55) : gsMv l yX6_undo cX6_undo 4 ({ frames := 1, cells := 0, slots := 0, locals := 20 } : Room) G cy sK sV (shX cy ad) cnX ad sz [.ref (ad 38 0), .int x] st (fun (u : gS) => gBN bX kX [1300] st u ∧ ((udX st u x (x.toNatClampNeg / 4 + 1) (x.toNatClampNeg % 4)) ∧ (tdX st u))) := by
  refine gs_start (fun A => gsQv G (shX cy ad) cnX ad _ A) (by decide) (Nat.le_of_ble_eq_true rfl) ?_
  intro p e s m below meth c A ls H hx hb hr hml hlocks hown hts hK hov hE hI hM hm hS hA hl
  have hl : lv_has ls 4 [(0, .ref (ad 38 0)), (1, .int x)] := hl
  have hB_st : gBN bX kX [1300] st st := gBN.rf hB
  refine lv_aload_n hx hb dX6_undo_0 rfl (lv_at hl 0 rfl) ?_
  refine gs_get (C := RX6) (T := TX6) (N := 15) hx hb hts inX6 hown hK hM 38 0 9 (by decide) rfl rfl (by decide) (hts _ gm_252) (fun _ h9 => h9) rfl dX6_undo_1 ?_
  refine lv_iload_n hx hb dX6_undo_4 rfl (lv_at hl 1 rfl) ?_
  refine gs_iald hx hb hK hM 46 0 (by decide) rfl (vp_in_iff.mpr ⟨by omega, by omega⟩) dX6_undo_5 ?_
  refine lv_topi (fun x_1 ex_1 => ?_)
  have qx_1 : x_1.toInt = (st 46 0 (x.toNatClampNeg)).toInt := congrArg Int32.toInt ex_1
  have bx_1 : (-1 : Int) ≤ x_1.toInt ∧ x_1.toInt ≤ (9 : Int) := by rw [qx_1]; exact hB_st.1 46 0 (x.toNatClampNeg)
  refine lv_if_ne (tgt := 48) hx hb dX6_undo_6 (by decide) (fun c_2 => ?_) (fun c_2 => ?_)
  · have ic_2 := gz_ne (rfl : x_1.toInt = x_1.toInt) (by decide : (0 : Int32).toInt = 0) c_2
    exact gs_vret hx hb hr hlocks hM hS ⟨hB_st, (Or.inr ⟨by omega, rfl⟩), tdX.rf⟩ (by exact Nat.le_refl _) (by exact Nat.le_refl _) dX6_undo_48
  · have ic_2 := gz_eqn (rfl : x_1.toInt = x_1.toInt) (by decide : (0 : Int32).toInt = 0) c_2
    refine lv_iload_n hx hb dX6_undo_9 rfl (lv_at hl 1 rfl) ?_
    refine gs_calli (va_runS (As := [.int x]) (rest := []) ⟨hx, hb, hml, hown, hts⟩ (s_X6_rowOf l G cy sK sV ad H.size st hB_st.1 x x.toInt rfl (by first | decide | omega) (by first | decide | omega)) ⟨(gz_cb (n := 1) hts gm_865 gm_11 gm_867 ⟨by decide +kernel, by decide +kernel, by decide +kernel⟩ ⟨Nat.le_of_ble_eq_true rfl, Nat.le_of_ble_eq_true rfl⟩), hts _ gm_866⟩ (gs_preS hK hov hE hI hM hm hS hA) rfl rfl hl.1 rfl (lv_room (Nat.le_of_ble_eq_true rfl)) dX6_undo_10 ⟨Nat.le_of_ble_eq_true rfl, Nat.le_of_ble_eq_true rfl⟩) hm hS hA (fun r_3 st_3 H locs hw_3 hM hS => ?_)
    obtain ⟨n_3, hw_3⟩ := hw_3
    have n_3 := gBN.nil n_3
    subst n_3
    obtain ⟨hw_3_0, hw_3_1, hw_3_2, hw_3_3⟩ := hw_3
    refine lv_istore_n (lv' := [(2, .int r_3), (0, .ref (ad 38 0)), (1, .int x)]) hx hb dX6_undo_13 rfl hl (by decide) rfl (fun ls hl => ?_)
    refine lv_iload_n hx hb dX6_undo_14 rfl (lv_at hl 2 rfl) ?_
    refine lv_iconst (v := 4) hx hb dX6_undo_15 (by decide) ?_
    refine lv_irem hx hb dX6_undo_16 (by decide) ?_
    refine lv_topi (fun x_4 ex_4 => ?_)
    try have tx_4 := gs_rem (y := 4) (by decide) (show 0 ≤ x.toInt from by omega) (by omega) ex_4
    refine lv_istore_n (lv' := [(3, .int x_4), (2, .int r_3), (0, .ref (ad 38 0)), (1, .int x)]) hx hb dX6_undo_17 rfl hl (by decide) rfl (fun ls hl => ?_)
    have c_x := gs_cl (x := x) (by omega)
    have c_r := gs_cl (x := r_3) (by omega)
    have c_h := gs_cl (x := x_4) (by omega)
    have hm9 : x_4.toInt = Xx % 4 := gs_rem3 (b := 4) (by decide) kx (by omega) (by decide) ex_4
    have er9 : r_3.toNatClampNeg = (x.toNatClampNeg / 4 + 1) := (by omega)
    have eh9 : x_4.toNatClampNeg = (x.toNatClampNeg % 4) := (by omega)
    refine lv_aload_n hx hb dX6_undo_18 rfl (lv_at hl 2 rfl) ?_
    refine gs_get (C := RX6) (T := TX6) (N := 15) hx hb hts inX6 hown hK hM 38 0 5 (by decide) rfl rfl (by decide) (hts _ gm_248) (fun _ h9 => h9) rfl dX6_undo_19 ?_
    refine lv_iload_n hx hb dX6_undo_22 rfl (lv_at hl 1 rfl) ?_
    have h_5 : r_3.toNatClampNeg < 15 := gs_lt (vp_in_iff.mpr ⟨by omega, by omega⟩)
    refine gs_aldd hx hb hK hM 39 0 (by decide) rfl (vp_in_iff.mpr ⟨by omega, by omega⟩) (a := ad 12 r_3.toNatClampNeg) (if_pos h_5) dX6_undo_23 ?_
    refine gs_getN (host := "WellCourt") (C := RX1) (T := TX1) (N := 3) hx hb hts inX1 hown hK hM 12 r_3.toNatClampNeg 0 (Nat.lt_trans h_5 (by decide)) rfl rfl (by decide) (va_Nw.use rfl (hov.2.2 _ gn_122)) (fun _ h9 => h9) rfl dX6_undo_24 ?_
    refine lv_aload_n hx hb dX6_undo_27 rfl (lv_at hl 2 rfl) ?_
    refine gs_get (C := RX6) (T := TX6) (N := 15) hx hb hts inX6 hown hK hM 38 0 6 (by decide) rfl rfl (by decide) (hts _ gm_249) (fun _ h9 => h9) rfl dX6_undo_28 ?_
    refine lv_iload_n hx hb dX6_undo_31 rfl (lv_at hl 1 rfl) ?_
    have h_6 : r_3.toNatClampNeg < 15 := gs_lt (vp_in_iff.mpr ⟨by omega, by omega⟩)
    refine gs_alda hx hb hK hM 40 0 (by decide) rfl (vp_in_iff.mpr ⟨by omega, by omega⟩) (a := ad 41 r_3.toNatClampNeg) (if_pos h_6) dX6_undo_32 ?_
    refine lv_iload_n hx hb dX6_undo_33 rfl (lv_at hl 0 rfl) ?_
    refine gs_iald hx hb hK hM 41 r_3.toNatClampNeg h_6 rfl (vp_in_iff.mpr ⟨by omega, by omega⟩) dX6_undo_34 ?_
    refine lv_topi (fun x_7 ex_7 => ?_)
    have qx_7 : x_7.toInt = (st 41 r_3.toNatClampNeg (x_4.toNatClampNeg)).toInt := congrArg Int32.toInt ex_7
    have bx_7 : (0 : Int) ≤ x_7.toInt ∧ x_7.toInt ≤ (5 : Int) := by rw [qx_7]; exact hB_st.1 41 r_3.toNatClampNeg (x_4.toNatClampNeg)
    refine lv_dup2_11 hx hb dX6_undo_35 rfl rfl ?_
    refine gs_iald hx hb hK hM 13 r_3.toNatClampNeg (Nat.lt_trans h_5 (by decide)) rfl (vp_in_iff.mpr ⟨by omega, by omega⟩) dX6_undo_36 ?_
    refine lv_topi (fun x_8 ex_8 => ?_)
    have qx_8 : x_8.toInt = (st 13 r_3.toNatClampNeg (x_7.toNatClampNeg)).toInt := congrArg Int32.toInt ex_8
    refine lv_aload_n hx hb dX6_undo_37 rfl (lv_at hl 2 rfl) ?_
    refine gs_get (C := RX6) (T := TX6) (N := 15) hx hb hts inX6 hown hK hM 38 0 2 (by decide) rfl rfl (by decide) (hts _ gm_245) (fun _ h9 => h9) rfl dX6_undo_38 ?_
    refine gs_getN (host := "WellCourt") (C := RX2) (T := TX2) (N := 5) hx hb hts inX2 hown hK hM 19 0 1 (by decide) rfl rfl (by decide) (va_Nw.use rfl (hov.2.2 _ gn_161)) (fun _ h9 => h9) rfl dX6_undo_41 ?_
    refine lv_iload_n hx hb dX6_undo_44 rfl (lv_at hl 0 rfl) ?_
    refine gs_iald hx hb hK hM 21 0 (by decide) rfl (vp_in_iff.mpr ⟨by omega, by omega⟩) dX6_undo_45 ?_
    refine lv_topi (fun x_9 ex_9 => ?_)
    have qx_9 : x_9.toInt = (st 21 0 (x_4.toNatClampNeg)).toInt := congrArg Int32.toInt ex_9
    refine lv_iadd hx hb dX6_undo_46 ?_
    refine lv_topi (fun x_10 ex_10 => ?_)
    refine gs_iast hx hb hK hI hm hM hS 13 r_3.toNatClampNeg (Nat.lt_trans h_5 (by decide)) (fun _ => rfl) (vp_in_iff.mpr ⟨by omega, by omega⟩) dX6_undo_47 (fun st_11 H locs est_11 hM hS => ?_)
    have hB_st_11 : gBN bX kX [1300] st st_11 := by rw [est_11]; exact hB_st.up (show (1300 : Nat) ∈ _ from by decide) (gi_lo _) (gi_hi _)
    exact gs_vret hx hb hr hlocks hM hS ⟨hB_st_11, (by rw [← er9, ← eh9]; exact Or.inl ⟨by omega, (est_11.trans (by rw [ex_10, show x_8 = _ from ex_8, show x_9 = _ from ex_9, show x_7 = _ from ex_7]))⟩), (tdX.trans tdX.rf (tdX.up est_11 (by first | decide | omega)))⟩ (by exact Nat.le_refl _) (by exact Nat.le_refl _) dX6_undo_48
