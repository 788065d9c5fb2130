theorem dX10_lend_0 : decode cX10_lend 0 = .ok (.aload_n 0, 1) := by decide +kernel
theorem dX10_lend_1 : decode cX10_lend 1 = .ok (.iconst 0, 1) := by decide +kernel
theorem dX10_lend_2 : decode cX10_lend 2 = .ok (.putfield 1, 3) := by decide +kernel
theorem dX10_lend_5 : decode cX10_lend 5 = .ok (.iload_n 1, 1) := by decide +kernel
theorem dX10_lend_6 : decode cX10_lend 6 = .ok (.ifCond .lt 62, 3) := by decide +kernel
theorem dX10_lend_9 : decode cX10_lend 9 = .ok (.iload_n 1, 1) := by decide +kernel
theorem dX10_lend_10 : decode cX10_lend 10 = .ok (.bipush 6, 2) := by decide +kernel
theorem dX10_lend_12 : decode cX10_lend 12 = .ok (.if_icmp .ge 56, 3) := by decide +kernel
theorem dX10_lend_15 : decode cX10_lend 15 = .ok (.iload_n 3, 1) := by decide +kernel
theorem dX10_lend_16 : decode cX10_lend 16 = .ok (.invokestatic 278, 3) := by decide +kernel
theorem dX10_lend_19 : decode cX10_lend 19 = .ok (.ifCond .eq 49, 3) := by decide +kernel
theorem dX10_lend_22 : decode cX10_lend 22 = .ok (.iload_n 2, 1) := by decide +kernel
theorem dX10_lend_23 : decode cX10_lend 23 = .ok (.aload_n 0, 1) := by decide +kernel
theorem dX10_lend_24 : decode cX10_lend 24 = .ok (.getfield 213, 3) := by decide +kernel
theorem dX10_lend_27 : decode cX10_lend 27 = .ok (.if_icmp .le 41, 3) := by decide +kernel
theorem dX10_lend_30 : decode cX10_lend 30 = .ok (.iload_n 2, 1) := by decide +kernel
theorem dX10_lend_31 : decode cX10_lend 31 = .ok (.sipush 199, 3) := by decide +kernel
theorem dX10_lend_34 : decode cX10_lend 34 = .ok (.if_icmp .gt 34, 3) := by decide +kernel
theorem dX10_lend_37 : decode cX10_lend 37 = .ok (.aload_n 0, 1) := by decide +kernel
theorem dX10_lend_38 : decode cX10_lend 38 = .ok (.getfield 30, 3) := by decide +kernel
theorem dX10_lend_41 : decode cX10_lend 41 = .ok (.sipush 200, 3) := by decide +kernel
theorem dX10_lend_44 : decode cX10_lend 44 = .ok (.iload_n 1, 1) := by decide +kernel
theorem dX10_lend_45 : decode cX10_lend 45 = .ok (.imul, 1) := by decide +kernel
theorem dX10_lend_46 : decode cX10_lend 46 = .ok (.iload_n 2, 1) := by decide +kernel
theorem dX10_lend_47 : decode cX10_lend 47 = .ok (.iadd, 1) := by decide +kernel
theorem dX10_lend_48 : decode cX10_lend 48 = .ok (.iaload, 1) := by decide +kernel
theorem dX10_lend_49 : decode cX10_lend 49 = .ok (.ifCond .lt 19, 3) := by decide +kernel
theorem dX10_lend_52 : decode cX10_lend 52 = .ok (.aload_n 0, 1) := by decide +kernel
theorem dX10_lend_53 : decode cX10_lend 53 = .ok (.getfield 30, 3) := by decide +kernel
theorem dX10_lend_56 : decode cX10_lend 56 = .ok (.sipush 200, 3) := by decide +kernel
theorem dX10_lend_59 : decode cX10_lend 59 = .ok (.iload_n 1, 1) := by decide +kernel
theorem dX10_lend_60 : decode cX10_lend 60 = .ok (.imul, 1) := by decide +kernel
theorem dX10_lend_61 : decode cX10_lend 61 = .ok (.iload_n 2, 1) := by decide +kernel
theorem dX10_lend_62 : decode cX10_lend 62 = .ok (.iadd, 1) := by decide +kernel
theorem dX10_lend_63 : decode cX10_lend 63 = .ok (.iaload, 1) := by decide +kernel
theorem dX10_lend_64 : decode cX10_lend 64 = .ok (.iload_n 3, 1) := by decide +kernel
theorem dX10_lend_65 : decode cX10_lend 65 = .ok (.if_icmp .ne 5, 3) := by decide +kernel
theorem dX10_lend_68 : decode cX10_lend 68 = .ok (.iconst (-1), 1) := by decide +kernel
theorem dX10_lend_69 : decode cX10_lend 69 = .ok (.ireturn, 1) := by decide +kernel
theorem dX10_lend_70 : decode cX10_lend 70 = .ok (.iload_n 2, 1) := by decide +kernel
theorem dX10_lend_71 : decode cX10_lend 71 = .ok (.iconst 1, 1) := by decide +kernel
theorem dX10_lend_72 : decode cX10_lend 72 = .ok (.iadd, 1) := by decide +kernel
theorem dX10_lend_73 : decode cX10_lend 73 = .ok (.istore 4, 2) := by decide +kernel
theorem dX10_lend_75 : decode cX10_lend 75 = .ok (.iload 4, 2) := by decide +kernel
theorem dX10_lend_77 : decode cX10_lend 77 = .ok (.sipush 199, 3) := by decide +kernel
theorem dX10_lend_80 : decode cX10_lend 80 = .ok (.if_icmp .gt 26, 3) := by decide +kernel
theorem dX10_lend_83 : decode cX10_lend 83 = .ok (.aload_n 0, 1) := by decide +kernel
theorem dX10_lend_84 : decode cX10_lend 84 = .ok (.getfield 30, 3) := by decide +kernel
theorem dX10_lend_87 : decode cX10_lend 87 = .ok (.sipush 200, 3) := by decide +kernel
theorem dX10_lend_90 : decode cX10_lend 90 = .ok (.iload_n 1, 1) := by decide +kernel
theorem dX10_lend_91 : decode cX10_lend 91 = .ok (.imul, 1) := by decide +kernel
theorem dX10_lend_92 : decode cX10_lend 92 = .ok (.iload 4, 2) := by decide +kernel
theorem dX10_lend_94 : decode cX10_lend 94 = .ok (.iadd, 1) := by decide +kernel
theorem dX10_lend_95 : decode cX10_lend 95 = .ok (.iaload, 1) := by decide +kernel
theorem dX10_lend_96 : decode cX10_lend 96 = .ok (.iload_n 3, 1) := by decide +kernel
theorem dX10_lend_97 : decode cX10_lend 97 = .ok (.if_icmp .eq 9, 3) := by decide +kernel
theorem dX10_lend_100 : decode cX10_lend 100 = .ok (.iinc 4 1, 3) := by decide +kernel
theorem dX10_lend_103 : decode cX10_lend 103 = .ok (.goto (-28), 3) := by decide +kernel
theorem dX10_lend_106 : decode cX10_lend 106 = .ok (.iload 4, 2) := by decide +kernel
theorem dX10_lend_108 : decode cX10_lend 108 = .ok (.sipush 199, 3) := by decide +kernel
theorem dX10_lend_111 : decode cX10_lend 111 = .ok (.if_icmp .le 5, 3) := by decide +kernel
theorem dX10_lend_114 : decode cX10_lend 114 = .ok (.iconst (-1), 1) := by decide +kernel
theorem dX10_lend_115 : decode cX10_lend 115 = .ok (.ireturn, 1) := by decide +kernel
theorem dX10_lend_116 : decode cX10_lend 116 = .ok (.aload_n 0, 1) := by decide +kernel
theorem dX10_lend_117 : decode cX10_lend 117 = .ok (.getfield 30, 3) := by decide +kernel
theorem dX10_lend_120 : decode cX10_lend 120 = .ok (.sipush 200, 3) := by decide +kernel
theorem dX10_lend_123 : decode cX10_lend 123 = .ok (.iload_n 1, 1) := by decide +kernel
theorem dX10_lend_124 : decode cX10_lend 124 = .ok (.imul, 1) := by decide +kernel
theorem dX10_lend_125 : decode cX10_lend 125 = .ok (.iload 4, 2) := by decide +kernel
theorem dX10_lend_127 : decode cX10_lend 127 = .ok (.iadd, 1) := by decide +kernel
theorem dX10_lend_128 : decode cX10_lend 128 = .ok (.aload_n 0, 1) := by decide +kernel
theorem dX10_lend_129 : decode cX10_lend 129 = .ok (.getfield 30, 3) := by decide +kernel
theorem dX10_lend_132 : decode cX10_lend 132 = .ok (.sipush 200, 3) := by decide +kernel
theorem dX10_lend_135 : decode cX10_lend 135 = .ok (.iload_n 1, 1) := by decide +kernel
theorem dX10_lend_136 : decode cX10_lend 136 = .ok (.imul, 1) := by decide +kernel
theorem dX10_lend_137 : decode cX10_lend 137 = .ok (.iload_n 2, 1) := by decide +kernel
theorem dX10_lend_138 : decode cX10_lend 138 = .ok (.iadd, 1) := by decide +kernel
theorem dX10_lend_139 : decode cX10_lend 139 = .ok (.iaload, 1) := by decide +kernel
theorem dX10_lend_140 : decode cX10_lend 140 = .ok (.iastore, 1) := by decide +kernel
theorem dX10_lend_141 : decode cX10_lend 141 = .ok (.aload_n 0, 1) := by decide +kernel
theorem dX10_lend_142 : decode cX10_lend 142 = .ok (.getfield 30, 3) := by decide +kernel
theorem dX10_lend_145 : decode cX10_lend 145 = .ok (.sipush 200, 3) := by decide +kernel
theorem dX10_lend_148 : decode cX10_lend 148 = .ok (.iload_n 1, 1) := by decide +kernel
theorem dX10_lend_149 : decode cX10_lend 149 = .ok (.imul, 1) := by decide +kernel
theorem dX10_lend_150 : decode cX10_lend 150 = .ok (.iload_n 2, 1) := by decide +kernel
theorem dX10_lend_151 : decode cX10_lend 151 = .ok (.iadd, 1) := by decide +kernel
theorem dX10_lend_152 : decode cX10_lend 152 = .ok (.iload_n 3, 1) := by decide +kernel
theorem dX10_lend_153 : decode cX10_lend 153 = .ok (.iastore, 1) := by decide +kernel
theorem dX10_lend_154 : decode cX10_lend 154 = .ok (.iload 4, 2) := by decide +kernel
theorem dX10_lend_156 : decode cX10_lend 156 = .ok (.ireturn, 1) := by decide +kernel
theorem dX10_owner_0 : decode cX10_owner 0 = .ok (.aload_n 0, 1) := by decide +kernel
theorem dX10_owner_1 : decode cX10_owner 1 = .ok (.iconst 0, 1) := by decide +kernel
theorem dX10_owner_2 : decode cX10_owner 2 = .ok (.putfield 1, 3) := by decide +kernel
theorem dX10_owner_5 : decode cX10_owner 5 = .ok (.iload_n 1, 1) := by decide +kernel
theorem dX10_owner_6 : decode cX10_owner 6 = .ok (.ifCond .lt 20, 3) := by decide +kernel
theorem dX10_owner_9 : decode cX10_owner 9 = .ok (.iload_n 1, 1) := by decide +kernel
theorem dX10_owner_10 : decode cX10_owner 10 = .ok (.bipush 6, 2) := by decide +kernel
theorem dX10_owner_12 : decode cX10_owner 12 = .ok (.if_icmp .ge 14, 3) := by decide +kernel
theorem dX10_owner_15 : decode cX10_owner 15 = .ok (.iload_n 2, 1) := by decide +kernel
theorem dX10_owner_16 : decode cX10_owner 16 = .ok (.ifCond .lt 10, 3) := by decide +kernel
theorem dX10_owner_19 : decode cX10_owner 19 = .ok (.iload_n 2, 1) := by decide +kernel
theorem dX10_owner_20 : decode cX10_owner 20 = .ok (.sipush 199, 3) := by decide +kernel
theorem dX10_owner_23 : decode cX10_owner 23 = .ok (.if_icmp .le 7, 3) := by decide +kernel
theorem dX10_owner_26 : decode cX10_owner 26 = .ok (.iconst (-1), 1) := by decide +kernel
theorem dX10_owner_27 : decode cX10_owner 27 = .ok (.goto 15, 3) := by decide +kernel
theorem dX10_owner_30 : decode cX10_owner 30 = .ok (.aload_n 0, 1) := by decide +kernel
theorem dX10_owner_31 : decode cX10_owner 31 = .ok (.getfield 30, 3) := by decide +kernel
theorem dX10_owner_34 : decode cX10_owner 34 = .ok (.sipush 200, 3) := by decide +kernel
theorem dX10_owner_37 : decode cX10_owner 37 = .ok (.iload_n 1, 1) := by decide +kernel
theorem dX10_owner_38 : decode cX10_owner 38 = .ok (.imul, 1) := by decide +kernel
theorem dX10_owner_39 : decode cX10_owner 39 = .ok (.iload_n 2, 1) := by decide +kernel
theorem dX10_owner_40 : decode cX10_owner 40 = .ok (.iadd, 1) := by decide +kernel
theorem dX10_owner_41 : decode cX10_owner 41 = .ok (.iaload, 1) := by decide +kernel
theorem dX10_owner_42 : decode cX10_owner 42 = .ok (.ireturn, 1) := by decide +kernel
theorem dX10_water_0 : decode cX10_water 0 = .ok (.aload_n 0, 1) := by decide +kernel
theorem dX10_water_1 : decode cX10_water 1 = .ok (.iconst 0, 1) := by decide +kernel
theorem dX10_water_2 : decode cX10_water 2 = .ok (.putfield 1, 3) := by decide +kernel
theorem dX10_water_5 : decode cX10_water 5 = .ok (.aload_n 0, 1) := by decide +kernel
theorem dX10_water_6 : decode cX10_water 6 = .ok (.iload_n 1, 1) := by decide +kernel
theorem dX10_water_7 : decode cX10_water 7 = .ok (.invokevirtual 271, 3) := by decide +kernel
theorem dX10_water_10 : decode cX10_water 10 = .ok (.ifCond .ne 5, 3) := by decide +kernel
theorem dX10_water_13 : decode cX10_water 13 = .ok (.iconst (-1), 1) := by decide +kernel
theorem dX10_water_14 : decode cX10_water 14 = .ok (.ireturn, 1) := by decide +kernel
theorem dX10_water_15 : decode cX10_water 15 = .ok (.iload_n 2, 1) := by decide +kernel
theorem dX10_water_16 : decode cX10_water 16 = .ok (.ifCond .ne 12, 3) := by decide +kernel
theorem dX10_water_19 : decode cX10_water 19 = .ok (.aload_n 0, 1) := by decide +kernel
theorem dX10_water_20 : decode cX10_water 20 = .ok (.getfield 24, 3) := by decide +kernel
theorem dX10_water_23 : decode cX10_water 23 = .ok (.iload_n 1, 1) := by decide +kernel
theorem dX10_water_24 : decode cX10_water 24 = .ok (.iaload, 1) := by decide +kernel
theorem dX10_water_25 : decode cX10_water 25 = .ok (.goto 46, 3) := by decide +kernel
theorem dX10_water_28 : decode cX10_water 28 = .ok (.iload_n 2, 1) := by decide +kernel
theorem dX10_water_29 : decode cX10_water 29 = .ok (.iconst 1, 1) := by decide +kernel
theorem dX10_water_30 : decode cX10_water 30 = .ok (.if_icmp .ne 12, 3) := by decide +kernel
theorem dX10_water_33 : decode cX10_water 33 = .ok (.aload_n 0, 1) := by decide +kernel
theorem dX10_water_34 : decode cX10_water 34 = .ok (.getfield 27, 3) := by decide +kernel
theorem dX10_water_37 : decode cX10_water 37 = .ok (.iload_n 1, 1) := by decide +kernel
theorem dX10_water_38 : decode cX10_water 38 = .ok (.iaload, 1) := by decide +kernel
theorem dX10_water_39 : decode cX10_water 39 = .ok (.goto 32, 3) := by decide +kernel
theorem dX10_water_42 : decode cX10_water 42 = .ok (.iload_n 2, 1) := by decide +kernel
theorem dX10_water_43 : decode cX10_water 43 = .ok (.iconst 2, 1) := by decide +kernel
theorem dX10_water_44 : decode cX10_water 44 = .ok (.if_icmp .ne 12, 3) := by decide +kernel
theorem dX10_water_47 : decode cX10_water 47 = .ok (.aload_n 0, 1) := by decide +kernel
theorem dX10_water_48 : decode cX10_water 48 = .ok (.getfield 17, 3) := by decide +kernel
theorem dX10_water_51 : decode cX10_water 51 = .ok (.iload_n 1, 1) := by decide +kernel
theorem dX10_water_52 : decode cX10_water 52 = .ok (.iaload, 1) := by decide +kernel
theorem dX10_water_53 : decode cX10_water 53 = .ok (.goto 18, 3) := by decide +kernel
theorem dX10_water_56 : decode cX10_water 56 = .ok (.iload_n 2, 1) := by decide +kernel
theorem dX10_water_57 : decode cX10_water 57 = .ok (.iconst 3, 1) := by decide +kernel
theorem dX10_water_58 : decode cX10_water 58 = .ok (.if_icmp .ne 12, 3) := by decide +kernel
theorem dX10_water_61 : decode cX10_water 61 = .ok (.aload_n 0, 1) := by decide +kernel
theorem dX10_water_62 : decode cX10_water 62 = .ok (.getfield 21, 3) := by decide +kernel
theorem dX10_water_65 : decode cX10_water 65 = .ok (.iload_n 1, 1) := by decide +kernel
theorem dX10_water_66 : decode cX10_water 66 = .ok (.iaload, 1) := by decide +kernel
theorem dX10_water_67 : decode cX10_water 67 = .ok (.goto 4, 3) := by decide +kernel
theorem dX10_water_70 : decode cX10_water 70 = .ok (.iconst (-1), 1) := by decide +kernel
theorem dX10_water_71 : decode cX10_water 71 = .ok (.ireturn, 1) := by decide +kernel
set_option maxHeartbeats 4000000 in
set_option maxRecDepth 100000 in
/-- WellCourtModel.water -/
theorem m_water (l : Launch) (G : va_G) (cy : Nat → ClassId) (sK sV : Nat → Nat) (ad : Nat → Nat → Nat) (sz : Nat) (st : gS) (hB : gBd bM st) (x : Int32) (y : Int32) (Xx : Int) (Xy : Int) (kx : x.toInt = Xx) (ky : y.toInt = Xy) : gsMi l yX10_water cX10_water 3 (some .int) ({ frames := 1, cells := 0, slots := 0, locals := 21 } : Room) G cy sK sV (shM cy ad) cnM ad sz [.ref (ad 0 0), .int x, .int y] st (fun (r : Int32) (u : gS) => gBN bM kM [0] st u ∧ ((((0 ≤ Xx ∧ Xx ≤ 5 ∧ ¬ (st 1 0 x.toNatClampNeg).toInt = 0) ∧ ((Xy = 0 ∧ r = st 4 0 x.toNatClampNeg) ∨ (Xy = 1 ∧ r = st 5 0 x.toNatClampNeg) ∨ (Xy = 2 ∧ r = st 2 0 x.toNatClampNeg) ∨ (Xy = 3 ∧ r = st 3 0 x.toNatClampNeg) ∨ (¬ (0 ≤ Xy ∧ Xy ≤ 3) ∧ r.toInt = -1))) ∨ (¬ (0 ≤ Xx ∧ Xx ≤ 5 ∧ ¬ (st 1 0 x.toNatClampNeg).toInt = 0) ∧ r.toInt = -1)) ∧ (frM st u))) := by
  refine gs_start (fun A => gsQi G (shM cy ad) cnM ad _ A) (by decide) (Nat.le_of_ble_eq_true rfl) ?_
  intro p e s m below meth c A ls H hx hb hr hml hlocks hown hts hK hov hE hI hM hm hS hA hl
  have hl : lv_has ls 3 [(0, .ref (ad 0 0)), (1, .int x), (2, .int y)] := hl
  have hB_st : gBN bM kM [0] st st := gBN.rf hB
  refine lv_aload_n hx hb dX10_water_0 rfl (lv_at hl 0 rfl) ?_
  refine lv_iconst (v := 0) hx hb dX10_water_1 (by decide) ?_
  refine gs_put (C := RX10) (T := TX10) (N := 59) (ty := .int) (val := .int 0) hx hb hts inX10 tyX10 tyX10_ok nmX10 hown hK hI hm hM hS 0 0 0 (by decide) rfl rfl (by decide) (hts _ gm_901) (fun _ h9 => h9) rfl (0 : Int32) rfl (by decide +kernel) rfl rfl (Nat.le_of_ble_eq_true rfl) dX10_water_2 (fun st_1 H locs est_1 hM hS => ?_)
  have hB_st_1 : gBN bM kM [0] st st_1 := by rw [est_1]; exact hB_st.up (show (0 : Nat) ∈ _ from by decide) (gi_lo _) (gi_hi _)
  refine lv_aload_n hx hb dX10_water_5 rfl (lv_at hl 0 rfl) ?_
  refine lv_iload_n hx hb dX10_water_6 rfl (lv_at hl 1 rfl) ?_
  refine gs_calli (va_runV (As := [.int x]) (rest := []) ⟨hx, hb, hml, hown, hts⟩ (m_hasWell l G cy sK sV ad H.size st_1 hB_st_1.1 x x.toInt rfl ) ⟨(gz_cb (n := 1) hts gm_1201 gm_12 gm_1204 ⟨by decide +kernel, by decide +kernel, by decide +kernel⟩ ⟨Nat.le_of_ble_eq_true rfl, Nat.le_of_ble_eq_true rfl⟩), hts _ gm_1203, hts _ gs_50⟩ (gs_preV hK hov hE hI hM hm hS hA 0 0 (by decide) rfl rfl) rfl rfl hl.1 rfl (lv_room (Nat.le_of_ble_eq_true rfl)) dX10_water_7 ⟨Nat.le_of_ble_eq_true rfl, Nat.le_of_ble_eq_true rfl⟩) hm hS hA (fun r_2 st_2 H locs hw_2 hM hS => ?_)
  obtain ⟨n_2, hw_2⟩ := hw_2
  have n_2 := gBN.nil n_2
  subst n_2
  have hqhw_20 : (st_1 1 0 x.toNatClampNeg).toInt = ((st 1 0 x.toNatClampNeg) : Int32).toInt := congrArg Int32.toInt (((congrFun (congrFun (congrFun est_1 1) 0) x.toNatClampNeg).trans (congrFun (congrFun (gU_k (by decide)) 0) x.toNatClampNeg)))
  rcases hw_2 with ⟨rfl, hw_2_0, hw_2_1, hw_2_2⟩ | ⟨rfl, hw_2_0⟩
  · skip
    refine lv_if_ne (tgt := 15) hx hb dX10_water_10 (by decide) (fun _ => ?_) (fun h9 => absurd h9 (by decide))
    refine lv_iload_n hx hb dX10_water_15 rfl (lv_at hl 2 rfl) ?_
    refine lv_if_ne (tgt := 28) hx hb dX10_water_16 (by decide) (fun c_3 => ?_) (fun c_3 => ?_)
    · have ic_3 := gz_ne (rfl : y.toInt = y.toInt) (by decide : (0 : Int32).toInt = 0) c_3
      refine lv_iload_n hx hb dX10_water_28 rfl (lv_at hl 2 rfl) ?_
      refine lv_iconst (v := 1) hx hb dX10_water_29 (by decide) ?_
      refine lv_icmp_ne (tgt := 42) hx hb dX10_water_30 (by decide) (fun c_4 => ?_) (fun c_4 => ?_)
      · have ic_4 := gz_ne (rfl : y.toInt = y.toInt) (by decide : (1 : Int32).toInt = 1) c_4
        refine lv_iload_n hx hb dX10_water_42 rfl (lv_at hl 2 rfl) ?_
        refine lv_iconst (v := 2) hx hb dX10_water_43 (by decide) ?_
        refine lv_icmp_ne (tgt := 56) hx hb dX10_water_44 (by decide) (fun c_5 => ?_) (fun c_5 => ?_)
        · have ic_5 := gz_ne (rfl : y.toInt = y.toInt) (by decide : (2 : Int32).toInt = 2) c_5
          refine lv_iload_n hx hb dX10_water_56 rfl (lv_at hl 2 rfl) ?_
          refine lv_iconst (v := 3) hx hb dX10_water_57 (by decide) ?_
          refine lv_icmp_ne (tgt := 70) hx hb dX10_water_58 (by decide) (fun c_6 => ?_) (fun c_6 => ?_)
          · have ic_6 := gz_ne (rfl : y.toInt = y.toInt) (by decide : (3 : Int32).toInt = 3) c_6
            refine lv_iconst (v := (-1)) hx hb dX10_water_70 (by decide) ?_
            exact gs_iret hx hb hr hlocks hM hS rfl ⟨hB_st_1, (Or.inl ⟨⟨by omega, by omega, by omega⟩, Or.inr (Or.inr (Or.inr (Or.inr ⟨by omega, by decide⟩)))⟩), (frM.up est_1)⟩ (by exact Nat.le_refl _) (by exact Nat.le_refl _) dX10_water_71
          · have ic_6 := gz_eqn (rfl : y.toInt = y.toInt) (by decide : (3 : Int32).toInt = 3) c_6
            refine lv_aload_n hx hb dX10_water_61 rfl (lv_at hl 0 rfl) ?_
            refine gs_get (C := RX10) (T := TX10) (N := 59) hx hb hts inX10 hown hK hM 0 0 3 (by decide) rfl rfl (by decide) (hts _ gm_904) (fun _ h9 => h9) rfl dX10_water_62 ?_
            refine lv_iload_n hx hb dX10_water_65 rfl (lv_at hl 1 rfl) ?_
            refine gs_iald hx hb hK hM 3 0 (by decide) rfl (vp_in_iff.mpr ⟨by omega, by omega⟩) dX10_water_66 ?_
            refine lv_topi (fun x_7 ex_7 => ?_)
            have qx_7 : x_7.toInt = (st_1 3 0 (x.toNatClampNeg)).toInt := congrArg Int32.toInt ex_7
            have rx_7 : x_7.toInt = ((st 3 0 (x.toNatClampNeg)) : Int32).toInt := by rw [ex_7]; exact congrArg Int32.toInt (((congrFun (congrFun (congrFun est_1 3) 0) (x.toNatClampNeg)).trans (congrFun (congrFun (gU_k (by decide)) 0) (x.toNatClampNeg))))
            refine lv_goto (tgt := 71) hx hb dX10_water_67 (by decide) ?_
            exact gs_iret hx hb hr hlocks hM hS rfl ⟨hB_st_1, (Or.inl ⟨⟨by omega, by omega, by omega⟩, Or.inr (Or.inr (Or.inr (Or.inl (⟨by omega, (ex_7.trans ((congrFun (congrFun (congrFun est_1 3) 0) (x.toNatClampNeg)).trans (congrFun (congrFun (gU_k (by decide)) 0) (x.toNatClampNeg))))⟩))))⟩), (frM.up est_1)⟩ (by exact Nat.le_refl _) (by exact Nat.le_refl _) dX10_water_71
        · have ic_5 := gz_eqn (rfl : y.toInt = y.toInt) (by decide : (2 : Int32).toInt = 2) c_5
          refine lv_aload_n hx hb dX10_water_47 rfl (lv_at hl 0 rfl) ?_
          refine gs_get (C := RX10) (T := TX10) (N := 59) hx hb hts inX10 hown hK hM 0 0 2 (by decide) rfl rfl (by decide) (hts _ gm_903) (fun _ h9 => h9) rfl dX10_water_48 ?_
          refine lv_iload_n hx hb dX10_water_51 rfl (lv_at hl 1 rfl) ?_
          refine gs_iald hx hb hK hM 2 0 (by decide) rfl (vp_in_iff.mpr ⟨by omega, by omega⟩) dX10_water_52 ?_
          refine lv_topi (fun x_8 ex_8 => ?_)
          have qx_8 : x_8.toInt = (st_1 2 0 (x.toNatClampNeg)).toInt := congrArg Int32.toInt ex_8
          have rx_8 : x_8.toInt = ((st 2 0 (x.toNatClampNeg)) : Int32).toInt := by rw [ex_8]; exact congrArg Int32.toInt (((congrFun (congrFun (congrFun est_1 2) 0) (x.toNatClampNeg)).trans (congrFun (congrFun (gU_k (by decide)) 0) (x.toNatClampNeg))))
          refine lv_goto (tgt := 71) hx hb dX10_water_53 (by decide) ?_
          exact gs_iret hx hb hr hlocks hM hS rfl ⟨hB_st_1, (Or.inl ⟨⟨by omega, by omega, by omega⟩, Or.inr (Or.inr (Or.inl (⟨by omega, (ex_8.trans ((congrFun (congrFun (congrFun est_1 2) 0) (x.toNatClampNeg)).trans (congrFun (congrFun (gU_k (by decide)) 0) (x.toNatClampNeg))))⟩)))⟩), (frM.up est_1)⟩ (by exact Nat.le_refl _) (by exact Nat.le_refl _) dX10_water_71
      · have ic_4 := gz_eqn (rfl : y.toInt = y.toInt) (by decide : (1 : Int32).toInt = 1) c_4
        refine lv_aload_n hx hb dX10_water_33 rfl (lv_at hl 0 rfl) ?_
        refine gs_get (C := RX10) (T := TX10) (N := 59) hx hb hts inX10 hown hK hM 0 0 5 (by decide) rfl rfl (by decide) (hts _ gm_906) (fun _ h9 => h9) rfl dX10_water_34 ?_
        refine lv_iload_n hx hb dX10_water_37 rfl (lv_at hl 1 rfl) ?_
        refine gs_iald hx hb hK hM 5 0 (by decide) rfl (vp_in_iff.mpr ⟨by omega, by omega⟩) dX10_water_38 ?_
        refine lv_topi (fun x_9 ex_9 => ?_)
        have qx_9 : x_9.toInt = (st_1 5 0 (x.toNatClampNeg)).toInt := congrArg Int32.toInt ex_9
        have rx_9 : x_9.toInt = ((st 5 0 (x.toNatClampNeg)) : Int32).toInt := by rw [ex_9]; exact congrArg Int32.toInt (((congrFun (congrFun (congrFun est_1 5) 0) (x.toNatClampNeg)).trans (congrFun (congrFun (gU_k (by decide)) 0) (x.toNatClampNeg))))
        refine lv_goto (tgt := 71) hx hb dX10_water_39 (by decide) ?_
        exact gs_iret hx hb hr hlocks hM hS rfl ⟨hB_st_1, (Or.inl ⟨⟨by omega, by omega, by omega⟩, Or.inr (Or.inl (⟨by omega, (ex_9.trans ((congrFun (congrFun (congrFun est_1 5) 0) (x.toNatClampNeg)).trans (congrFun (congrFun (gU_k (by decide)) 0) (x.toNatClampNeg))))⟩))⟩), (frM.up est_1)⟩ (by exact Nat.le_refl _) (by exact Nat.le_refl _) dX10_water_71
    · have ic_3 := gz_eqn (rfl : y.toInt = y.toInt) (by decide : (0 : Int32).toInt = 0) c_3
      refine lv_aload_n hx hb dX10_water_19 rfl (lv_at hl 0 rfl) ?_
      refine gs_get (C := RX10) (T := TX10) (N := 59) hx hb hts inX10 hown hK hM 0 0 4 (by decide) rfl rfl (by decide) (hts _ gm_905) (fun _ h9 => h9) rfl dX10_water_20 ?_
      refine lv_iload_n hx hb dX10_water_23 rfl (lv_at hl 1 rfl) ?_
      refine gs_iald hx hb hK hM 4 0 (by decide) rfl (vp_in_iff.mpr ⟨by omega, by omega⟩) dX10_water_24 ?_
      refine lv_topi (fun x_10 ex_10 => ?_)
      have qx_10 : x_10.toInt = (st_1 4 0 (x.toNatClampNeg)).toInt := congrArg Int32.toInt ex_10
      have rx_10 : x_10.toInt = ((st 4 0 (x.toNatClampNeg)) : Int32).toInt := by rw [ex_10]; exact congrArg Int32.toInt (((congrFun (congrFun (congrFun est_1 4) 0) (x.toNatClampNeg)).trans (congrFun (congrFun (gU_k (by decide)) 0) (x.toNatClampNeg))))
      refine lv_goto (tgt := 71) hx hb dX10_water_25 (by decide) ?_
      exact gs_iret hx hb hr hlocks hM hS rfl ⟨hB_st_1, (Or.inl ⟨⟨by omega, by omega, by omega⟩, Or.inl (⟨by omega, (ex_10.trans ((congrFun (congrFun (congrFun est_1 4) 0) (x.toNatClampNeg)).trans (congrFun (congrFun (gU_k (by decide)) 0) (x.toNatClampNeg))))⟩)⟩), (frM.up est_1)⟩ (by exact Nat.le_refl _) (by exact Nat.le_refl _) dX10_water_71
  · skip
    refine lv_if_ne (tgt := 15) hx hb dX10_water_10 (by decide) (fun h9 => absurd (by decide) h9) (fun _ => ?_)
    refine lv_iconst (v := (-1)) hx hb dX10_water_13 (by decide) ?_
    exact gs_iret hx hb hr hlocks hM hS rfl ⟨hB_st_1, (Or.inr ⟨by omega, by decide⟩), (frM.up est_1)⟩ (by exact Nat.le_refl _) (by exact Nat.le_refl _) dX10_water_14

set_option maxHeartbeats 4000000 in
set_option maxRecDepth 100000 in
/-- WellCourtModel.owner -/
theorem m_owner (l : Launch) (G : va_G) (cy : Nat → ClassId) (sK sV : Nat → Nat) (ad : Nat → Nat → Nat) (sz : Nat) (st : gS) (hB : gBd bM st) (x : Int32) (y : Int32) (Xx : Int) (Xy : Int) (kx : x.toInt = Xx) (ky : y.toInt = Xy) : gsMi l yX10_owner cX10_owner 3 (some .int) ({ frames := 0, cells := 0, slots := 0, locals := 0 } : Room) G cy sK sV (shM cy ad) cnM ad sz [.ref (ad 0 0), .int x, .int y] st (fun (r : Int32) (u : gS) => gBN bM kM [0] st u ∧ ((((0 ≤ Xx ∧ Xx ≤ 5 ∧ 0 ≤ Xy ∧ Xy ≤ 199) ∧ r = st 6 0 (200 * x.toNatClampNeg + y.toNatClampNeg)) ∨ (¬ (0 ≤ Xx ∧ Xx ≤ 5 ∧ 0 ≤ Xy ∧ Xy ≤ 199) ∧ r.toInt = -1)) ∧ (frM st u))) := by
  refine gs_start (fun A => gsQi G (shM cy ad) cnM ad _ A) (by decide) (Nat.le_of_ble_eq_true rfl) ?_
  intro p e s m below meth c A ls H hx hb hr hml hlocks hown hts hK hov hE hI hM hm hS hA hl
  have hl : lv_has ls 3 [(0, .ref (ad 0 0)), (1, .int x), (2, .int y)] := hl
  have hB_st : gBN bM kM [0] st st := gBN.rf hB
  refine lv_aload_n hx hb dX10_owner_0 rfl (lv_at hl 0 rfl) ?_
  refine lv_iconst (v := 0) hx hb dX10_owner_1 (by decide) ?_
  refine gs_put (C := RX10) (T := TX10) (N := 59) (ty := .int) (val := .int 0) hx hb hts inX10 tyX10 tyX10_ok nmX10 hown hK hI hm hM hS 0 0 0 (by decide) rfl rfl (by decide) (hts _ gm_901) (fun _ h9 => h9) rfl (0 : Int32) rfl (by decide +kernel) rfl rfl (Nat.le_of_ble_eq_true rfl) dX10_owner_2 (fun st_1 H locs est_1 hM hS => ?_)
  have hB_st_1 : gBN bM kM [0] st st_1 := by rw [est_1]; exact hB_st.up (show (0 : Nat) ∈ _ from by decide) (gi_lo _) (gi_hi _)
  refine lv_iload_n hx hb dX10_owner_5 rfl (lv_at hl 1 rfl) ?_
  refine lv_if_lt (tgt := 26) hx hb dX10_owner_6 (by decide) (fun c_2 => ?_) (fun c_2 => ?_)
  · have ic_2 := gz_lt (rfl : x.toInt = x.toInt) (by decide : (0 : Int32).toInt = 0) c_2
    refine lv_iconst (v := (-1)) hx hb dX10_owner_26 (by decide) ?_
    refine lv_goto (tgt := 42) hx hb dX10_owner_27 (by decide) ?_
    exact gs_iret hx hb hr hlocks hM hS rfl ⟨hB_st_1, (Or.inr ⟨by omega, by decide⟩), (frM.up est_1)⟩ (by exact Nat.le_refl _) (by exact Nat.le_refl _) dX10_owner_42
  · have ic_2 := gz_nlt (rfl : x.toInt = x.toInt) (by decide : (0 : Int32).toInt = 0) c_2
    refine lv_iload_n hx hb dX10_owner_9 rfl (lv_at hl 1 rfl) ?_
    refine lv_bipush (v := 6) hx hb dX10_owner_10 (by decide) ?_
    refine lv_icmp_ge (tgt := 26) hx hb dX10_owner_12 (by decide) (fun c_3 => ?_) (fun c_3 => ?_)
    · have ic_3 := gz_le (by decide : (6 : Int32).toInt = 6) (rfl : x.toInt = x.toInt) c_3
      refine lv_iconst (v := (-1)) hx hb dX10_owner_26 (by decide) ?_
      refine lv_goto (tgt := 42) hx hb dX10_owner_27 (by decide) ?_
      exact gs_iret hx hb hr hlocks hM hS rfl ⟨hB_st_1, (Or.inr ⟨by omega, by decide⟩), (frM.up est_1)⟩ (by exact Nat.le_refl _) (by exact Nat.le_refl _) dX10_owner_42
    · have ic_3 := gz_nle (by decide : (6 : Int32).toInt = 6) (rfl : x.toInt = x.toInt) c_3
      refine lv_iload_n hx hb dX10_owner_15 rfl (lv_at hl 2 rfl) ?_
      refine lv_if_lt (tgt := 26) hx hb dX10_owner_16 (by decide) (fun c_4 => ?_) (fun c_4 => ?_)
      · have ic_4 := gz_lt (rfl : y.toInt = y.toInt) (by decide : (0 : Int32).toInt = 0) c_4
        refine lv_iconst (v := (-1)) hx hb dX10_owner_26 (by decide) ?_
        refine lv_goto (tgt := 42) hx hb dX10_owner_27 (by decide) ?_
        exact gs_iret hx hb hr hlocks hM hS rfl ⟨hB_st_1, (Or.inr ⟨by omega, by decide⟩), (frM.up est_1)⟩ (by exact Nat.le_refl _) (by exact Nat.le_refl _) dX10_owner_42
      · have ic_4 := gz_nlt (rfl : y.toInt = y.toInt) (by decide : (0 : Int32).toInt = 0) c_4
        refine lv_iload_n hx hb dX10_owner_19 rfl (lv_at hl 2 rfl) ?_
        refine lv_sipush (v := 199) hx hb dX10_owner_20 (by decide) ?_
        refine lv_icmp_le (tgt := 30) hx hb dX10_owner_23 (by decide) (fun c_5 => ?_) (fun c_5 => ?_)
        · have ic_5 := gz_le (rfl : y.toInt = y.toInt) (by decide : (199 : Int32).toInt = 199) c_5
          refine lv_aload_n hx hb dX10_owner_30 rfl (lv_at hl 0 rfl) ?_
          refine gs_get (C := RX10) (T := TX10) (N := 59) hx hb hts inX10 hown hK hM 0 0 6 (by decide) rfl rfl (by decide) (hts _ gm_907) (fun _ h9 => h9) rfl dX10_owner_31 ?_
          refine lv_sipush (v := 200) hx hb dX10_owner_34 (by decide) ?_
          refine lv_iload_n hx hb dX10_owner_37 rfl (lv_at hl 1 rfl) ?_
          refine lv_imul hx hb dX10_owner_38 ?_
          refine lv_topi (fun x_6 ex_6 => ?_)
          try have tx_6 : x_6.toInt = 200 * x.toInt := by rw [ex_6]; exact gz_mulI (x := 200) (y := x.toInt) (by decide) rfl (by omega) (by omega)
          refine lv_iload_n hx hb dX10_owner_39 rfl (lv_at hl 2 rfl) ?_
          refine lv_iadd hx hb dX10_owner_40 ?_
          refine lv_topi (fun x_7 ex_7 => ?_)
          try have tx_7 : x_7.toInt = x_6.toInt + y.toInt := by rw [ex_7]; exact gz_addI (x := x_6.toInt) (y := y.toInt) rfl rfl (by omega) (by omega)
          refine gs_iald hx hb hK hM 6 0 (by decide) rfl (vp_in_iff.mpr ⟨by omega, by omega⟩) dX10_owner_41 ?_
          refine lv_topi (fun x_8 ex_8 => ?_)
          have qx_8 : x_8.toInt = (st_1 6 0 (x_7.toNatClampNeg)).toInt := congrArg Int32.toInt ex_8
          have rx_8 : x_8.toInt = ((st 6 0 (x_7.toNatClampNeg)) : Int32).toInt := by rw [ex_8]; exact congrArg Int32.toInt (((congrFun (congrFun (congrFun est_1 6) 0) (x_7.toNatClampNeg)).trans (congrFun (congrFun (gU_k (by decide)) 0) (x_7.toNatClampNeg))))
          exact gs_iret hx hb hr hlocks hM hS rfl ⟨hB_st_1, (Or.inl ⟨⟨by omega, by omega, by omega, by omega⟩, (by have c_x_7 := gs_cl (x := x_7) (by omega); have c_x := gs_cl (x := x) (by omega); have c_y := gs_cl (x := y) (by omega); rw [show 200 * x.toNatClampNeg + y.toNatClampNeg = x_7.toNatClampNeg by omega]; exact (ex_8.trans ((congrFun (congrFun (congrFun est_1 6) 0) (x_7.toNatClampNeg)).trans (congrFun (congrFun (gU_k (by decide)) 0) (x_7.toNatClampNeg)))))⟩), (frM.up est_1)⟩ (by exact Nat.le_refl _) (by exact Nat.le_refl _) dX10_owner_42
        · have ic_5 := gz_nle (rfl : y.toInt = y.toInt) (by decide : (199 : Int32).toInt = 199) c_5
          refine lv_iconst (v := (-1)) hx hb dX10_owner_26 (by decide) ?_
          refine lv_goto (tgt := 42) hx hb dX10_owner_27 (by decide) ?_
          exact gs_iret hx hb hr hlocks hM hS rfl ⟨hB_st_1, (Or.inr ⟨by omega, by decide⟩), (frM.up est_1)⟩ (by exact Nat.le_refl _) (by exact Nat.le_refl _) dX10_owner_42

set_option maxHeartbeats 4000000 in
set_option maxRecDepth 100000 in
/-- WellCourtModel.lend -/
theorem m_lend (l : Launch) (G : va_G) (cy : Nat → ClassId) (sK sV : Nat → Nat) (ad : Nat → Nat → Nat) (sz : Nat) (st : gS) (hB : gBd bM st) (x : Int32) (y : Int32) (w : Int32) (Xx : Int) (Xy : Int) (Xw : Int) (kx : x.toInt = Xx) (ky : y.toInt = Xy) (kw : w.toInt = Xw) : gsMi l yX10_lend cX10_lend 5 (some .int) ({ frames := 1, cells := 0, slots := 0, locals := 20 } : Room) G cy sK sV (shM cy ad) cnM ad sz [.ref (ad 0 0), .int x, .int y, .int w] st (fun (r : Int32) (u : gS) => gBN bM kM [0, 600] st u ∧ (((¬ (0 ≤ Xx ∧ Xx ≤ 5 ∧ 0 ≤ Xw ∧ Xw ≤ 5 ∧ (st 0 0 7).toInt < Xy ∧ Xy ≤ 199 ∧ 0 ≤ (st 6 0 (200 * x.toNatClampNeg + y.toNatClampNeg)).toInt ∧ ¬ (st 6 0 (200 * x.toNatClampNeg + y.toNatClampNeg)).toInt = Xw) ∧ r.toInt = -1 ∧ frM st u) ∨ ((0 ≤ Xx ∧ Xx ≤ 5 ∧ 0 ≤ Xw ∧ Xw ≤ 5 ∧ (st 0 0 7).toInt < Xy ∧ Xy ≤ 199 ∧ 0 ≤ (st 6 0 (200 * x.toNatClampNeg + y.toNatClampNeg)).toInt ∧ ¬ (st 6 0 (200 * x.toNatClampNeg + y.toNatClampNeg)).toInt = Xw) ∧ noBk (fun d9 => st 6 0 (200 * x.toNatClampNeg + d9)) Xw Xy 200 ∧ r.toInt = -1 ∧ frM st u) ∨ ((0 ≤ Xx ∧ Xx ≤ 5 ∧ 0 ≤ Xw ∧ Xw ≤ 5 ∧ (st 0 0 7).toInt < Xy ∧ Xy ≤ 199 ∧ 0 ≤ (st 6 0 (200 * x.toNatClampNeg + y.toNatClampNeg)).toInt ∧ ¬ (st 6 0 (200 * x.toNatClampNeg + y.toNatClampNeg)).toInt = Xw) ∧ (Xy < r.toInt ∧ r.toInt ≤ 199 ∧ (st 6 0 (200 * x.toNatClampNeg + r.toNatClampNeg)).toInt = Xw) ∧ noBk (fun d9 => st 6 0 (200 * x.toNatClampNeg + d9)) Xw Xy r.toInt ∧ u 6 0 = upd (upd (st 6 0) (200 * x.toNatClampNeg + r.toNatClampNeg) (st 6 0 (200 * x.toNatClampNeg + y.toNatClampNeg))) (200 * x.toNatClampNeg + y.toNatClampNeg) w)))) := by
  refine gs_start (fun A => gsQi G (shM cy ad) cnM ad _ A) (by decide) (Nat.le_of_ble_eq_true rfl) ?_
  intro p e s m below meth c A ls H hx hb hr hml hlocks hown hts hK hov hE hI hM hm hS hA hl
  have hl : lv_has ls 5 [(0, .ref (ad 0 0)), (1, .int x), (2, .int y), (3, .int w)] := hl
  have hB_st : gBN bM kM [0, 600] st st := gBN.rf hB
  have b7 : (0 : Int) ≤ (st 0 0 7).toInt ∧ (st 0 0 7).toInt ≤ (199 : Int) := hB 0 0 7
  generalize hQe : MQ below _ _ s _ _ A = Q
  refine lv_aload_n hx hb dX10_lend_0 rfl (lv_at hl 0 rfl) ?_
  refine lv_iconst (v := 0) hx hb dX10_lend_1 (by decide) ?_
  refine gs_put (C := RX10) (T := TX10) (N := 59) (ty := .int) (val := .int 0) hx hb hts inX10 tyX10 tyX10_ok nmX10 hown hK hI hm hM hS 0 0 0 (by decide) rfl rfl (by decide) (hts _ gm_901) (fun _ h9 => h9) rfl (0 : Int32) rfl (by decide +kernel) rfl rfl (Nat.le_of_ble_eq_true rfl) dX10_lend_2 (fun st_1 H locs est_1 hM hS => ?_)
  have hB_st_1 : gBN bM kM [0, 600] st st_1 := by rw [est_1]; exact hB_st.up (show (0 : Nat) ∈ _ from by decide) (gi_lo _) (gi_hi _)
  refine lv_iload_n hx hb dX10_lend_5 rfl (lv_at hl 1 rfl) ?_
  refine lv_if_lt (tgt := 68) hx hb dX10_lend_6 (by decide) (fun c_2 => ?_) (fun c_2 => ?_)
  · have ic_2 := gz_lt (rfl : x.toInt = x.toInt) (by decide : (0 : Int32).toInt = 0) c_2
    refine lv_iconst (v := (-1)) hx hb dX10_lend_68 (by decide) ?_
    rw [← hQe]
    exact gs_iret hx hb hr hlocks hM hS rfl ⟨hB_st_1, (Or.inl (⟨by omega, by decide, (frM.up est_1)⟩))⟩ (by exact Nat.le_refl _) (by exact Nat.le_refl _) dX10_lend_69
  · have ic_2 := gz_nlt (rfl : x.toInt = x.toInt) (by decide : (0 : Int32).toInt = 0) c_2
    refine lv_iload_n hx hb dX10_lend_9 rfl (lv_at hl 1 rfl) ?_
    refine lv_bipush (v := 6) hx hb dX10_lend_10 (by decide) ?_
    refine lv_icmp_ge (tgt := 68) hx hb dX10_lend_12 (by decide) (fun c_3 => ?_) (fun c_3 => ?_)
    · have ic_3 := gz_le (by decide : (6 : Int32).toInt = 6) (rfl : x.toInt = x.toInt) c_3
      refine lv_iconst (v := (-1)) hx hb dX10_lend_68 (by decide) ?_
      rw [← hQe]
      exact gs_iret hx hb hr hlocks hM hS rfl ⟨hB_st_1, (Or.inl (⟨by omega, by decide, (frM.up est_1)⟩))⟩ (by exact Nat.le_refl _) (by exact Nat.le_refl _) dX10_lend_69
    · have ic_3 := gz_nle (by decide : (6 : Int32).toInt = 6) (rfl : x.toInt = x.toInt) c_3
      refine lv_iload_n hx hb dX10_lend_15 rfl (lv_at hl 3 rfl) ?_
      refine gs_calli (va_runS (As := [.int w]) (rest := []) ⟨hx, hb, hml, hown, hts⟩ (m_isClan l G cy sK sV ad H.size st_1 hB_st_1.1 w w.toInt rfl ) ⟨(gz_cb (n := 1) hts gm_1213 gm_12 gm_1215 ⟨by decide +kernel, by decide +kernel, by decide +kernel⟩ ⟨Nat.le_of_ble_eq_true rfl, Nat.le_of_ble_eq_true rfl⟩), hts _ gm_1214⟩ (gs_preS hK hov hE hI hM hm hS hA) rfl rfl hl.1 rfl (lv_room (Nat.le_of_ble_eq_true rfl)) dX10_lend_16 ⟨Nat.le_of_ble_eq_true rfl, Nat.le_of_ble_eq_true rfl⟩) hm hS hA (fun r_4 st_4 H locs hw_4 hM hS => ?_)
      obtain ⟨n_4, hw_4⟩ := hw_4
      have n_4 := gBN.nil n_4
      subst n_4
      rcases hw_4 with ⟨rfl, hw_4_0, hw_4_1⟩ | ⟨rfl, hw_4_0⟩
      · skip
        refine lv_if_eq (tgt := 68) hx hb dX10_lend_19 (by decide) (fun h9 => absurd h9 (by decide)) (fun _ => ?_)
        refine lv_iload_n hx hb dX10_lend_22 rfl (lv_at hl 2 rfl) ?_
        refine lv_aload_n hx hb dX10_lend_23 rfl (lv_at hl 0 rfl) ?_
        refine gs_get (C := RX10) (T := TX10) (N := 59) hx hb hts inX10 hown hK hM 0 0 7 (by decide) rfl rfl (by decide) (hts _ gm_908) (fun _ h9 => h9) rfl dX10_lend_24 ?_
        refine lv_topi (fun x_5 ex_5 => ?_)
        have ex_5 : (st 0 0 7) = x_5 := Eq.symm (ex_5.trans ((congrFun (congrFun (congrFun est_1 0) 0) 7).trans (gU_other (by decide))))
        subst ex_5
        have bf_6 : (0 : Int) ≤ (st 0 0 7).toInt ∧ (st 0 0 7).toInt ≤ (199 : Int) := hB_st.1 0 0 7
        refine lv_icmp_le (tgt := 68) hx hb dX10_lend_27 (by decide) (fun c_7 => ?_) (fun c_7 => ?_)
        · have ic_7 := gz_le (rfl : y.toInt = y.toInt) (rfl : (st 0 0 7).toInt = (st 0 0 7).toInt) c_7
          refine lv_iconst (v := (-1)) hx hb dX10_lend_68 (by decide) ?_
          rw [← hQe]
          exact gs_iret hx hb hr hlocks hM hS rfl ⟨hB_st_1, (Or.inl (⟨by omega, by decide, (frM.up est_1)⟩))⟩ (by exact Nat.le_refl _) (by exact Nat.le_refl _) dX10_lend_69
        · have ic_7 := gz_nle (rfl : y.toInt = y.toInt) (rfl : (st 0 0 7).toInt = (st 0 0 7).toInt) c_7
          have lc_7 := gi_hi y
          refine lv_iload_n hx hb dX10_lend_30 rfl (lv_at hl 2 rfl) ?_
          refine lv_sipush (v := 199) hx hb dX10_lend_31 (by decide) ?_
          refine lv_icmp_gt (tgt := 68) hx hb dX10_lend_34 (by decide) (fun c_8 => ?_) (fun c_8 => ?_)
          · have ic_8 := gz_lt (by decide : (199 : Int32).toInt = 199) (rfl : y.toInt = y.toInt) c_8
            refine lv_iconst (v := (-1)) hx hb dX10_lend_68 (by decide) ?_
            rw [← hQe]
            exact gs_iret hx hb hr hlocks hM hS rfl ⟨hB_st_1, (Or.inl (⟨by omega, by decide, (frM.up est_1)⟩))⟩ (by exact Nat.le_refl _) (by exact Nat.le_refl _) dX10_lend_69
          · have ic_8 := gz_nlt (by decide : (199 : Int32).toInt = 199) (rfl : y.toInt = y.toInt) c_8
            refine lv_aload_n hx hb dX10_lend_37 rfl (lv_at hl 0 rfl) ?_
            refine gs_get (C := RX10) (T := TX10) (N := 59) hx hb hts inX10 hown hK hM 0 0 6 (by decide) rfl rfl (by decide) (hts _ gm_907) (fun _ h9 => h9) rfl dX10_lend_38 ?_
            refine lv_sipush (v := 200) hx hb dX10_lend_41 (by decide) ?_
            refine lv_iload_n hx hb dX10_lend_44 rfl (lv_at hl 1 rfl) ?_
            refine lv_imul hx hb dX10_lend_45 ?_
            refine lv_topi (fun x_9 ex_9 => ?_)
            try have tx_9 : x_9.toInt = 200 * x.toInt := by rw [ex_9]; exact gz_mulI (x := 200) (y := x.toInt) (by decide) rfl (by omega) (by omega)
            refine lv_iload_n hx hb dX10_lend_46 rfl (lv_at hl 2 rfl) ?_
            refine lv_iadd hx hb dX10_lend_47 ?_
            refine lv_topi (fun x_10 ex_10 => ?_)
            try have tx_10 : x_10.toInt = x_9.toInt + y.toInt := by rw [ex_10]; exact gz_addI (x := x_9.toInt) (y := y.toInt) rfl rfl (by omega) (by omega)
            refine gs_iald hx hb hK hM 6 0 (by decide) rfl (vp_in_iff.mpr ⟨by omega, by omega⟩) dX10_lend_48 ?_
            refine lv_topi (fun x_11 ex_11 => ?_)
            have qx_11 : x_11.toInt = (st_1 6 0 (x_10.toNatClampNeg)).toInt := congrArg Int32.toInt ex_11
            have rx_11 : x_11.toInt = ((st 6 0 (x_10.toNatClampNeg)) : Int32).toInt := by rw [ex_11]; exact congrArg Int32.toInt (((congrFun (congrFun (congrFun est_1 6) 0) (x_10.toNatClampNeg)).trans (congrFun (congrFun (gU_k (by decide)) 0) (x_10.toNatClampNeg))))
            have hj_x_11 : x_11.toInt = (st 6 0 (200 * x.toNatClampNeg + y.toNatClampNeg)).toInt := (by have c_x_10 := gs_cl (x := x_10) (by omega); have c_x := gs_cl (x := x) (by omega); have c_y := gs_cl (x := y) (by omega); rw [show 200 * x.toNatClampNeg + y.toNatClampNeg = x_10.toNatClampNeg by omega]; exact congrArg Int32.toInt (ex_11.trans ((congrFun (congrFun (congrFun est_1 6) 0) (x_10.toNatClampNeg)).trans (congrFun (congrFun (gU_k (by decide)) 0) (x_10.toNatClampNeg)))))
            refine lv_if_lt (tgt := 68) hx hb dX10_lend_49 (by decide) (fun c_12 => ?_) (fun c_12 => ?_)
            · have ic_12 := gz_lt (rfl : x_11.toInt = x_11.toInt) (by decide : (0 : Int32).toInt = 0) c_12
              refine lv_iconst (v := (-1)) hx hb dX10_lend_68 (by decide) ?_
              rw [← hQe]
              exact gs_iret hx hb hr hlocks hM hS rfl ⟨hB_st_1, (Or.inl (⟨by omega, by decide, (frM.up est_1)⟩))⟩ (by exact Nat.le_refl _) (by exact Nat.le_refl _) dX10_lend_69
            · have ic_12 := gz_nlt (rfl : x_11.toInt = x_11.toInt) (by decide : (0 : Int32).toInt = 0) c_12
              refine lv_aload_n hx hb dX10_lend_52 rfl (lv_at hl 0 rfl) ?_
              refine gs_get (C := RX10) (T := TX10) (N := 59) hx hb hts inX10 hown hK hM 0 0 6 (by decide) rfl rfl (by decide) (hts _ gm_907) (fun _ h9 => h9) rfl dX10_lend_53 ?_
              refine lv_sipush (v := 200) hx hb dX10_lend_56 (by decide) ?_
              refine lv_iload_n hx hb dX10_lend_59 rfl (lv_at hl 1 rfl) ?_
              refine lv_imul hx hb dX10_lend_60 ?_
              refine lv_topi (fun x_13 ex_13 => ?_)
              try have tx_13 : x_13.toInt = 200 * x.toInt := by rw [ex_13]; exact gz_mulI (x := 200) (y := x.toInt) (by decide) rfl (by omega) (by omega)
              refine lv_iload_n hx hb dX10_lend_61 rfl (lv_at hl 2 rfl) ?_
              refine lv_iadd hx hb dX10_lend_62 ?_
              refine lv_topi (fun x_14 ex_14 => ?_)
              try have tx_14 : x_14.toInt = x_13.toInt + y.toInt := by rw [ex_14]; exact gz_addI (x := x_13.toInt) (y := y.toInt) rfl rfl (by omega) (by omega)
              refine gs_iald hx hb hK hM 6 0 (by decide) rfl (vp_in_iff.mpr ⟨by omega, by omega⟩) dX10_lend_63 ?_
              refine lv_topi (fun x_15 ex_15 => ?_)
              have qx_15 : x_15.toInt = (st_1 6 0 (x_14.toNatClampNeg)).toInt := congrArg Int32.toInt ex_15
              have rx_15 : x_15.toInt = ((st 6 0 (x_14.toNatClampNeg)) : Int32).toInt := by rw [ex_15]; exact congrArg Int32.toInt (((congrFun (congrFun (congrFun est_1 6) 0) (x_14.toNatClampNeg)).trans (congrFun (congrFun (gU_k (by decide)) 0) (x_14.toNatClampNeg))))
              have hj_x_15 : x_15.toInt = (st 6 0 (200 * x.toNatClampNeg + y.toNatClampNeg)).toInt := (by have c_x_14 := gs_cl (x := x_14) (by omega); have c_x := gs_cl (x := x) (by omega); have c_y := gs_cl (x := y) (by omega); rw [show 200 * x.toNatClampNeg + y.toNatClampNeg = x_14.toNatClampNeg by omega]; exact congrArg Int32.toInt (ex_15.trans ((congrFun (congrFun (congrFun est_1 6) 0) (x_14.toNatClampNeg)).trans (congrFun (congrFun (gU_k (by decide)) 0) (x_14.toNatClampNeg)))))
              refine lv_iload_n hx hb dX10_lend_64 rfl (lv_at hl 3 rfl) ?_
              refine lv_icmp_ne (tgt := 70) hx hb dX10_lend_65 (by decide) (fun c_16 => ?_) (fun c_16 => ?_)
              · have ic_16 := gz_ne (rfl : x_15.toInt = x_15.toInt) (rfl : w.toInt = w.toInt) c_16
                refine lv_iload_n hx hb dX10_lend_70 rfl (lv_at hl 2 rfl) ?_
                refine lv_iconst (v := 1) hx hb dX10_lend_71 (by decide) ?_
                refine lv_iadd hx hb dX10_lend_72 ?_
                refine lv_topi (fun x_17 ex_17 => ?_)
                try have tx_17 : x_17.toInt = y.toInt + 1 := by rw [ex_17]; exact gz_addP (x := y.toInt) (y := 1) rfl (by decide) (by omega) (by omega)
                refine lv_istore (lv' := [(4, .int x_17), (0, .ref (ad 0 0)), (1, .int x), (2, .int y), (3, .int w)]) hx hb dX10_lend_73 hl (by decide) rfl (fun ls hl => ?_)
                have lp18 : ∀ (n18 : Nat)  (y18_0 : Int32) (H : Heap) (locs : List Loc) (ls : Array Slot), (200 - y18_0.toInt).toNat < n18 →  (Xy < y18_0.toInt) → (y18_0.toInt ≤ 200) → (noBk (fun d9 => st 6 0 (200 * x.toNatClampNeg + d9)) Xw Xy y18_0.toInt) → gM G (shM cy ad) cnM ad st_1 H → va_S A s.heap H locs → lv_has ls 5 [(4, .int y18_0), (0, .ref (ad 0 0)), (1, .int x), (2, .int y), (3, .int w)] → W p l e ({ frames := 1, cells := 0, slots := 0, locals := 20 } : Room) s m [.ref (ad 0 0), .int x, .int y, .int w].toArray below meth c H locs 0 0 Q (F0 m 75 ls []) := by
                  intro n18
                  induction n18 with
                  | zero => intro  y18_0 H locs ls h9; exact absurd h9 (Nat.not_lt_zero _)
                  | succ n18 ih_18 =>
                    intro  y18_0 H locs ls hme18  hv18_0 hv18_1 hv18_2 hM hS hl
                    refine lv_iload hx hb dX10_lend_75 (lv_at hl 0 rfl) ?_
                    refine lv_sipush (v := 199) hx hb dX10_lend_77 (by decide) ?_
                    refine lv_icmp_gt (tgt := 106) hx hb dX10_lend_80 (by decide) (fun c_19 => ?_) (fun c_19 => ?_)
                    · have ic_19 := gz_lt (by decide : (199 : Int32).toInt = 199) (rfl : y18_0.toInt = y18_0.toInt) c_19
                      refine lv_iload hx hb dX10_lend_106 (lv_at hl 0 rfl) ?_
                      refine lv_sipush (v := 199) hx hb dX10_lend_108 (by decide) ?_
                      refine lv_icmp_le (tgt := 116) hx hb dX10_lend_111 (by decide) (fun c_20 => ?_) (fun c_20 => ?_)
                      · have ic_20 := gz_le (rfl : y18_0.toInt = y18_0.toInt) (by decide : (199 : Int32).toInt = 199) c_20
                        refine lv_aload_n hx hb dX10_lend_116 rfl (lv_at hl 1 rfl) ?_
                        refine gs_get (C := RX10) (T := TX10) (N := 59) hx hb hts inX10 hown hK hM 0 0 6 (by decide) rfl rfl (by decide) (hts _ gm_907) (fun _ h9 => h9) rfl dX10_lend_117 ?_
                        refine lv_sipush (v := 200) hx hb dX10_lend_120 (by decide) ?_
                        refine lv_iload_n hx hb dX10_lend_123 rfl (lv_at hl 2 rfl) ?_
                        refine lv_imul hx hb dX10_lend_124 ?_
                        refine lv_topi (fun x_21 ex_21 => ?_)
                        try have tx_21 : x_21.toInt = 200 * x.toInt := by rw [ex_21]; exact gz_mulI (x := 200) (y := x.toInt) (by decide) rfl (by omega) (by omega)
                        refine lv_iload hx hb dX10_lend_125 (lv_at hl 0 rfl) ?_
                        refine lv_iadd hx hb dX10_lend_127 ?_
                        refine lv_topi (fun x_22 ex_22 => ?_)
                        try have tx_22 : x_22.toInt = x_21.toInt + y18_0.toInt := by rw [ex_22]; exact gz_addI (x := x_21.toInt) (y := y18_0.toInt) rfl rfl (by omega) (by omega)
                        refine lv_aload_n hx hb dX10_lend_128 rfl (lv_at hl 1 rfl) ?_
                        refine gs_get (C := RX10) (T := TX10) (N := 59) hx hb hts inX10 hown hK hM 0 0 6 (by decide) rfl rfl (by decide) (hts _ gm_907) (fun _ h9 => h9) rfl dX10_lend_129 ?_
                        refine lv_sipush (v := 200) hx hb dX10_lend_132 (by decide) ?_
                        refine lv_iload_n hx hb dX10_lend_135 rfl (lv_at hl 2 rfl) ?_
                        refine lv_imul hx hb dX10_lend_136 ?_
                        refine lv_topi (fun x_23 ex_23 => ?_)
                        try have tx_23 : x_23.toInt = 200 * x.toInt := by rw [ex_23]; exact gz_mulI (x := 200) (y := x.toInt) (by decide) rfl (by omega) (by omega)
                        refine lv_iload_n hx hb dX10_lend_137 rfl (lv_at hl 3 rfl) ?_
                        refine lv_iadd hx hb dX10_lend_138 ?_
                        refine lv_topi (fun x_24 ex_24 => ?_)
                        try have tx_24 : x_24.toInt = x_23.toInt + y.toInt := by rw [ex_24]; exact gz_addI (x := x_23.toInt) (y := y.toInt) rfl rfl (by omega) (by omega)
                        refine gs_iald hx hb hK hM 6 0 (by decide) rfl (vp_in_iff.mpr ⟨by omega, by omega⟩) dX10_lend_139 ?_
                        refine lv_topi (fun x_25 ex_25 => ?_)
                        have qx_25 : x_25.toInt = (st_1 6 0 (x_24.toNatClampNeg)).toInt := congrArg Int32.toInt ex_25
                        have rx_25 : x_25.toInt = ((st 6 0 (x_24.toNatClampNeg)) : Int32).toInt := by rw [ex_25]; exact congrArg Int32.toInt (((congrFun (congrFun (congrFun est_1 6) 0) (x_24.toNatClampNeg)).trans (congrFun (congrFun (gU_k (by decide)) 0) (x_24.toNatClampNeg))))
                        have hj_x_25 : x_25.toInt = (st 6 0 (200 * x.toNatClampNeg + y.toNatClampNeg)).toInt := (by have c_x_24 := gs_cl (x := x_24) (by omega); have c_x := gs_cl (x := x) (by omega); have c_y := gs_cl (x := y) (by omega); rw [show 200 * x.toNatClampNeg + y.toNatClampNeg = x_24.toNatClampNeg by omega]; exact congrArg Int32.toInt (ex_25.trans ((congrFun (congrFun (congrFun est_1 6) 0) (x_24.toNatClampNeg)).trans (congrFun (congrFun (gU_k (by decide)) 0) (x_24.toNatClampNeg)))))
                        refine gs_iast hx hb hK hI hm hM hS 6 0 (by decide) (fun _ => rfl) (vp_in_iff.mpr ⟨by omega, by omega⟩) dX10_lend_140 (fun st_26 H locs est_26 hM hS => ?_)
                        have hB_st_26 : gBN bM kM [0, 600] st st_26 := by rw [est_26]; exact hB_st_1.up (show (600 : Nat) ∈ _ from by decide) (gi_lo _) (gi_hi _)
                        refine lv_aload_n hx hb dX10_lend_141 rfl (lv_at hl 1 rfl) ?_
                        refine gs_get (C := RX10) (T := TX10) (N := 59) hx hb hts inX10 hown hK hM 0 0 6 (by decide) rfl rfl (by decide) (hts _ gm_907) (fun _ h9 => h9) rfl dX10_lend_142 ?_
                        refine lv_sipush (v := 200) hx hb dX10_lend_145 (by decide) ?_
                        refine lv_iload_n hx hb dX10_lend_148 rfl (lv_at hl 2 rfl) ?_
                        refine lv_imul hx hb dX10_lend_149 ?_
                        refine lv_topi (fun x_27 ex_27 => ?_)
                        try have tx_27 : x_27.toInt = 200 * x.toInt := by rw [ex_27]; exact gz_mulI (x := 200) (y := x.toInt) (by decide) rfl (by omega) (by omega)
                        refine lv_iload_n hx hb dX10_lend_150 rfl (lv_at hl 3 rfl) ?_
                        refine lv_iadd hx hb dX10_lend_151 ?_
                        refine lv_topi (fun x_28 ex_28 => ?_)
                        try have tx_28 : x_28.toInt = x_27.toInt + y.toInt := by rw [ex_28]; exact gz_addI (x := x_27.toInt) (y := y.toInt) rfl rfl (by omega) (by omega)
                        refine lv_iload_n hx hb dX10_lend_152 rfl (lv_at hl 4 rfl) ?_
                        refine gs_iast hx hb hK hI hm hM hS 6 0 (by decide) (fun _ => rfl) (vp_in_iff.mpr ⟨by omega, by omega⟩) dX10_lend_153 (fun st_29 H locs est_29 hM hS => ?_)
                        have hB_st_29 : gBN bM kM [0, 600] st st_29 := by rw [est_29]; exact hB_st_26.up (show (600 : Nat) ∈ _ from by decide) (gi_lo _) (gi_hi _)
                        refine lv_iload hx hb dX10_lend_154 (lv_at hl 0 rfl) ?_
                        rw [← hQe]
                        exact gs_iret hx hb hr hlocks hM hS rfl ⟨hB_st_29, (Or.inr (Or.inr (⟨⟨by omega, by omega, by omega, by omega, by omega, by omega, by omega, by omega⟩, ⟨by omega, by omega, by omega⟩, hv18_2, (((congrFun (congrFun est_29 6) 0).trans ((gU_at _ _ _ _ _).trans (congrArg (fun f9 => upd f9 (x_28.toNatClampNeg) (w : Int32)) ((congrFun (congrFun est_26 6) 0).trans ((gU_at _ _ _ _ _).trans (congrArg (fun f9 => upd f9 (x_22.toNatClampNeg) (x_25 : Int32)) ((congrFun (congrFun est_1 6) 0).trans ((congrFun (gU_k (by decide)) 0).trans rfl)))))))).trans (by have c_x_22 := gs_cl (x := x_22) (by omega); have c_x_28 := gs_cl (x := x_28) (by omega); have c_x := gs_cl (x := x) (by omega); have c_y18_0 := gs_cl (x := y18_0) (by omega); have c_y := gs_cl (x := y) (by omega); rw [show x_22.toNatClampNeg = 200 * x.toNatClampNeg + y18_0.toNatClampNeg by omega, show x_28.toNatClampNeg = 200 * x.toNatClampNeg + y.toNatClampNeg by omega, show x_25 = (st 6 0 (200 * x.toNatClampNeg + y.toNatClampNeg)) from Int32.toInt_inj.mp hj_x_25]))⟩)))⟩ (by exact Nat.le_refl _) (by exact Nat.le_refl _) dX10_lend_156
                      · have ic_20 := gz_nle (rfl : y18_0.toInt = y18_0.toInt) (by decide : (199 : Int32).toInt = 199) c_20
                        refine lv_iconst (v := (-1)) hx hb dX10_lend_114 (by decide) ?_
                        rw [← hQe]
                        exact gs_iret hx hb hr hlocks hM hS rfl ⟨hB_st_1, (Or.inr (Or.inl (⟨⟨by omega, by omega, by omega, by omega, by omega, by omega, by omega, by omega⟩, (fun d9 h1 h2 => hv18_2 d9 h1 (by omega)), by decide, (frM.up est_1)⟩)))⟩ (by exact Nat.le_refl _) (by exact Nat.le_refl _) dX10_lend_115
                    · have ic_19 := gz_nlt (by decide : (199 : Int32).toInt = 199) (rfl : y18_0.toInt = y18_0.toInt) c_19
                      refine lv_aload_n hx hb dX10_lend_83 rfl (lv_at hl 1 rfl) ?_
                      refine gs_get (C := RX10) (T := TX10) (N := 59) hx hb hts inX10 hown hK hM 0 0 6 (by decide) rfl rfl (by decide) (hts _ gm_907) (fun _ h9 => h9) rfl dX10_lend_84 ?_
                      refine lv_sipush (v := 200) hx hb dX10_lend_87 (by decide) ?_
                      refine lv_iload_n hx hb dX10_lend_90 rfl (lv_at hl 2 rfl) ?_
                      refine lv_imul hx hb dX10_lend_91 ?_
                      refine lv_topi (fun x_30 ex_30 => ?_)
                      try have tx_30 : x_30.toInt = 200 * x.toInt := by rw [ex_30]; exact gz_mulI (x := 200) (y := x.toInt) (by decide) rfl (by omega) (by omega)
                      refine lv_iload hx hb dX10_lend_92 (lv_at hl 0 rfl) ?_
                      refine lv_iadd hx hb dX10_lend_94 ?_
                      refine lv_topi (fun x_31 ex_31 => ?_)
                      try have tx_31 : x_31.toInt = x_30.toInt + y18_0.toInt := by rw [ex_31]; exact gz_addI (x := x_30.toInt) (y := y18_0.toInt) rfl rfl (by omega) (by omega)
                      refine gs_iald hx hb hK hM 6 0 (by decide) rfl (vp_in_iff.mpr ⟨by omega, by omega⟩) dX10_lend_95 ?_
                      refine lv_topi (fun x_32 ex_32 => ?_)
                      have qx_32 : x_32.toInt = (st_1 6 0 (x_31.toNatClampNeg)).toInt := congrArg Int32.toInt ex_32
                      have rx_32 : x_32.toInt = ((st 6 0 (x_31.toNatClampNeg)) : Int32).toInt := by rw [ex_32]; exact congrArg Int32.toInt (((congrFun (congrFun (congrFun est_1 6) 0) (x_31.toNatClampNeg)).trans (congrFun (congrFun (gU_k (by decide)) 0) (x_31.toNatClampNeg))))
                      have hj_x_32 : x_32.toInt = (st 6 0 (200 * x.toNatClampNeg + y18_0.toNatClampNeg)).toInt := (by have c_x_31 := gs_cl (x := x_31) (by omega); have c_x := gs_cl (x := x) (by omega); have c_y18_0 := gs_cl (x := y18_0) (by omega); rw [show 200 * x.toNatClampNeg + y18_0.toNatClampNeg = x_31.toNatClampNeg by omega]; exact congrArg Int32.toInt (ex_32.trans ((congrFun (congrFun (congrFun est_1 6) 0) (x_31.toNatClampNeg)).trans (congrFun (congrFun (gU_k (by decide)) 0) (x_31.toNatClampNeg)))))
                      refine lv_iload_n hx hb dX10_lend_96 rfl (lv_at hl 4 rfl) ?_
                      refine lv_icmp_eq (tgt := 106) hx hb dX10_lend_97 (by decide) (fun c_33 => ?_) (fun c_33 => ?_)
                      · have ic_33 := gz_eq (rfl : x_32.toInt = x_32.toInt) (rfl : w.toInt = w.toInt) c_33
                        refine lv_iload hx hb dX10_lend_106 (lv_at hl 0 rfl) ?_
                        refine lv_sipush (v := 199) hx hb dX10_lend_108 (by decide) ?_
                        refine lv_icmp_le (tgt := 116) hx hb dX10_lend_111 (by decide) (fun c_34 => ?_) (fun c_34 => ?_)
                        · have ic_34 := gz_le (rfl : y18_0.toInt = y18_0.toInt) (by decide : (199 : Int32).toInt = 199) c_34
                          refine lv_aload_n hx hb dX10_lend_116 rfl (lv_at hl 1 rfl) ?_
                          refine gs_get (C := RX10) (T := TX10) (N := 59) hx hb hts inX10 hown hK hM 0 0 6 (by decide) rfl rfl (by decide) (hts _ gm_907) (fun _ h9 => h9) rfl dX10_lend_117 ?_
                          refine lv_sipush (v := 200) hx hb dX10_lend_120 (by decide) ?_
                          refine lv_iload_n hx hb dX10_lend_123 rfl (lv_at hl 2 rfl) ?_
                          refine lv_imul hx hb dX10_lend_124 ?_
                          refine lv_topi (fun x_35 ex_35 => ?_)
                          try have tx_35 : x_35.toInt = 200 * x.toInt := by rw [ex_35]; exact gz_mulI (x := 200) (y := x.toInt) (by decide) rfl (by omega) (by omega)
                          refine lv_iload hx hb dX10_lend_125 (lv_at hl 0 rfl) ?_
                          refine lv_iadd hx hb dX10_lend_127 ?_
                          refine lv_topi (fun x_36 ex_36 => ?_)
                          try have tx_36 : x_36.toInt = x_35.toInt + y18_0.toInt := by rw [ex_36]; exact gz_addI (x := x_35.toInt) (y := y18_0.toInt) rfl rfl (by omega) (by omega)
                          refine lv_aload_n hx hb dX10_lend_128 rfl (lv_at hl 1 rfl) ?_
                          refine gs_get (C := RX10) (T := TX10) (N := 59) hx hb hts inX10 hown hK hM 0 0 6 (by decide) rfl rfl (by decide) (hts _ gm_907) (fun _ h9 => h9) rfl dX10_lend_129 ?_
                          refine lv_sipush (v := 200) hx hb dX10_lend_132 (by decide) ?_
                          refine lv_iload_n hx hb dX10_lend_135 rfl (lv_at hl 2 rfl) ?_
                          refine lv_imul hx hb dX10_lend_136 ?_
                          refine lv_topi (fun x_37 ex_37 => ?_)
                          try have tx_37 : x_37.toInt = 200 * x.toInt := by rw [ex_37]; exact gz_mulI (x := 200) (y := x.toInt) (by decide) rfl (by omega) (by omega)
                          refine lv_iload_n hx hb dX10_lend_137 rfl (lv_at hl 3 rfl) ?_
                          refine lv_iadd hx hb dX10_lend_138 ?_
                          refine lv_topi (fun x_38 ex_38 => ?_)
                          try have tx_38 : x_38.toInt = x_37.toInt + y.toInt := by rw [ex_38]; exact gz_addI (x := x_37.toInt) (y := y.toInt) rfl rfl (by omega) (by omega)
                          refine gs_iald hx hb hK hM 6 0 (by decide) rfl (vp_in_iff.mpr ⟨by omega, by omega⟩) dX10_lend_139 ?_
                          refine lv_topi (fun x_39 ex_39 => ?_)
                          have qx_39 : x_39.toInt = (st_1 6 0 (x_38.toNatClampNeg)).toInt := congrArg Int32.toInt ex_39
                          have rx_39 : x_39.toInt = ((st 6 0 (x_38.toNatClampNeg)) : Int32).toInt := by rw [ex_39]; exact congrArg Int32.toInt (((congrFun (congrFun (congrFun est_1 6) 0) (x_38.toNatClampNeg)).trans (congrFun (congrFun (gU_k (by decide)) 0) (x_38.toNatClampNeg))))
                          have hj_x_39 : x_39.toInt = (st 6 0 (200 * x.toNatClampNeg + y.toNatClampNeg)).toInt := (by have c_x_38 := gs_cl (x := x_38) (by omega); have c_x := gs_cl (x := x) (by omega); have c_y := gs_cl (x := y) (by omega); rw [show 200 * x.toNatClampNeg + y.toNatClampNeg = x_38.toNatClampNeg by omega]; exact congrArg Int32.toInt (ex_39.trans ((congrFun (congrFun (congrFun est_1 6) 0) (x_38.toNatClampNeg)).trans (congrFun (congrFun (gU_k (by decide)) 0) (x_38.toNatClampNeg)))))
                          refine gs_iast hx hb hK hI hm hM hS 6 0 (by decide) (fun _ => rfl) (vp_in_iff.mpr ⟨by omega, by omega⟩) dX10_lend_140 (fun st_40 H locs est_40 hM hS => ?_)
                          have hB_st_40 : gBN bM kM [0, 600] st st_40 := by rw [est_40]; exact hB_st_1.up (show (600 : Nat) ∈ _ from by decide) (gi_lo _) (gi_hi _)
                          refine lv_aload_n hx hb dX10_lend_141 rfl (lv_at hl 1 rfl) ?_
                          refine gs_get (C := RX10) (T := TX10) (N := 59) hx hb hts inX10 hown hK hM 0 0 6 (by decide) rfl rfl (by decide) (hts _ gm_907) (fun _ h9 => h9) rfl dX10_lend_142 ?_
                          refine lv_sipush (v := 200) hx hb dX10_lend_145 (by decide) ?_
                          refine lv_iload_n hx hb dX10_lend_148 rfl (lv_at hl 2 rfl) ?_
                          refine lv_imul hx hb dX10_lend_149 ?_
                          refine lv_topi (fun x_41 ex_41 => ?_)
                          try have tx_41 : x_41.toInt = 200 * x.toInt := by rw [ex_41]; exact gz_mulI (x := 200) (y := x.toInt) (by decide) rfl (by omega) (by omega)
                          refine lv_iload_n hx hb dX10_lend_150 rfl (lv_at hl 3 rfl) ?_
                          refine lv_iadd hx hb dX10_lend_151 ?_
                          refine lv_topi (fun x_42 ex_42 => ?_)
                          try have tx_42 : x_42.toInt = x_41.toInt + y.toInt := by rw [ex_42]; exact gz_addI (x := x_41.toInt) (y := y.toInt) rfl rfl (by omega) (by omega)
                          refine lv_iload_n hx hb dX10_lend_152 rfl (lv_at hl 4 rfl) ?_
                          refine gs_iast hx hb hK hI hm hM hS 6 0 (by decide) (fun _ => rfl) (vp_in_iff.mpr ⟨by omega, by omega⟩) dX10_lend_153 (fun st_43 H locs est_43 hM hS => ?_)
                          have hB_st_43 : gBN bM kM [0, 600] st st_43 := by rw [est_43]; exact hB_st_40.up (show (600 : Nat) ∈ _ from by decide) (gi_lo _) (gi_hi _)
                          refine lv_iload hx hb dX10_lend_154 (lv_at hl 0 rfl) ?_
                          rw [← hQe]
                          exact gs_iret hx hb hr hlocks hM hS rfl ⟨hB_st_43, (Or.inr (Or.inr (⟨⟨by omega, by omega, by omega, by omega, by omega, by omega, by omega, by omega⟩, ⟨by omega, by omega, by omega⟩, hv18_2, (((congrFun (congrFun est_43 6) 0).trans ((gU_at _ _ _ _ _).trans (congrArg (fun f9 => upd f9 (x_42.toNatClampNeg) (w : Int32)) ((congrFun (congrFun est_40 6) 0).trans ((gU_at _ _ _ _ _).trans (congrArg (fun f9 => upd f9 (x_36.toNatClampNeg) (x_39 : Int32)) ((congrFun (congrFun est_1 6) 0).trans ((congrFun (gU_k (by decide)) 0).trans rfl)))))))).trans (by have c_x_36 := gs_cl (x := x_36) (by omega); have c_x_42 := gs_cl (x := x_42) (by omega); have c_x := gs_cl (x := x) (by omega); have c_y18_0 := gs_cl (x := y18_0) (by omega); have c_y := gs_cl (x := y) (by omega); rw [show x_36.toNatClampNeg = 200 * x.toNatClampNeg + y18_0.toNatClampNeg by omega, show x_42.toNatClampNeg = 200 * x.toNatClampNeg + y.toNatClampNeg by omega, show x_39 = (st 6 0 (200 * x.toNatClampNeg + y.toNatClampNeg)) from Int32.toInt_inj.mp hj_x_39]))⟩)))⟩ (by exact Nat.le_refl _) (by exact Nat.le_refl _) dX10_lend_156
                        · have ic_34 := gz_nle (rfl : y18_0.toInt = y18_0.toInt) (by decide : (199 : Int32).toInt = 199) c_34
                          refine lv_iconst (v := (-1)) hx hb dX10_lend_114 (by decide) ?_
                          rw [← hQe]
                          exact gs_iret hx hb hr hlocks hM hS rfl ⟨hB_st_1, (Or.inr (Or.inl (⟨⟨by omega, by omega, by omega, by omega, by omega, by omega, by omega, by omega⟩, (fun d9 h1 h2 => hv18_2 d9 h1 (by omega)), by decide, (frM.up est_1)⟩)))⟩ (by exact Nat.le_refl _) (by exact Nat.le_refl _) dX10_lend_115
                      · have ic_33 := gz_ne (rfl : x_32.toInt = x_32.toInt) (rfl : w.toInt = w.toInt) c_33
                        obtain ⟨x_44, ex_44⟩ : ∃ y : Int32, y = y18_0 + 1 := ⟨_, rfl⟩
                        try have tx_44 : x_44.toInt = y18_0.toInt + 1 := by rw [ex_44]; exact gz_addP (x := y18_0.toInt) (y := 1) rfl (by decide) (by omega) (by omega)
                        refine lv_iinc (v := (x_44)) (lv' := [(4, .int x_44), (0, .ref (ad 0 0)), (1, .int x), (2, .int y), (3, .int w)]) hx hb dX10_lend_100 hl (k := 0) rfl (by rw [ex_44]; rfl) (by decide) rfl (fun ls hl => ?_)
                        refine lv_goto (tgt := 75) hx hb dX10_lend_103 (by decide) ?_
                        exact ih_18  (x_44 : Int32) H _ ls (by omega)  (by omega) (by omega) (noBk.step hv18_2 (by omega) (by omega) (show ¬ (st 6 0 (200 * x.toNatClampNeg + y18_0.toNatClampNeg)).toInt = Xw by omega)) hM hS (lv_sub hl [0, 1, 2, 3, 4] rfl)
                exact lp18 ((200 - (x_17 : Int32).toInt).toNat + 1)  (x_17 : Int32) H _ ls (Nat.lt_succ_self _)  (by omega) (by omega) (noBk.nil (by omega)) hM hS (lv_sub hl [0, 1, 2, 3, 4] rfl)
              · have ic_16 := gz_eqn (rfl : x_15.toInt = x_15.toInt) (rfl : w.toInt = w.toInt) c_16
                refine lv_iconst (v := (-1)) hx hb dX10_lend_68 (by decide) ?_
                rw [← hQe]
                exact gs_iret hx hb hr hlocks hM hS rfl ⟨hB_st_1, (Or.inl (⟨by omega, by decide, (frM.up est_1)⟩))⟩ (by exact Nat.le_refl _) (by exact Nat.le_refl _) dX10_lend_69
      · skip
        refine lv_if_eq (tgt := 68) hx hb dX10_lend_19 (by decide) (fun _ => ?_) (fun h9 => absurd (by decide) h9)
        refine lv_iconst (v := (-1)) hx hb dX10_lend_68 (by decide) ?_
        rw [← hQe]
        exact gs_iret hx hb hr hlocks hM hS rfl ⟨hB_st_1, (Or.inl (⟨by omega, by decide, (frM.up est_1)⟩))⟩ (by exact Nat.le_refl _) (by exact Nat.le_refl _) dX10_lend_69
