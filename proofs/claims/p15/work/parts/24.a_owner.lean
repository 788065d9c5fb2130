theorem gm_930 : (Jvm.Cond.fieldLink "WellCourtModel" (210 : Nat) "WellCourtModel" "rules" "I") ∈ gz_T := gz_at 930 (by decide +kernel) rfl
theorem dX10_byDrought_0 : decode cX10_byDrought 0 = .ok (.bipush 24, 2) := by decide +kernel
theorem dX10_byDrought_2 : decode cX10_byDrought 2 = .ok (.aload_n 0, 1) := by decide +kernel
theorem dX10_byDrought_3 : decode cX10_byDrought 3 = .ok (.getfield 201, 3) := by decide +kernel
theorem dX10_byDrought_6 : decode cX10_byDrought 6 = .ok (.imul, 1) := by decide +kernel
theorem dX10_byDrought_7 : decode cX10_byDrought 7 = .ok (.istore_n 3, 1) := by decide +kernel
theorem dX10_byDrought_8 : decode cX10_byDrought 8 = .ok (.iload_n 3, 1) := by decide +kernel
theorem dX10_byDrought_9 : decode cX10_byDrought 9 = .ok (.bipush 24, 2) := by decide +kernel
theorem dX10_byDrought_11 : decode cX10_byDrought 11 = .ok (.aload_n 0, 1) := by decide +kernel
theorem dX10_byDrought_12 : decode cX10_byDrought 12 = .ok (.getfield 201, 3) := by decide +kernel
theorem dX10_byDrought_15 : decode cX10_byDrought 15 = .ok (.imul, 1) := by decide +kernel
theorem dX10_byDrought_16 : decode cX10_byDrought 16 = .ok (.aload_n 0, 1) := by decide +kernel
theorem dX10_byDrought_17 : decode cX10_byDrought 17 = .ok (.getfield 210, 3) := by decide +kernel
theorem dX10_byDrought_20 : decode cX10_byDrought 20 = .ok (.iadd, 1) := by decide +kernel
theorem dX10_byDrought_21 : decode cX10_byDrought 21 = .ok (.if_icmp .ge 46, 3) := by decide +kernel
theorem dX10_byDrought_24 : decode cX10_byDrought 24 = .ok (.aload_n 0, 1) := by decide +kernel
theorem dX10_byDrought_25 : decode cX10_byDrought 25 = .ok (.getfield 37, 3) := by decide +kernel
theorem dX10_byDrought_28 : decode cX10_byDrought 28 = .ok (.iload_n 3, 1) := by decide +kernel
theorem dX10_byDrought_29 : decode cX10_byDrought 29 = .ok (.iaload, 1) := by decide +kernel
theorem dX10_byDrought_30 : decode cX10_byDrought 30 = .ok (.iconst 3, 1) := by decide +kernel
theorem dX10_byDrought_31 : decode cX10_byDrought 31 = .ok (.if_icmp .ne 30, 3) := by decide +kernel
theorem dX10_byDrought_34 : decode cX10_byDrought 34 = .ok (.aload_n 0, 1) := by decide +kernel
theorem dX10_byDrought_35 : decode cX10_byDrought 35 = .ok (.getfield 40, 3) := by decide +kernel
theorem dX10_byDrought_38 : decode cX10_byDrought 38 = .ok (.iload_n 3, 1) := by decide +kernel
theorem dX10_byDrought_39 : decode cX10_byDrought 39 = .ok (.iaload, 1) := by decide +kernel
theorem dX10_byDrought_40 : decode cX10_byDrought 40 = .ok (.iload_n 1, 1) := by decide +kernel
theorem dX10_byDrought_41 : decode cX10_byDrought 41 = .ok (.if_icmp .ne 20, 3) := by decide +kernel
theorem dX10_byDrought_44 : decode cX10_byDrought 44 = .ok (.iload_n 2, 1) := by decide +kernel
theorem dX10_byDrought_45 : decode cX10_byDrought 45 = .ok (.aload_n 0, 1) := by decide +kernel
theorem dX10_byDrought_46 : decode cX10_byDrought 46 = .ok (.getfield 49, 3) := by decide +kernel
theorem dX10_byDrought_49 : decode cX10_byDrought 49 = .ok (.iload_n 3, 1) := by decide +kernel
theorem dX10_byDrought_50 : decode cX10_byDrought 50 = .ok (.iaload, 1) := by decide +kernel
theorem dX10_byDrought_51 : decode cX10_byDrought 51 = .ok (.if_icmp .ge 10, 3) := by decide +kernel
theorem dX10_byDrought_54 : decode cX10_byDrought 54 = .ok (.aload_n 0, 1) := by decide +kernel
theorem dX10_byDrought_55 : decode cX10_byDrought 55 = .ok (.getfield 43, 3) := by decide +kernel
theorem dX10_byDrought_58 : decode cX10_byDrought 58 = .ok (.iload_n 3, 1) := by decide +kernel
theorem dX10_byDrought_59 : decode cX10_byDrought 59 = .ok (.iaload, 1) := by decide +kernel
theorem dX10_byDrought_60 : decode cX10_byDrought 60 = .ok (.ireturn, 1) := by decide +kernel
theorem dX10_byDrought_61 : decode cX10_byDrought 61 = .ok (.iinc 3 1, 3) := by decide +kernel
theorem dX10_byDrought_64 : decode cX10_byDrought 64 = .ok (.goto (-56), 3) := by decide +kernel
theorem dX10_byDrought_67 : decode cX10_byDrought 67 = .ok (.iconst (-1), 1) := by decide +kernel
theorem dX10_byDrought_68 : decode cX10_byDrought 68 = .ok (.ireturn, 1) := by decide +kernel
theorem dX10_byTurns_0 : decode cX10_byTurns 0 = .ok (.bipush 24, 2) := by decide +kernel
theorem dX10_byTurns_2 : decode cX10_byTurns 2 = .ok (.aload_n 0, 1) := by decide +kernel
theorem dX10_byTurns_3 : decode cX10_byTurns 3 = .ok (.getfield 201, 3) := by decide +kernel
theorem dX10_byTurns_6 : decode cX10_byTurns 6 = .ok (.imul, 1) := by decide +kernel
theorem dX10_byTurns_7 : decode cX10_byTurns 7 = .ok (.istore_n 3, 1) := by decide +kernel
theorem dX10_byTurns_8 : decode cX10_byTurns 8 = .ok (.iload_n 3, 1) := by decide +kernel
theorem dX10_byTurns_9 : decode cX10_byTurns 9 = .ok (.bipush 24, 2) := by decide +kernel
theorem dX10_byTurns_11 : decode cX10_byTurns 11 = .ok (.aload_n 0, 1) := by decide +kernel
theorem dX10_byTurns_12 : decode cX10_byTurns 12 = .ok (.getfield 201, 3) := by decide +kernel
theorem dX10_byTurns_15 : decode cX10_byTurns 15 = .ok (.imul, 1) := by decide +kernel
theorem dX10_byTurns_16 : decode cX10_byTurns 16 = .ok (.aload_n 0, 1) := by decide +kernel
theorem dX10_byTurns_17 : decode cX10_byTurns 17 = .ok (.getfield 210, 3) := by decide +kernel
theorem dX10_byTurns_20 : decode cX10_byTurns 20 = .ok (.iadd, 1) := by decide +kernel
theorem dX10_byTurns_21 : decode cX10_byTurns 21 = .ok (.if_icmp .ge 144, 3) := by decide +kernel
theorem dX10_byTurns_24 : decode cX10_byTurns 24 = .ok (.aload_n 0, 1) := by decide +kernel
theorem dX10_byTurns_25 : decode cX10_byTurns 25 = .ok (.getfield 37, 3) := by decide +kernel
theorem dX10_byTurns_28 : decode cX10_byTurns 28 = .ok (.iload_n 3, 1) := by decide +kernel
theorem dX10_byTurns_29 : decode cX10_byTurns 29 = .ok (.iaload, 1) := by decide +kernel
theorem dX10_byTurns_30 : decode cX10_byTurns 30 = .ok (.ifCond .ne 129, 3) := by decide +kernel
theorem dX10_byTurns_33 : decode cX10_byTurns 33 = .ok (.aload_n 0, 1) := by decide +kernel
theorem dX10_byTurns_34 : decode cX10_byTurns 34 = .ok (.getfield 40, 3) := by decide +kernel
theorem dX10_byTurns_37 : decode cX10_byTurns 37 = .ok (.iload_n 3, 1) := by decide +kernel
theorem dX10_byTurns_38 : decode cX10_byTurns 38 = .ok (.iaload, 1) := by decide +kernel
theorem dX10_byTurns_39 : decode cX10_byTurns 39 = .ok (.iload_n 1, 1) := by decide +kernel
theorem dX10_byTurns_40 : decode cX10_byTurns 40 = .ok (.if_icmp .eq 6, 3) := by decide +kernel
theorem dX10_byTurns_43 : decode cX10_byTurns 43 = .ok (.goto 116, 3) := by decide +kernel
theorem dX10_byTurns_46 : decode cX10_byTurns 46 = .ok (.iconst 0, 1) := by decide +kernel
theorem dX10_byTurns_47 : decode cX10_byTurns 47 = .ok (.istore 4, 2) := by decide +kernel
theorem dX10_byTurns_49 : decode cX10_byTurns 49 = .ok (.iconst 0, 1) := by decide +kernel
theorem dX10_byTurns_50 : decode cX10_byTurns 50 = .ok (.istore 5, 2) := by decide +kernel
theorem dX10_byTurns_52 : decode cX10_byTurns 52 = .ok (.iload 5, 2) := by decide +kernel
theorem dX10_byTurns_54 : decode cX10_byTurns 54 = .ok (.aload_n 0, 1) := by decide +kernel
theorem dX10_byTurns_55 : decode cX10_byTurns 55 = .ok (.getfield 52, 3) := by decide +kernel
theorem dX10_byTurns_58 : decode cX10_byTurns 58 = .ok (.iload_n 3, 1) := by decide +kernel
theorem dX10_byTurns_59 : decode cX10_byTurns 59 = .ok (.iaload, 1) := by decide +kernel
theorem dX10_byTurns_60 : decode cX10_byTurns 60 = .ok (.if_icmp .ge 26, 3) := by decide +kernel
theorem dX10_byTurns_63 : decode cX10_byTurns 63 = .ok (.iload 4, 2) := by decide +kernel
theorem dX10_byTurns_65 : decode cX10_byTurns 65 = .ok (.aload_n 0, 1) := by decide +kernel
theorem dX10_byTurns_66 : decode cX10_byTurns 66 = .ok (.getfield 58, 3) := by decide +kernel
theorem dX10_byTurns_69 : decode cX10_byTurns 69 = .ok (.bipush 8, 2) := by decide +kernel
theorem dX10_byTurns_71 : decode cX10_byTurns 71 = .ok (.iload_n 3, 1) := by decide +kernel
theorem dX10_byTurns_72 : decode cX10_byTurns 72 = .ok (.imul, 1) := by decide +kernel
theorem dX10_byTurns_73 : decode cX10_byTurns 73 = .ok (.iload 5, 2) := by decide +kernel
theorem dX10_byTurns_75 : decode cX10_byTurns 75 = .ok (.iadd, 1) := by decide +kernel
theorem dX10_byTurns_76 : decode cX10_byTurns 76 = .ok (.iaload, 1) := by decide +kernel
theorem dX10_byTurns_77 : decode cX10_byTurns 77 = .ok (.iadd, 1) := by decide +kernel
theorem dX10_byTurns_78 : decode cX10_byTurns 78 = .ok (.istore 4, 2) := by decide +kernel
theorem dX10_byTurns_80 : decode cX10_byTurns 80 = .ok (.iinc 5 1, 3) := by decide +kernel
theorem dX10_byTurns_83 : decode cX10_byTurns 83 = .ok (.goto (-31), 3) := by decide +kernel
theorem dX10_byTurns_86 : decode cX10_byTurns 86 = .ok (.iload_n 2, 1) := by decide +kernel
theorem dX10_byTurns_87 : decode cX10_byTurns 87 = .ok (.iload 4, 2) := by decide +kernel
theorem dX10_byTurns_89 : decode cX10_byTurns 89 = .ok (.irem, 1) := by decide +kernel
theorem dX10_byTurns_90 : decode cX10_byTurns 90 = .ok (.istore 5, 2) := by decide +kernel
theorem dX10_byTurns_92 : decode cX10_byTurns 92 = .ok (.iconst 0, 1) := by decide +kernel
theorem dX10_byTurns_93 : decode cX10_byTurns 93 = .ok (.istore 6, 2) := by decide +kernel
theorem dX10_byTurns_95 : decode cX10_byTurns 95 = .ok (.iload 6, 2) := by decide +kernel
theorem dX10_byTurns_97 : decode cX10_byTurns 97 = .ok (.aload_n 0, 1) := by decide +kernel
theorem dX10_byTurns_98 : decode cX10_byTurns 98 = .ok (.getfield 52, 3) := by decide +kernel
theorem dX10_byTurns_101 : decode cX10_byTurns 101 = .ok (.iload_n 3, 1) := by decide +kernel
theorem dX10_byTurns_102 : decode cX10_byTurns 102 = .ok (.iaload, 1) := by decide +kernel
theorem dX10_byTurns_103 : decode cX10_byTurns 103 = .ok (.if_icmp .ge 56, 3) := by decide +kernel
theorem dX10_byTurns_106 : decode cX10_byTurns 106 = .ok (.iload 5, 2) := by decide +kernel
theorem dX10_byTurns_108 : decode cX10_byTurns 108 = .ok (.aload_n 0, 1) := by decide +kernel
theorem dX10_byTurns_109 : decode cX10_byTurns 109 = .ok (.getfield 58, 3) := by decide +kernel
theorem dX10_byTurns_112 : decode cX10_byTurns 112 = .ok (.bipush 8, 2) := by decide +kernel
theorem dX10_byTurns_114 : decode cX10_byTurns 114 = .ok (.iload_n 3, 1) := by decide +kernel
theorem dX10_byTurns_115 : decode cX10_byTurns 115 = .ok (.imul, 1) := by decide +kernel
theorem dX10_byTurns_116 : decode cX10_byTurns 116 = .ok (.iload 6, 2) := by decide +kernel
theorem dX10_byTurns_118 : decode cX10_byTurns 118 = .ok (.iadd, 1) := by decide +kernel
theorem dX10_byTurns_119 : decode cX10_byTurns 119 = .ok (.iaload, 1) := by decide +kernel
theorem dX10_byTurns_120 : decode cX10_byTurns 120 = .ok (.if_icmp .ge 16, 3) := by decide +kernel
theorem dX10_byTurns_123 : decode cX10_byTurns 123 = .ok (.aload_n 0, 1) := by decide +kernel
theorem dX10_byTurns_124 : decode cX10_byTurns 124 = .ok (.getfield 55, 3) := by decide +kernel
theorem dX10_byTurns_127 : decode cX10_byTurns 127 = .ok (.bipush 8, 2) := by decide +kernel
theorem dX10_byTurns_129 : decode cX10_byTurns 129 = .ok (.iload_n 3, 1) := by decide +kernel
theorem dX10_byTurns_130 : decode cX10_byTurns 130 = .ok (.imul, 1) := by decide +kernel
theorem dX10_byTurns_131 : decode cX10_byTurns 131 = .ok (.iload 6, 2) := by decide +kernel
theorem dX10_byTurns_133 : decode cX10_byTurns 133 = .ok (.iadd, 1) := by decide +kernel
theorem dX10_byTurns_134 : decode cX10_byTurns 134 = .ok (.iaload, 1) := by decide +kernel
theorem dX10_byTurns_135 : decode cX10_byTurns 135 = .ok (.ireturn, 1) := by decide +kernel
theorem dX10_byTurns_136 : decode cX10_byTurns 136 = .ok (.iload 5, 2) := by decide +kernel
theorem dX10_byTurns_138 : decode cX10_byTurns 138 = .ok (.aload_n 0, 1) := by decide +kernel
theorem dX10_byTurns_139 : decode cX10_byTurns 139 = .ok (.getfield 58, 3) := by decide +kernel
theorem dX10_byTurns_142 : decode cX10_byTurns 142 = .ok (.bipush 8, 2) := by decide +kernel
theorem dX10_byTurns_144 : decode cX10_byTurns 144 = .ok (.iload_n 3, 1) := by decide +kernel
theorem dX10_byTurns_145 : decode cX10_byTurns 145 = .ok (.imul, 1) := by decide +kernel
theorem dX10_byTurns_146 : decode cX10_byTurns 146 = .ok (.iload 6, 2) := by decide +kernel
theorem dX10_byTurns_148 : decode cX10_byTurns 148 = .ok (.iadd, 1) := by decide +kernel
theorem dX10_byTurns_149 : decode cX10_byTurns 149 = .ok (.iaload, 1) := by decide +kernel
theorem dX10_byTurns_150 : decode cX10_byTurns 150 = .ok (.isub, 1) := by decide +kernel
theorem dX10_byTurns_151 : decode cX10_byTurns 151 = .ok (.istore 5, 2) := by decide +kernel
theorem dX10_byTurns_153 : decode cX10_byTurns 153 = .ok (.iinc 6 1, 3) := by decide +kernel
theorem dX10_byTurns_156 : decode cX10_byTurns 156 = .ok (.goto (-61), 3) := by decide +kernel
theorem dX10_byTurns_159 : decode cX10_byTurns 159 = .ok (.iinc 3 1, 3) := by decide +kernel
theorem dX10_byTurns_162 : decode cX10_byTurns 162 = .ok (.goto (-154), 3) := by decide +kernel
theorem dX10_byTurns_165 : decode cX10_byTurns 165 = .ok (.iconst (-1), 1) := by decide +kernel
theorem dX10_byTurns_166 : decode cX10_byTurns 166 = .ok (.ireturn, 1) := by decide +kernel
set_option maxHeartbeats 4000000 in
set_option maxRecDepth 100000 in
/-- WellCourtModel.byTurns -/
theorem m_byTurns (l : Launch) (G : va_G) (cy : Nat → ClassId) (sK sV : Nat → Nat) (ad : Nat → Nat → Nat) (sz : Nat) (st : gS) (hB : gBd bM st) (x : Int32) (y : Int32) (Xx : Int) (Xy : Int) (kx : x.toInt = Xx) (ky : y.toInt = Xy) (hy0 : 0 ≤ Xy) (rs : List Rl) (bk : Nat) (hbk : (st 0 0 28).toInt = (bk : Int)) (hru : (st 0 0 29).toInt = (rs.length : Int)) (hLM : LM rs st bk) (hwf : ∀ r ∈ rs, wfR r) (hun : unT rs) : gsMi l yX10_byTurns cX10_byTurns 7 (some .int) ({ frames := 0, cells := 0, slots := 0, locals := 0 } : Room) G cy sK sV (shM cy ad) cnM ad sz [.ref (ad 0 0), .int x, .int y] st (fun (r : Int32) (u : gS) => gBN bM kM [] st u ∧ ((r.toInt = ownT rs Xx Xy))) := by
  refine gs_start (fun A => gsQi G (shM cy ad) cnM ad _ A) (by decide) (Nat.le_of_ble_eq_true rfl) ?_
  intro p e s m below meth c A ls H hx hb hr hml hlocks hown hts hK hov hE hI hM hm hS hA hl
  have hl : lv_has ls 7 [(0, .ref (ad 0 0)), (1, .int x), (2, .int y)] := hl
  have hB_st : gBN bM kM [] st st := gBN.rf hB
  have bb1 : (0 : Int) ≤ (st 0 0 28).toInt ∧ (st 0 0 28).toInt ≤ (1 : Int) := hB 0 0 28
  have bb3 : (0 : Int) ≤ (st 0 0 30).toInt ∧ (st 0 0 30).toInt ≤ (20 : Int) := hB 0 0 30
  have bb2 : (0 : Int) ≤ (st 0 0 29).toInt ∧ (st 0 0 29).toInt ≤ (20 : Int) := hB 0 0 29
  generalize hQe : MQ below _ _ s _ _ A = Q
  refine lv_bipush (v := 24) hx hb dX10_byTurns_0 (by decide) ?_
  refine lv_aload_n hx hb dX10_byTurns_2 rfl (lv_at hl 0 rfl) ?_
  refine gs_get (C := RX10) (T := TX10) (N := 59) hx hb hts inX10 hown hK hM 0 0 28 (by decide) rfl rfl (by decide) (hts _ gm_929) (fun _ h9 => h9) rfl dX10_byTurns_3 ?_
  have bf_1 : (0 : Int) ≤ (st 0 0 28).toInt ∧ (st 0 0 28).toInt ≤ (1 : Int) := hB_st.1 0 0 28
  refine lv_imul hx hb dX10_byTurns_6 ?_
  refine lv_topi (fun x_2 ex_2 => ?_)
  try have tx_2 : x_2.toInt = 24 * (st 0 0 28).toInt := by rw [ex_2]; exact gz_mulI (x := 24) (y := (st 0 0 28).toInt) (by decide) rfl (by omega) (by omega)
  refine lv_istore_n (lv' := [(3, .int x_2), (0, .ref (ad 0 0)), (1, .int x), (2, .int y)]) hx hb dX10_byTurns_7 rfl hl (by decide) rfl (fun ls hl => ?_)
  have lp3 : ∀ (n3 : Nat)  (y3_0 : Int32) (H : Heap) (locs : List Loc) (ls : Array Slot), (48 - y3_0.toInt).toNat < n3 →  (24 * (bk : Int) ≤ y3_0.toInt) → (noT st Xx (24 * bk) y3_0.toInt) → gM G (shM cy ad) cnM ad st H → va_S A s.heap H locs → lv_has ls 7 [(3, .int y3_0), (0, .ref (ad 0 0)), (1, .int x), (2, .int y)] → W p l e ({ frames := 0, cells := 0, slots := 0, locals := 0 } : Room) s m [.ref (ad 0 0), .int x, .int y].toArray below meth c H locs 0 0 Q (F0 m 8 ls []) := by
    intro n3
    induction n3 with
    | zero => intro  y3_0 H locs ls h9; exact absurd h9 (Nat.not_lt_zero _)
    | succ n3 ih_3 =>
      intro  y3_0 H locs ls hme3  hv3_0 hv3_1 hM hS hl
      refine lv_iload_n hx hb dX10_byTurns_8 rfl (lv_at hl 0 rfl) ?_
      refine lv_bipush (v := 24) hx hb dX10_byTurns_9 (by decide) ?_
      refine lv_aload_n hx hb dX10_byTurns_11 rfl (lv_at hl 1 rfl) ?_
      refine gs_get (C := RX10) (T := TX10) (N := 59) hx hb hts inX10 hown hK hM 0 0 28 (by decide) rfl rfl (by decide) (hts _ gm_929) (fun _ h9 => h9) rfl dX10_byTurns_12 ?_
      have bf_4 : (0 : Int) ≤ (st 0 0 28).toInt ∧ (st 0 0 28).toInt ≤ (1 : Int) := hB_st.1 0 0 28
      refine lv_imul hx hb dX10_byTurns_15 ?_
      refine lv_topi (fun x_5 ex_5 => ?_)
      try have tx_5 : x_5.toInt = 24 * (st 0 0 28).toInt := by rw [ex_5]; exact gz_mulI (x := 24) (y := (st 0 0 28).toInt) (by decide) rfl (by omega) (by omega)
      refine lv_aload_n hx hb dX10_byTurns_16 rfl (lv_at hl 1 rfl) ?_
      refine gs_get (C := RX10) (T := TX10) (N := 59) hx hb hts inX10 hown hK hM 0 0 29 (by decide) rfl rfl (by decide) (hts _ gm_930) (fun _ h9 => h9) rfl dX10_byTurns_17 ?_
      have bf_6 : (0 : Int) ≤ (st 0 0 29).toInt ∧ (st 0 0 29).toInt ≤ (20 : Int) := hB_st.1 0 0 29
      refine lv_iadd hx hb dX10_byTurns_20 ?_
      refine lv_topi (fun x_7 ex_7 => ?_)
      try have tx_7 : x_7.toInt = x_5.toInt + (st 0 0 29).toInt := by rw [ex_7]; exact gz_addI (x := x_5.toInt) (y := (st 0 0 29).toInt) rfl rfl (by omega) (by omega)
      refine lv_icmp_ge (tgt := 165) hx hb dX10_byTurns_21 (by decide) (fun c_8 => ?_) (fun c_8 => ?_)
      · have ic_8 := gz_le (rfl : x_7.toInt = x_7.toInt) (rfl : y3_0.toInt = y3_0.toInt) c_8
        refine lv_iconst (v := (-1)) hx hb dX10_byTurns_165 (by decide) ?_
        rw [← hQe]
        exact gs_iret hx hb hr hlocks hM hS rfl ⟨hB_st, ((show ((-1 : Int32)).toInt = -1 from by decide).trans (ownT_no (LM.not hLM hv3_1 (by omega))).symm)⟩ (by exact Nat.le_refl _) (by exact Nat.le_refl _) dX10_byTurns_166
      · have ic_8 := gz_nle (rfl : x_7.toInt = x_7.toInt) (rfl : y3_0.toInt = y3_0.toInt) c_8
        have lc_8 := gi_hi x_7
        refine lv_aload_n hx hb dX10_byTurns_24 rfl (lv_at hl 1 rfl) ?_
        refine gs_get (C := RX10) (T := TX10) (N := 59) hx hb hts inX10 hown hK hM 0 0 20 (by decide) rfl rfl (by decide) (hts _ gm_921) (fun _ h9 => h9) rfl dX10_byTurns_25 ?_
        refine lv_iload_n hx hb dX10_byTurns_28 rfl (lv_at hl 0 rfl) ?_
        refine gs_iald hx hb hK hM 8 0 (by decide) rfl (vp_in_iff.mpr ⟨by omega, by omega⟩) dX10_byTurns_29 ?_
        refine lv_topi (fun x_9 ex_9 => ?_)
        have qx_9 : x_9.toInt = (st 8 0 (y3_0.toNatClampNeg)).toInt := congrArg Int32.toInt ex_9
        refine lv_if_ne (tgt := 159) hx hb dX10_byTurns_30 (by decide) (fun c_10 => ?_) (fun c_10 => ?_)
        · have ic_10 := gz_ne (rfl : x_9.toInt = x_9.toInt) (by decide : (0 : Int32).toInt = 0) c_10
          obtain ⟨x_11, ex_11⟩ : ∃ y : Int32, y = y3_0 + 1 := ⟨_, rfl⟩
          try have tx_11 : x_11.toInt = y3_0.toInt + 1 := by rw [ex_11]; exact gz_addP (x := y3_0.toInt) (y := 1) rfl (by decide) (by omega) (by omega)
          refine lv_iinc (v := (x_11)) (lv' := [(3, .int x_11), (0, .ref (ad 0 0)), (1, .int x), (2, .int y)]) hx hb dX10_byTurns_159 hl (k := 0) rfl (by rw [ex_11]; rfl) (by decide) rfl (fun ls hl => ?_)
          refine lv_goto (tgt := 8) hx hb dX10_byTurns_162 (by decide) ?_
          exact ih_3  (x_11 : Int32) H _ ls (by omega)  (by omega) (noT.step hv3_1 (by omega) (by omega) (by omega)) hM hS (lv_sub hl [0, 1, 2, 3] rfl)
        · have ic_10 := gz_eqn (rfl : x_9.toInt = x_9.toInt) (by decide : (0 : Int32).toInt = 0) c_10
          refine lv_aload_n hx hb dX10_byTurns_33 rfl (lv_at hl 1 rfl) ?_
          refine gs_get (C := RX10) (T := TX10) (N := 59) hx hb hts inX10 hown hK hM 0 0 21 (by decide) rfl rfl (by decide) (hts _ gm_922) (fun _ h9 => h9) rfl dX10_byTurns_34 ?_
          refine lv_iload_n hx hb dX10_byTurns_37 rfl (lv_at hl 0 rfl) ?_
          refine gs_iald hx hb hK hM 9 0 (by decide) rfl (vp_in_iff.mpr ⟨by omega, by omega⟩) dX10_byTurns_38 ?_
          refine lv_topi (fun x_12 ex_12 => ?_)
          have qx_12 : x_12.toInt = (st 9 0 (y3_0.toNatClampNeg)).toInt := congrArg Int32.toInt ex_12
          have bx_12 : (0 : Int) ≤ x_12.toInt ∧ x_12.toInt ≤ (5 : Int) := by rw [qx_12]; exact hB_st.1 9 0 (y3_0.toNatClampNeg)
          refine lv_iload_n hx hb dX10_byTurns_39 rfl (lv_at hl 2 rfl) ?_
          refine lv_icmp_eq (tgt := 46) hx hb dX10_byTurns_40 (by decide) (fun c_13 => ?_) (fun c_13 => ?_)
          · have ic_13 := gz_eq (rfl : x_12.toInt = x_12.toInt) (rfl : x.toInt = x.toInt) c_13
            obtain ⟨sh9, hs1, hs2, hs3, hs4, hs5, hs6⟩ := LM.turn (y := y3_0) (w := Xx) hLM hwf hun (by omega) (by omega) (by omega) (by omega)
            have hcy := gs_cl (x := y3_0) (by omega)
            refine lv_iconst (v := 0) hx hb dX10_byTurns_46 (by decide) ?_
            refine lv_istore (lv' := [(4, .int 0), (3, .int y3_0), (0, .ref (ad 0 0)), (1, .int x), (2, .int y)]) hx hb dX10_byTurns_47 hl (by decide) rfl (fun ls hl => ?_)
            refine lv_iconst (v := 0) hx hb dX10_byTurns_49 (by decide) ?_
            refine lv_istore (lv' := [(5, .int 0), (4, .int 0), (3, .int y3_0), (0, .ref (ad 0 0)), (1, .int x), (2, .int y)]) hx hb dX10_byTurns_50 hl (by decide) rfl (fun ls hl => ?_)
            have lp14 : ∀ (n14 : Nat)  (y14_0 : Int32) (y14_1 : Int32) (H : Heap) (locs : List Loc) (ls : Array Slot), (8 - y14_1.toInt).toNat < n14 →  (0 ≤ y14_1.toInt) → (y14_1.toInt ≤ 8) → (0 ≤ y14_0.toInt) → (y14_0.toInt ≤ 9 * y14_1.toInt) → (sumI sh9 y14_1.toInt y14_0.toInt) → gM G (shM cy ad) cnM ad st H → va_S A s.heap H locs → lv_has ls 7 [(5, .int y14_1), (4, .int y14_0), (3, .int y3_0), (0, .ref (ad 0 0)), (1, .int x), (2, .int y)] → W p l e ({ frames := 0, cells := 0, slots := 0, locals := 0 } : Room) s m [.ref (ad 0 0), .int x, .int y].toArray below meth c H locs 0 0 Q (F0 m 52 ls []) := by
              intro n14
              induction n14 with
              | zero => intro  y14_0 y14_1 H locs ls h9; exact absurd h9 (Nat.not_lt_zero _)
              | succ n14 ih_14 =>
                intro  y14_0 y14_1 H locs ls hme14  hv14_0 hv14_1 hv14_2 hv14_3 hv14_4 hM hS hl
                refine lv_iload hx hb dX10_byTurns_52 (lv_at hl 0 rfl) ?_
                refine lv_aload_n hx hb dX10_byTurns_54 rfl (lv_at hl 3 rfl) ?_
                refine gs_get (C := RX10) (T := TX10) (N := 59) hx hb hts inX10 hown hK hM 0 0 25 (by decide) rfl rfl (by decide) (hts _ gm_926) (fun _ h9 => h9) rfl dX10_byTurns_55 ?_
                refine lv_iload_n hx hb dX10_byTurns_58 rfl (lv_at hl 2 rfl) ?_
                refine gs_iald hx hb hK hM 13 0 (by decide) rfl (vp_in_iff.mpr ⟨by omega, by omega⟩) dX10_byTurns_59 ?_
                refine lv_topi (fun x_15 ex_15 => ?_)
                have qx_15 : x_15.toInt = (st 13 0 (y3_0.toNatClampNeg)).toInt := congrArg Int32.toInt ex_15
                have bx_15 : (0 : Int) ≤ x_15.toInt ∧ x_15.toInt ≤ (8 : Int) := by rw [qx_15]; exact hB_st.1 13 0 (y3_0.toNatClampNeg)
                refine lv_icmp_ge (tgt := 86) hx hb dX10_byTurns_60 (by decide) (fun c_16 => ?_) (fun c_16 => ?_)
                · have ic_16 := gz_le (rfl : x_15.toInt = x_15.toInt) (rfl : y14_1.toInt = y14_1.toInt) c_16
                  refine lv_iload_n hx hb dX10_byTurns_86 rfl (lv_at hl 5 rfl) ?_
                  refine lv_iload hx hb dX10_byTurns_87 (lv_at hl 1 rfl) ?_
                  have hm9 : y14_0.toInt = ((shT sh9).length : Int) := sumI.all hv14_4 (by omega)
                  refine lv_irem hx hb dX10_byTurns_89 (fun h9 => by have h8 := congrArg Int32.toInt h9; have h7 : (0 : Int32).toInt = 0 := (by decide); omega) ?_
                  refine lv_topi (fun x_17 ex_17 => ?_)
                  try have tx_17 := gs_rem2 (y := y14_0.toInt) rfl (show 0 ≤ y.toInt from by omega) (by omega) ex_17
                  refine lv_istore (lv' := [(5, .int x_17), (4, .int y14_0), (3, .int y3_0), (0, .ref (ad 0 0)), (1, .int x), (2, .int y)]) hx hb dX10_byTurns_90 hl (by decide) rfl (fun ls hl => ?_)
                  have hk9 : x_17.toInt = Xy % ((shT sh9).length : Int) := gs_rem3 hm9 ky (by omega) (by omega) ex_17
                  have hk8 := Int.emod_nonneg Xy (show ((shT sh9).length : Int) ≠ 0 by omega)
                  have hk7 := Int.emod_lt_of_pos Xy (show (0 : Int) < ((shT sh9).length : Int) by omega)
                  refine lv_iconst (v := 0) hx hb dX10_byTurns_92 (by decide) ?_
                  refine lv_istore (lv' := [(6, .int 0), (5, .int x_17), (4, .int y14_0), (3, .int y3_0), (0, .ref (ad 0 0)), (1, .int x), (2, .int y)]) hx hb dX10_byTurns_93 hl (by decide) rfl (fun ls hl => ?_)
                  have lp18 : ∀ (n18 : Nat)  (y18_0 : Int32) (y18_1 : Int32) (H : Heap) (locs : List Loc) (ls : Array Slot), (8 - y18_1.toInt).toNat < n18 →  (0 ≤ y18_1.toInt) → (0 ≤ y18_0.toInt) → (wkI sh9 y18_1.toInt y18_0.toInt (ownT rs Xx Xy)) → (y18_0.toInt ≤ 72) → gM G (shM cy ad) cnM ad st H → va_S A s.heap H locs → lv_has ls 7 [(6, .int y18_1), (5, .int y18_0), (4, .int y14_0), (3, .int y3_0), (0, .ref (ad 0 0)), (1, .int x), (2, .int y)] → W p l e ({ frames := 0, cells := 0, slots := 0, locals := 0 } : Room) s m [.ref (ad 0 0), .int x, .int y].toArray below meth c H locs 0 0 Q (F0 m 95 ls []) := by
                    intro n18
                    induction n18 with
                    | zero => intro  y18_0 y18_1 H locs ls h9; exact absurd h9 (Nat.not_lt_zero _)
                    | succ n18 ih_18 =>
                      intro  y18_0 y18_1 H locs ls hme18  hv18_0 hv18_1 hv18_2 hv18_3 hM hS hl
                      refine lv_iload hx hb dX10_byTurns_95 (lv_at hl 0 rfl) ?_
                      refine lv_aload_n hx hb dX10_byTurns_97 rfl (lv_at hl 4 rfl) ?_
                      refine gs_get (C := RX10) (T := TX10) (N := 59) hx hb hts inX10 hown hK hM 0 0 25 (by decide) rfl rfl (by decide) (hts _ gm_926) (fun _ h9 => h9) rfl dX10_byTurns_98 ?_
                      refine lv_iload_n hx hb dX10_byTurns_101 rfl (lv_at hl 3 rfl) ?_
                      refine gs_iald hx hb hK hM 13 0 (by decide) rfl (vp_in_iff.mpr ⟨by omega, by omega⟩) dX10_byTurns_102 ?_
                      refine lv_topi (fun x_19 ex_19 => ?_)
                      have qx_19 : x_19.toInt = (st 13 0 (y3_0.toNatClampNeg)).toInt := congrArg Int32.toInt ex_19
                      have bx_19 : (0 : Int) ≤ x_19.toInt ∧ x_19.toInt ≤ (8 : Int) := by rw [qx_19]; exact hB_st.1 13 0 (y3_0.toNatClampNeg)
                      refine lv_icmp_ge (tgt := 159) hx hb dX10_byTurns_103 (by decide) (fun c_20 => ?_) (fun c_20 => ?_)
                      · have ic_20 := gz_le (rfl : x_19.toInt = x_19.toInt) (rfl : y18_1.toInt = y18_1.toInt) c_20
                        exact absurd (wkI.no hv18_2 (by omega) (by omega)) not_false
                      · have ic_20 := gz_nle (rfl : x_19.toInt = x_19.toInt) (rfl : y18_1.toInt = y18_1.toInt) c_20
                        have lc_20 := gi_hi x_19
                        refine lv_iload hx hb dX10_byTurns_106 (lv_at hl 1 rfl) ?_
                        refine lv_aload_n hx hb dX10_byTurns_108 rfl (lv_at hl 4 rfl) ?_
                        refine gs_get (C := RX10) (T := TX10) (N := 59) hx hb hts inX10 hown hK hM 0 0 27 (by decide) rfl rfl (by decide) (hts _ gm_928) (fun _ h9 => h9) rfl dX10_byTurns_109 ?_
                        refine lv_bipush (v := 8) hx hb dX10_byTurns_112 (by decide) ?_
                        refine lv_iload_n hx hb dX10_byTurns_114 rfl (lv_at hl 3 rfl) ?_
                        refine lv_imul hx hb dX10_byTurns_115 ?_
                        refine lv_topi (fun x_21 ex_21 => ?_)
                        try have tx_21 : x_21.toInt = 8 * y3_0.toInt := by rw [ex_21]; exact gz_mulI (x := 8) (y := y3_0.toInt) (by decide) rfl (by omega) (by omega)
                        refine lv_iload hx hb dX10_byTurns_116 (lv_at hl 0 rfl) ?_
                        refine lv_iadd hx hb dX10_byTurns_118 ?_
                        refine lv_topi (fun x_22 ex_22 => ?_)
                        try have tx_22 : x_22.toInt = x_21.toInt + y18_1.toInt := by rw [ex_22]; exact gz_addI (x := x_21.toInt) (y := y18_1.toInt) rfl rfl (by omega) (by omega)
                        refine gs_iald hx hb hK hM 15 0 (by decide) rfl (vp_in_iff.mpr ⟨by omega, by omega⟩) dX10_byTurns_119 ?_
                        refine lv_topi (fun x_23 ex_23 => ?_)
                        have qx_23 : x_23.toInt = (st 15 0 (x_22.toNatClampNeg)).toInt := congrArg Int32.toInt ex_23
                        have bx_23 : (0 : Int) ≤ x_23.toInt ∧ x_23.toInt ≤ (9 : Int) := by rw [qx_23]; exact hB_st.1 15 0 (x_22.toNatClampNeg)
                        have hcx_x_23 := gs_cl (x := x_22) (by omega)
                        have hd_x_23 : (sh9.getD y18_1.toInt.toNat (0, 0)).2 = x_23.toInt := (by rw [qx_23, show x_22.toNatClampNeg = 8 * y3_0.toNatClampNeg + y18_1.toInt.toNat by omega]; exact (hs2 _ (by omega)).2.symm)
                        have hb_x_23 := (hs3 _ (getS_mem (i := y18_1.toInt.toNat) (by omega))).2
                        refine lv_icmp_ge (tgt := 136) hx hb dX10_byTurns_120 (by decide) (fun c_24 => ?_) (fun c_24 => ?_)
                        · have ic_24 := gz_le (rfl : x_23.toInt = x_23.toInt) (rfl : y18_0.toInt = y18_0.toInt) c_24
                          refine lv_iload hx hb dX10_byTurns_136 (lv_at hl 1 rfl) ?_
                          refine lv_aload_n hx hb dX10_byTurns_138 rfl (lv_at hl 4 rfl) ?_
                          refine gs_get (C := RX10) (T := TX10) (N := 59) hx hb hts inX10 hown hK hM 0 0 27 (by decide) rfl rfl (by decide) (hts _ gm_928) (fun _ h9 => h9) rfl dX10_byTurns_139 ?_
                          refine lv_bipush (v := 8) hx hb dX10_byTurns_142 (by decide) ?_
                          refine lv_iload_n hx hb dX10_byTurns_144 rfl (lv_at hl 3 rfl) ?_
                          refine lv_imul hx hb dX10_byTurns_145 ?_
                          refine lv_topi (fun x_25 ex_25 => ?_)
                          try have tx_25 : x_25.toInt = 8 * y3_0.toInt := by rw [ex_25]; exact gz_mulI (x := 8) (y := y3_0.toInt) (by decide) rfl (by omega) (by omega)
                          refine lv_iload hx hb dX10_byTurns_146 (lv_at hl 0 rfl) ?_
                          refine lv_iadd hx hb dX10_byTurns_148 ?_
                          refine lv_topi (fun x_26 ex_26 => ?_)
                          try have tx_26 : x_26.toInt = x_25.toInt + y18_1.toInt := by rw [ex_26]; exact gz_addI (x := x_25.toInt) (y := y18_1.toInt) rfl rfl (by omega) (by omega)
                          refine gs_iald hx hb hK hM 15 0 (by decide) rfl (vp_in_iff.mpr ⟨by omega, by omega⟩) dX10_byTurns_149 ?_
                          refine lv_topi (fun x_27 ex_27 => ?_)
                          have qx_27 : x_27.toInt = (st 15 0 (x_26.toNatClampNeg)).toInt := congrArg Int32.toInt ex_27
                          have bx_27 : (0 : Int) ≤ x_27.toInt ∧ x_27.toInt ≤ (9 : Int) := by rw [qx_27]; exact hB_st.1 15 0 (x_26.toNatClampNeg)
                          have hcx_x_27 := gs_cl (x := x_26) (by omega)
                          have hd_x_27 : (sh9.getD y18_1.toInt.toNat (0, 0)).2 = x_27.toInt := (by rw [qx_27, show x_26.toNatClampNeg = 8 * y3_0.toNatClampNeg + y18_1.toInt.toNat by omega]; exact (hs2 _ (by omega)).2.symm)
                          have hb_x_27 := (hs3 _ (getS_mem (i := y18_1.toInt.toNat) (by omega))).2
                          refine lv_isub hx hb dX10_byTurns_150 ?_
                          refine lv_topi (fun x_28 ex_28 => ?_)
                          try have tx_28 : x_28.toInt = y18_0.toInt - x_27.toInt := by rw [ex_28]; exact gz_subI (x := y18_0.toInt) (y := x_27.toInt) rfl rfl (by omega) (by omega)
                          refine lv_istore (lv' := [(5, .int x_28), (6, .int y18_1), (4, .int y14_0), (3, .int y3_0), (0, .ref (ad 0 0)), (1, .int x), (2, .int y)]) hx hb dX10_byTurns_151 hl (by decide) rfl (fun ls hl => ?_)
                          obtain ⟨x_29, ex_29⟩ : ∃ y : Int32, y = y18_1 + 1 := ⟨_, rfl⟩
                          try have tx_29 : x_29.toInt = y18_1.toInt + 1 := by rw [ex_29]; exact gz_addP (x := y18_1.toInt) (y := 1) rfl (by decide) (by omega) (by omega)
                          refine lv_iinc (v := (x_29)) (lv' := [(6, .int x_29), (5, .int x_28), (4, .int y14_0), (3, .int y3_0), (0, .ref (ad 0 0)), (1, .int x), (2, .int y)]) hx hb dX10_byTurns_153 hl (k := 1) rfl (by rw [ex_29]; rfl) (by decide) rfl (fun ls hl => ?_)
                          refine lv_goto (tgt := 95) hx hb dX10_byTurns_156 (by decide) ?_
                          exact ih_18  (x_28 : Int32) (x_29 : Int32) H _ ls (by omega)  (by omega) (by omega) (wkI.go hv18_2 (by omega) (by omega) hd_x_27 (by omega) (by omega) (by omega) (by omega)) (by omega) hM hS (lv_sub hl [0, 1, 2, 3, 4, 5, 6] rfl)
                        · have ic_24 := gz_nle (rfl : x_23.toInt = x_23.toInt) (rfl : y18_0.toInt = y18_0.toInt) c_24
                          have lc_24 := gi_hi x_23
                          refine lv_aload_n hx hb dX10_byTurns_123 rfl (lv_at hl 4 rfl) ?_
                          refine gs_get (C := RX10) (T := TX10) (N := 59) hx hb hts inX10 hown hK hM 0 0 26 (by decide) rfl rfl (by decide) (hts _ gm_927) (fun _ h9 => h9) rfl dX10_byTurns_124 ?_
                          refine lv_bipush (v := 8) hx hb dX10_byTurns_127 (by decide) ?_
                          refine lv_iload_n hx hb dX10_byTurns_129 rfl (lv_at hl 3 rfl) ?_
                          refine lv_imul hx hb dX10_byTurns_130 ?_
                          refine lv_topi (fun x_30 ex_30 => ?_)
                          try have tx_30 : x_30.toInt = 8 * y3_0.toInt := by rw [ex_30]; exact gz_mulI (x := 8) (y := y3_0.toInt) (by decide) rfl (by omega) (by omega)
                          refine lv_iload hx hb dX10_byTurns_131 (lv_at hl 0 rfl) ?_
                          refine lv_iadd hx hb dX10_byTurns_133 ?_
                          refine lv_topi (fun x_31 ex_31 => ?_)
                          try have tx_31 : x_31.toInt = x_30.toInt + y18_1.toInt := by rw [ex_31]; exact gz_addI (x := x_30.toInt) (y := y18_1.toInt) rfl rfl (by omega) (by omega)
                          refine gs_iald hx hb hK hM 14 0 (by decide) rfl (vp_in_iff.mpr ⟨by omega, by omega⟩) dX10_byTurns_134 ?_
                          refine lv_topi (fun x_32 ex_32 => ?_)
                          have qx_32 : x_32.toInt = (st 14 0 (x_31.toNatClampNeg)).toInt := congrArg Int32.toInt ex_32
                          rw [← hQe]
                          exact gs_iret hx hb hr hlocks hM hS rfl ⟨hB_st, (by have hcz := gs_cl (x := x_31) (by omega); rw [← wkI.here hv18_2 (by omega) (by omega) hd_x_23 (by omega) (by omega), qx_32, show x_31.toNatClampNeg = 8 * y3_0.toNatClampNeg + y18_1.toInt.toNat by omega]; exact (hs2 _ (by omega)).1)⟩ (by exact Nat.le_refl _) (by exact Nat.le_refl _) dX10_byTurns_135
                  exact lp18 ((8 - ((0 : Int32) : Int32).toInt).toNat + 1)  (x_17 : Int32) ((0 : Int32) : Int32) H _ ls (Nat.lt_succ_self _)  (by have hl0 : (0 : Int32).toInt = 0 := (by decide); omega) (by have hl0 : (0 : Int32).toInt = 0 := (by decide); omega) (by rw [hs6, ← hk9, show (0 : Int32).toInt = 0 from by decide]; exact wkI.new (by omega) (by omega)) (by have hl0 : (0 : Int32).toInt = 0 := (by decide); omega) hM hS (lv_sub hl [0, 1, 2, 3, 4, 5, 6] rfl)
                · have ic_16 := gz_nle (rfl : x_15.toInt = x_15.toInt) (rfl : y14_1.toInt = y14_1.toInt) c_16
                  have lc_16 := gi_hi x_15
                  refine lv_iload hx hb dX10_byTurns_63 (lv_at hl 1 rfl) ?_
                  refine lv_aload_n hx hb dX10_byTurns_65 rfl (lv_at hl 3 rfl) ?_
                  refine gs_get (C := RX10) (T := TX10) (N := 59) hx hb hts inX10 hown hK hM 0 0 27 (by decide) rfl rfl (by decide) (hts _ gm_928) (fun _ h9 => h9) rfl dX10_byTurns_66 ?_
                  refine lv_bipush (v := 8) hx hb dX10_byTurns_69 (by decide) ?_
                  refine lv_iload_n hx hb dX10_byTurns_71 rfl (lv_at hl 2 rfl) ?_
                  refine lv_imul hx hb dX10_byTurns_72 ?_
                  refine lv_topi (fun x_33 ex_33 => ?_)
                  try have tx_33 : x_33.toInt = 8 * y3_0.toInt := by rw [ex_33]; exact gz_mulI (x := 8) (y := y3_0.toInt) (by decide) rfl (by omega) (by omega)
                  refine lv_iload hx hb dX10_byTurns_73 (lv_at hl 0 rfl) ?_
                  refine lv_iadd hx hb dX10_byTurns_75 ?_
                  refine lv_topi (fun x_34 ex_34 => ?_)
                  try have tx_34 : x_34.toInt = x_33.toInt + y14_1.toInt := by rw [ex_34]; exact gz_addI (x := x_33.toInt) (y := y14_1.toInt) rfl rfl (by omega) (by omega)
                  refine gs_iald hx hb hK hM 15 0 (by decide) rfl (vp_in_iff.mpr ⟨by omega, by omega⟩) dX10_byTurns_76 ?_
                  refine lv_topi (fun x_35 ex_35 => ?_)
                  have qx_35 : x_35.toInt = (st 15 0 (x_34.toNatClampNeg)).toInt := congrArg Int32.toInt ex_35
                  have bx_35 : (0 : Int) ≤ x_35.toInt ∧ x_35.toInt ≤ (9 : Int) := by rw [qx_35]; exact hB_st.1 15 0 (x_34.toNatClampNeg)
                  have hcx_x_35 := gs_cl (x := x_34) (by omega)
                  have hd_x_35 : (sh9.getD y14_1.toInt.toNat (0, 0)).2 = x_35.toInt := (by rw [qx_35, show x_34.toNatClampNeg = 8 * y3_0.toNatClampNeg + y14_1.toInt.toNat by omega]; exact (hs2 _ (by omega)).2.symm)
                  have hb_x_35 := (hs3 _ (getS_mem (i := y14_1.toInt.toNat) (by omega))).2
                  refine lv_iadd hx hb dX10_byTurns_77 ?_
                  refine lv_topi (fun x_36 ex_36 => ?_)
                  try have tx_36 : x_36.toInt = y14_0.toInt + x_35.toInt := by rw [ex_36]; exact gz_addI (x := y14_0.toInt) (y := x_35.toInt) rfl rfl (by omega) (by omega)
                  refine lv_istore (lv' := [(4, .int x_36), (5, .int y14_1), (3, .int y3_0), (0, .ref (ad 0 0)), (1, .int x), (2, .int y)]) hx hb dX10_byTurns_78 hl (by decide) rfl (fun ls hl => ?_)
                  obtain ⟨x_37, ex_37⟩ : ∃ y : Int32, y = y14_1 + 1 := ⟨_, rfl⟩
                  try have tx_37 : x_37.toInt = y14_1.toInt + 1 := by rw [ex_37]; exact gz_addP (x := y14_1.toInt) (y := 1) rfl (by decide) (by omega) (by omega)
                  refine lv_iinc (v := (x_37)) (lv' := [(5, .int x_37), (4, .int x_36), (3, .int y3_0), (0, .ref (ad 0 0)), (1, .int x), (2, .int y)]) hx hb dX10_byTurns_80 hl (k := 1) rfl (by rw [ex_37]; rfl) (by decide) rfl (fun ls hl => ?_)
                  refine lv_goto (tgt := 52) hx hb dX10_byTurns_83 (by decide) ?_
                  exact ih_14  (x_36 : Int32) (x_37 : Int32) H _ ls (by omega)  (by omega) (by omega) (by omega) (by omega) (sumI.go hv14_4 (by omega) (by omega) hd_x_35 (by omega) (by omega) (by omega)) hM hS (lv_sub hl [0, 1, 2, 3, 4, 5] rfl)
            exact lp14 ((8 - ((0 : Int32) : Int32).toInt).toNat + 1)  ((0 : Int32) : Int32) ((0 : Int32) : Int32) H _ ls (Nat.lt_succ_self _)  (by have hl0 : (0 : Int32).toInt = 0 := (by decide); have hl1 : (0 : Int32).toInt = 0 := (by decide); omega) (by have hl0 : (0 : Int32).toInt = 0 := (by decide); have hl1 : (0 : Int32).toInt = 0 := (by decide); omega) (by have hl0 : (0 : Int32).toInt = 0 := (by decide); have hl1 : (0 : Int32).toInt = 0 := (by decide); omega) (by have hl0 : (0 : Int32).toInt = 0 := (by decide); have hl1 : (0 : Int32).toInt = 0 := (by decide); omega) (by rw [show (0 : Int32).toInt = 0 from by decide]; exact sumI.new) hM hS (lv_sub hl [0, 1, 2, 3, 4, 5] rfl)
          · have ic_13 := gz_ne (rfl : x_12.toInt = x_12.toInt) (rfl : x.toInt = x.toInt) c_13
            refine lv_goto (tgt := 159) hx hb dX10_byTurns_43 (by decide) ?_
            obtain ⟨x_38, ex_38⟩ : ∃ y : Int32, y = y3_0 + 1 := ⟨_, rfl⟩
            try have tx_38 : x_38.toInt = y3_0.toInt + 1 := by rw [ex_38]; exact gz_addP (x := y3_0.toInt) (y := 1) rfl (by decide) (by omega) (by omega)
            refine lv_iinc (v := (x_38)) (lv' := [(3, .int x_38), (0, .ref (ad 0 0)), (1, .int x), (2, .int y)]) hx hb dX10_byTurns_159 hl (k := 0) rfl (by rw [ex_38]; rfl) (by decide) rfl (fun ls hl => ?_)
            refine lv_goto (tgt := 8) hx hb dX10_byTurns_162 (by decide) ?_
            exact ih_3  (x_38 : Int32) H _ ls (by omega)  (by omega) (noT.step hv3_1 (by omega) (by omega) (by omega)) hM hS (lv_sub hl [0, 1, 2, 3] rfl)
  exact lp3 ((48 - (x_2 : Int32).toInt).toNat + 1)  (x_2 : Int32) H _ ls (Nat.lt_succ_self _)  (by omega) (noT.nil (by omega)) hM hS (lv_sub hl [0, 1, 2, 3] rfl)

set_option maxHeartbeats 4000000 in
set_option maxRecDepth 100000 in
/-- WellCourtModel.byDrought -/
theorem m_byDrought (l : Launch) (G : va_G) (cy : Nat → ClassId) (sK sV : Nat → Nat) (ad : Nat → Nat → Nat) (sz : Nat) (st : gS) (hB : gBd bM st) (x : Int32) (y : Int32) (Xx : Int) (Xy : Int) (kx : x.toInt = Xx) (ky : y.toInt = Xy) (rs : List Rl) (bk : Nat) (hbk : (st 0 0 28).toInt = (bk : Int)) (hru : (st 0 0 29).toInt = (rs.length : Int)) (hLM : LM rs st bk) : gsMi l yX10_byDrought cX10_byDrought 4 (some .int) ({ frames := 0, cells := 0, slots := 0, locals := 0 } : Room) G cy sK sV (shM cy ad) cnM ad sz [.ref (ad 0 0), .int x, .int y] st (fun (r : Int32) (u : gS) => gBN bM kM [] st u ∧ ((r.toInt = dryO rs Xx Xy))) := by
  refine gs_start (fun A => gsQi G (shM cy ad) cnM ad _ A) (by decide) (Nat.le_of_ble_eq_true rfl) ?_
  intro p e s m below meth c A ls H hx hb hr hml hlocks hown hts hK hov hE hI hM hm hS hA hl
  have hl : lv_has ls 4 [(0, .ref (ad 0 0)), (1, .int x), (2, .int y)] := hl
  have hB_st : gBN bM kM [] st st := gBN.rf hB
  have bb1 : (0 : Int) ≤ (st 0 0 28).toInt ∧ (st 0 0 28).toInt ≤ (1 : Int) := hB 0 0 28
  have bb3 : (0 : Int) ≤ (st 0 0 30).toInt ∧ (st 0 0 30).toInt ≤ (20 : Int) := hB 0 0 30
  have bb2 : (0 : Int) ≤ (st 0 0 29).toInt ∧ (st 0 0 29).toInt ≤ (20 : Int) := hB 0 0 29
  generalize hQe : MQ below _ _ s _ _ A = Q
  refine lv_bipush (v := 24) hx hb dX10_byDrought_0 (by decide) ?_
  refine lv_aload_n hx hb dX10_byDrought_2 rfl (lv_at hl 0 rfl) ?_
  refine gs_get (C := RX10) (T := TX10) (N := 59) hx hb hts inX10 hown hK hM 0 0 28 (by decide) rfl rfl (by decide) (hts _ gm_929) (fun _ h9 => h9) rfl dX10_byDrought_3 ?_
  have bf_1 : (0 : Int) ≤ (st 0 0 28).toInt ∧ (st 0 0 28).toInt ≤ (1 : Int) := hB_st.1 0 0 28
  refine lv_imul hx hb dX10_byDrought_6 ?_
  refine lv_topi (fun x_2 ex_2 => ?_)
  try have tx_2 : x_2.toInt = 24 * (st 0 0 28).toInt := by rw [ex_2]; exact gz_mulI (x := 24) (y := (st 0 0 28).toInt) (by decide) rfl (by omega) (by omega)
  refine lv_istore_n (lv' := [(3, .int x_2), (0, .ref (ad 0 0)), (1, .int x), (2, .int y)]) hx hb dX10_byDrought_7 rfl hl (by decide) rfl (fun ls hl => ?_)
  have lp3 : ∀ (n3 : Nat)  (y3_0 : Int32) (H : Heap) (locs : List Loc) (ls : Array Slot), (48 - y3_0.toInt).toNat < n3 →  (24 * (bk : Int) ≤ y3_0.toInt) → (noD st Xx Xy (24 * bk) y3_0.toInt) → gM G (shM cy ad) cnM ad st H → va_S A s.heap H locs → lv_has ls 4 [(3, .int y3_0), (0, .ref (ad 0 0)), (1, .int x), (2, .int y)] → W p l e ({ frames := 0, cells := 0, slots := 0, locals := 0 } : Room) s m [.ref (ad 0 0), .int x, .int y].toArray below meth c H locs 0 0 Q (F0 m 8 ls []) := by
    intro n3
    induction n3 with
    | zero => intro  y3_0 H locs ls h9; exact absurd h9 (Nat.not_lt_zero _)
    | succ n3 ih_3 =>
      intro  y3_0 H locs ls hme3  hv3_0 hv3_1 hM hS hl
      refine lv_iload_n hx hb dX10_byDrought_8 rfl (lv_at hl 0 rfl) ?_
      refine lv_bipush (v := 24) hx hb dX10_byDrought_9 (by decide) ?_
      refine lv_aload_n hx hb dX10_byDrought_11 rfl (lv_at hl 1 rfl) ?_
      refine gs_get (C := RX10) (T := TX10) (N := 59) hx hb hts inX10 hown hK hM 0 0 28 (by decide) rfl rfl (by decide) (hts _ gm_929) (fun _ h9 => h9) rfl dX10_byDrought_12 ?_
      have bf_4 : (0 : Int) ≤ (st 0 0 28).toInt ∧ (st 0 0 28).toInt ≤ (1 : Int) := hB_st.1 0 0 28
      refine lv_imul hx hb dX10_byDrought_15 ?_
      refine lv_topi (fun x_5 ex_5 => ?_)
      try have tx_5 : x_5.toInt = 24 * (st 0 0 28).toInt := by rw [ex_5]; exact gz_mulI (x := 24) (y := (st 0 0 28).toInt) (by decide) rfl (by omega) (by omega)
      refine lv_aload_n hx hb dX10_byDrought_16 rfl (lv_at hl 1 rfl) ?_
      refine gs_get (C := RX10) (T := TX10) (N := 59) hx hb hts inX10 hown hK hM 0 0 29 (by decide) rfl rfl (by decide) (hts _ gm_930) (fun _ h9 => h9) rfl dX10_byDrought_17 ?_
      have bf_6 : (0 : Int) ≤ (st 0 0 29).toInt ∧ (st 0 0 29).toInt ≤ (20 : Int) := hB_st.1 0 0 29
      refine lv_iadd hx hb dX10_byDrought_20 ?_
      refine lv_topi (fun x_7 ex_7 => ?_)
      try have tx_7 : x_7.toInt = x_5.toInt + (st 0 0 29).toInt := by rw [ex_7]; exact gz_addI (x := x_5.toInt) (y := (st 0 0 29).toInt) rfl rfl (by omega) (by omega)
      refine lv_icmp_ge (tgt := 67) hx hb dX10_byDrought_21 (by decide) (fun c_8 => ?_) (fun c_8 => ?_)
      · have ic_8 := gz_le (rfl : x_7.toInt = x_7.toInt) (rfl : y3_0.toInt = y3_0.toInt) c_8
        refine lv_iconst (v := (-1)) hx hb dX10_byDrought_67 (by decide) ?_
        rw [← hQe]
        exact gs_iret hx hb hr hlocks hM hS rfl ⟨hB_st, ((show ((-1 : Int32)).toInt = -1 from by decide).trans (LM.dry0 hLM hv3_1 (by omega)).symm)⟩ (by exact Nat.le_refl _) (by exact Nat.le_refl _) dX10_byDrought_68
      · have ic_8 := gz_nle (rfl : x_7.toInt = x_7.toInt) (rfl : y3_0.toInt = y3_0.toInt) c_8
        have lc_8 := gi_hi x_7
        refine lv_aload_n hx hb dX10_byDrought_24 rfl (lv_at hl 1 rfl) ?_
        refine gs_get (C := RX10) (T := TX10) (N := 59) hx hb hts inX10 hown hK hM 0 0 20 (by decide) rfl rfl (by decide) (hts _ gm_921) (fun _ h9 => h9) rfl dX10_byDrought_25 ?_
        refine lv_iload_n hx hb dX10_byDrought_28 rfl (lv_at hl 0 rfl) ?_
        refine gs_iald hx hb hK hM 8 0 (by decide) rfl (vp_in_iff.mpr ⟨by omega, by omega⟩) dX10_byDrought_29 ?_
        refine lv_topi (fun x_9 ex_9 => ?_)
        have qx_9 : x_9.toInt = (st 8 0 (y3_0.toNatClampNeg)).toInt := congrArg Int32.toInt ex_9
        refine lv_iconst (v := 3) hx hb dX10_byDrought_30 (by decide) ?_
        refine lv_icmp_ne (tgt := 61) hx hb dX10_byDrought_31 (by decide) (fun c_10 => ?_) (fun c_10 => ?_)
        · have ic_10 := gz_ne (rfl : x_9.toInt = x_9.toInt) (by decide : (3 : Int32).toInt = 3) c_10
          obtain ⟨x_11, ex_11⟩ : ∃ y : Int32, y = y3_0 + 1 := ⟨_, rfl⟩
          try have tx_11 : x_11.toInt = y3_0.toInt + 1 := by rw [ex_11]; exact gz_addP (x := y3_0.toInt) (y := 1) rfl (by decide) (by omega) (by omega)
          refine lv_iinc (v := (x_11)) (lv' := [(3, .int x_11), (0, .ref (ad 0 0)), (1, .int x), (2, .int y)]) hx hb dX10_byDrought_61 hl (k := 0) rfl (by rw [ex_11]; rfl) (by decide) rfl (fun ls hl => ?_)
          refine lv_goto (tgt := 8) hx hb dX10_byDrought_64 (by decide) ?_
          exact ih_3  (x_11 : Int32) H _ ls (by omega)  (by omega) (noD.step hv3_1 (by omega) (by omega) (by omega)) hM hS (lv_sub hl [0, 1, 2, 3] rfl)
        · have ic_10 := gz_eqn (rfl : x_9.toInt = x_9.toInt) (by decide : (3 : Int32).toInt = 3) c_10
          refine lv_aload_n hx hb dX10_byDrought_34 rfl (lv_at hl 1 rfl) ?_
          refine gs_get (C := RX10) (T := TX10) (N := 59) hx hb hts inX10 hown hK hM 0 0 21 (by decide) rfl rfl (by decide) (hts _ gm_922) (fun _ h9 => h9) rfl dX10_byDrought_35 ?_
          refine lv_iload_n hx hb dX10_byDrought_38 rfl (lv_at hl 0 rfl) ?_
          refine gs_iald hx hb hK hM 9 0 (by decide) rfl (vp_in_iff.mpr ⟨by omega, by omega⟩) dX10_byDrought_39 ?_
          refine lv_topi (fun x_12 ex_12 => ?_)
          have qx_12 : x_12.toInt = (st 9 0 (y3_0.toNatClampNeg)).toInt := congrArg Int32.toInt ex_12
          have bx_12 : (0 : Int) ≤ x_12.toInt ∧ x_12.toInt ≤ (5 : Int) := by rw [qx_12]; exact hB_st.1 9 0 (y3_0.toNatClampNeg)
          refine lv_iload_n hx hb dX10_byDrought_40 rfl (lv_at hl 2 rfl) ?_
          refine lv_icmp_ne (tgt := 61) hx hb dX10_byDrought_41 (by decide) (fun c_13 => ?_) (fun c_13 => ?_)
          · have ic_13 := gz_ne (rfl : x_12.toInt = x_12.toInt) (rfl : x.toInt = x.toInt) c_13
            obtain ⟨x_14, ex_14⟩ : ∃ y : Int32, y = y3_0 + 1 := ⟨_, rfl⟩
            try have tx_14 : x_14.toInt = y3_0.toInt + 1 := by rw [ex_14]; exact gz_addP (x := y3_0.toInt) (y := 1) rfl (by decide) (by omega) (by omega)
            refine lv_iinc (v := (x_14)) (lv' := [(3, .int x_14), (0, .ref (ad 0 0)), (1, .int x), (2, .int y)]) hx hb dX10_byDrought_61 hl (k := 0) rfl (by rw [ex_14]; rfl) (by decide) rfl (fun ls hl => ?_)
            refine lv_goto (tgt := 8) hx hb dX10_byDrought_64 (by decide) ?_
            exact ih_3  (x_14 : Int32) H _ ls (by omega)  (by omega) (noD.step hv3_1 (by omega) (by omega) (by omega)) hM hS (lv_sub hl [0, 1, 2, 3] rfl)
          · have ic_13 := gz_eqn (rfl : x_12.toInt = x_12.toInt) (rfl : x.toInt = x.toInt) c_13
            refine lv_iload_n hx hb dX10_byDrought_44 rfl (lv_at hl 3 rfl) ?_
            refine lv_aload_n hx hb dX10_byDrought_45 rfl (lv_at hl 1 rfl) ?_
            refine gs_get (C := RX10) (T := TX10) (N := 59) hx hb hts inX10 hown hK hM 0 0 24 (by decide) rfl rfl (by decide) (hts _ gm_925) (fun _ h9 => h9) rfl dX10_byDrought_46 ?_
            refine lv_iload_n hx hb dX10_byDrought_49 rfl (lv_at hl 0 rfl) ?_
            refine gs_iald hx hb hK hM 12 0 (by decide) rfl (vp_in_iff.mpr ⟨by omega, by omega⟩) dX10_byDrought_50 ?_
            refine lv_topi (fun x_15 ex_15 => ?_)
            have qx_15 : x_15.toInt = (st 12 0 (y3_0.toNatClampNeg)).toInt := congrArg Int32.toInt ex_15
            refine lv_icmp_ge (tgt := 61) hx hb dX10_byDrought_51 (by decide) (fun c_16 => ?_) (fun c_16 => ?_)
            · have ic_16 := gz_le (rfl : x_15.toInt = x_15.toInt) (rfl : y.toInt = y.toInt) c_16
              obtain ⟨x_17, ex_17⟩ : ∃ y : Int32, y = y3_0 + 1 := ⟨_, rfl⟩
              try have tx_17 : x_17.toInt = y3_0.toInt + 1 := by rw [ex_17]; exact gz_addP (x := y3_0.toInt) (y := 1) rfl (by decide) (by omega) (by omega)
              refine lv_iinc (v := (x_17)) (lv' := [(3, .int x_17), (0, .ref (ad 0 0)), (1, .int x), (2, .int y)]) hx hb dX10_byDrought_61 hl (k := 0) rfl (by rw [ex_17]; rfl) (by decide) rfl (fun ls hl => ?_)
              refine lv_goto (tgt := 8) hx hb dX10_byDrought_64 (by decide) ?_
              exact ih_3  (x_17 : Int32) H _ ls (by omega)  (by omega) (noD.step hv3_1 (by omega) (by omega) (by omega)) hM hS (lv_sub hl [0, 1, 2, 3] rfl)
            · have ic_16 := gz_nle (rfl : x_15.toInt = x_15.toInt) (rfl : y.toInt = y.toInt) c_16
              have lc_16 := gi_hi x_15
              refine lv_aload_n hx hb dX10_byDrought_54 rfl (lv_at hl 1 rfl) ?_
              refine gs_get (C := RX10) (T := TX10) (N := 59) hx hb hts inX10 hown hK hM 0 0 22 (by decide) rfl rfl (by decide) (hts _ gm_923) (fun _ h9 => h9) rfl dX10_byDrought_55 ?_
              refine lv_iload_n hx hb dX10_byDrought_58 rfl (lv_at hl 0 rfl) ?_
              refine gs_iald hx hb hK hM 10 0 (by decide) rfl (vp_in_iff.mpr ⟨by omega, by omega⟩) dX10_byDrought_59 ?_
              refine lv_topi (fun x_18 ex_18 => ?_)
              have qx_18 : x_18.toInt = (st 10 0 (y3_0.toNatClampNeg)).toInt := congrArg Int32.toInt ex_18
              rw [← hQe]
              exact gs_iret hx hb hr hlocks hM hS rfl ⟨hB_st, (by rw [qx_18]; exact LM.dry1 hLM hv3_1 (by omega) (by omega) (by omega) (by omega) (by omega))⟩ (by exact Nat.le_refl _) (by exact Nat.le_refl _) dX10_byDrought_60
  exact lp3 ((48 - (x_2 : Int32).toInt).toNat + 1)  (x_2 : Int32) H _ ls (Nat.lt_succ_self _)  (by omega) (noD.nil (by omega)) hM hS (lv_sub hl [0, 1, 2, 3] rfl)
