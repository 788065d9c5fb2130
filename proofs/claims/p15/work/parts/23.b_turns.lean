theorem gm_921 : (Jvm.Cond.fieldLink "WellCourtModel" (37 : Nat) "WellCourtModel" "sort" "[I") ∈ gz_T := gz_at 921 (by decide +kernel) rfl
theorem gm_926 : (Jvm.Cond.fieldLink "WellCourtModel" (52 : Nat) "WellCourtModel" "turnMany" "[I") ∈ gz_T := gz_at 926 (by decide +kernel) rfl
theorem gm_927 : (Jvm.Cond.fieldLink "WellCourtModel" (55 : Nat) "WellCourtModel" "turnClan" "[I") ∈ gz_T := gz_at 927 (by decide +kernel) rfl
theorem gm_928 : (Jvm.Cond.fieldLink "WellCourtModel" (58 : Nat) "WellCourtModel" "turnDays" "[I") ∈ gz_T := gz_at 928 (by decide +kernel) rfl
theorem gm_929 : (Jvm.Cond.fieldLink "WellCourtModel" (201 : Nat) "WellCourtModel" "bank" "I") ∈ gz_T := gz_at 929 (by decide +kernel) rfl
theorem gm_1143 : (Jvm.Cond.methodLink "WellCourtModel" (248 : Nat) ({ cls := "WellCourtModel", name := "must", desc := "(I)Z" } : Jvm.MethodName)) ∈ gz_T := gz_at 1143 (by decide +kernel) rfl
theorem gm_1145 : (Jvm.Cond.instanceMethod ({ cls := "WellCourtModel", name := "must", desc := "(I)Z" } : Jvm.MethodName)) ∈ gz_T := gz_at 1145 (by decide +kernel) rfl
theorem gm_1146 : (Jvm.Cond.code ({ cls := "WellCourtModel", name := "must", desc := "(I)Z" } : Jvm.MethodName) prog_12_method_14_code (2 : Nat) (Option.some Jvm.ClassFile.FieldType.boolean)) ∈ gz_T := gz_at 1146 (by decide +kernel) rfl
theorem gs_40 : (Jvm.Cond.selects "WellCourtModel" ({ cls := "WellCourtModel", name := "must", desc := "(I)Z" } : Jvm.MethodName) ({ cls := "WellCourtModel", name := "must", desc := "(I)Z" } : Jvm.MethodName)) ∈ gz_T := gz_sel 40 (by decide +kernel) rfl
theorem dX10_turns_0 : decode cX10_turns 0 = .ok (.aload_n 0, 1) := by decide +kernel
theorem dX10_turns_1 : decode cX10_turns 1 = .ok (.iconst 0, 1) := by decide +kernel
theorem dX10_turns_2 : decode cX10_turns 2 = .ok (.iconst 5, 1) := by decide +kernel
theorem dX10_turns_3 : decode cX10_turns 3 = .ok (.invokevirtual 251, 3) := by decide +kernel
theorem dX10_turns_6 : decode cX10_turns 6 = .ok (.ifCond .ne 5, 3) := by decide +kernel
theorem dX10_turns_9 : decode cX10_turns 9 = .ok (.iconst 0, 1) := by decide +kernel
theorem dX10_turns_10 : decode cX10_turns 10 = .ok (.ireturn, 1) := by decide +kernel
theorem dX10_turns_11 : decode cX10_turns 11 = .ok (.bipush 24, 2) := by decide +kernel
theorem dX10_turns_13 : decode cX10_turns 13 = .ok (.aload_n 0, 1) := by decide +kernel
theorem dX10_turns_14 : decode cX10_turns 14 = .ok (.getfield 201, 3) := by decide +kernel
theorem dX10_turns_17 : decode cX10_turns 17 = .ok (.imul, 1) := by decide +kernel
theorem dX10_turns_18 : decode cX10_turns 18 = .ok (.istore_n 2, 1) := by decide +kernel
theorem dX10_turns_19 : decode cX10_turns 19 = .ok (.iload_n 2, 1) := by decide +kernel
theorem dX10_turns_20 : decode cX10_turns 20 = .ok (.iload_n 1, 1) := by decide +kernel
theorem dX10_turns_21 : decode cX10_turns 21 = .ok (.if_icmp .ge 41, 3) := by decide +kernel
theorem dX10_turns_24 : decode cX10_turns 24 = .ok (.aload_n 0, 1) := by decide +kernel
theorem dX10_turns_25 : decode cX10_turns 25 = .ok (.getfield 37, 3) := by decide +kernel
theorem dX10_turns_28 : decode cX10_turns 28 = .ok (.iload_n 2, 1) := by decide +kernel
theorem dX10_turns_29 : decode cX10_turns 29 = .ok (.iaload, 1) := by decide +kernel
theorem dX10_turns_30 : decode cX10_turns 30 = .ok (.ifCond .ne 26, 3) := by decide +kernel
theorem dX10_turns_33 : decode cX10_turns 33 = .ok (.aload_n 0, 1) := by decide +kernel
theorem dX10_turns_34 : decode cX10_turns 34 = .ok (.getfield 40, 3) := by decide +kernel
theorem dX10_turns_37 : decode cX10_turns 37 = .ok (.iload_n 2, 1) := by decide +kernel
theorem dX10_turns_38 : decode cX10_turns 38 = .ok (.iaload, 1) := by decide +kernel
theorem dX10_turns_39 : decode cX10_turns 39 = .ok (.aload_n 0, 1) := by decide +kernel
theorem dX10_turns_40 : decode cX10_turns 40 = .ok (.getfield 191, 3) := by decide +kernel
theorem dX10_turns_43 : decode cX10_turns 43 = .ok (.if_icmp .ne 13, 3) := by decide +kernel
theorem dX10_turns_46 : decode cX10_turns 46 = .ok (.aload_n 0, 1) := by decide +kernel
theorem dX10_turns_47 : decode cX10_turns 47 = .ok (.iconst 3, 1) := by decide +kernel
theorem dX10_turns_48 : decode cX10_turns 48 = .ok (.aload_n 0, 1) := by decide +kernel
theorem dX10_turns_49 : decode cX10_turns 49 = .ok (.getfield 194, 3) := by decide +kernel
theorem dX10_turns_52 : decode cX10_turns 52 = .ok (.invokevirtual 176, 3) := by decide +kernel
theorem dX10_turns_55 : decode cX10_turns 55 = .ok (.ireturn, 1) := by decide +kernel
theorem dX10_turns_56 : decode cX10_turns 56 = .ok (.iinc 2 1, 3) := by decide +kernel
theorem dX10_turns_59 : decode cX10_turns 59 = .ok (.goto (-40), 3) := by decide +kernel
theorem dX10_turns_62 : decode cX10_turns 62 = .ok (.aload_n 0, 1) := by decide +kernel
theorem dX10_turns_63 : decode cX10_turns 63 = .ok (.getfield 40, 3) := by decide +kernel
theorem dX10_turns_66 : decode cX10_turns 66 = .ok (.iload_n 1, 1) := by decide +kernel
theorem dX10_turns_67 : decode cX10_turns 67 = .ok (.aload_n 0, 1) := by decide +kernel
theorem dX10_turns_68 : decode cX10_turns 68 = .ok (.getfield 191, 3) := by decide +kernel
theorem dX10_turns_71 : decode cX10_turns 71 = .ok (.iastore, 1) := by decide +kernel
theorem dX10_turns_72 : decode cX10_turns 72 = .ok (.aload_n 0, 1) := by decide +kernel
theorem dX10_turns_73 : decode cX10_turns 73 = .ok (.bipush 58, 2) := by decide +kernel
theorem dX10_turns_75 : decode cX10_turns 75 = .ok (.invokevirtual 248, 3) := by decide +kernel
theorem dX10_turns_78 : decode cX10_turns 78 = .ok (.ifCond .ne 5, 3) := by decide +kernel
theorem dX10_turns_81 : decode cX10_turns 81 = .ok (.iconst 0, 1) := by decide +kernel
theorem dX10_turns_82 : decode cX10_turns 82 = .ok (.ireturn, 1) := by decide +kernel
theorem dX10_turns_83 : decode cX10_turns 83 = .ok (.iconst 0, 1) := by decide +kernel
theorem dX10_turns_84 : decode cX10_turns 84 = .ok (.istore_n 2, 1) := by decide +kernel
theorem dX10_turns_85 : decode cX10_turns 85 = .ok (.iconst 1, 1) := by decide +kernel
theorem dX10_turns_86 : decode cX10_turns 86 = .ok (.istore_n 3, 1) := by decide +kernel
theorem dX10_turns_87 : decode cX10_turns 87 = .ok (.iload_n 3, 1) := by decide +kernel
theorem dX10_turns_88 : decode cX10_turns 88 = .ok (.ifCond .eq 118, 3) := by decide +kernel
theorem dX10_turns_91 : decode cX10_turns 91 = .ok (.aload_n 0, 1) := by decide +kernel
theorem dX10_turns_92 : decode cX10_turns 92 = .ok (.getfield 150, 3) := by decide +kernel
theorem dX10_turns_95 : decode cX10_turns 95 = .ok (.istore 4, 2) := by decide +kernel
theorem dX10_turns_97 : decode cX10_turns 97 = .ok (.aload_n 0, 1) := by decide +kernel
theorem dX10_turns_98 : decode cX10_turns 98 = .ok (.invokevirtual 254, 3) := by decide +kernel
theorem dX10_turns_101 : decode cX10_turns 101 = .ok (.ifCond .ne 5, 3) := by decide +kernel
theorem dX10_turns_104 : decode cX10_turns 104 = .ok (.iconst 0, 1) := by decide +kernel
theorem dX10_turns_105 : decode cX10_turns 105 = .ok (.ireturn, 1) := by decide +kernel
theorem dX10_turns_106 : decode cX10_turns 106 = .ok (.iload_n 2, 1) := by decide +kernel
theorem dX10_turns_107 : decode cX10_turns 107 = .ok (.bipush 8, 2) := by decide +kernel
theorem dX10_turns_109 : decode cX10_turns 109 = .ok (.if_icmp .ne 11, 3) := by decide +kernel
theorem dX10_turns_112 : decode cX10_turns 112 = .ok (.aload_n 0, 1) := by decide +kernel
theorem dX10_turns_113 : decode cX10_turns 113 = .ok (.iconst 4, 1) := by decide +kernel
theorem dX10_turns_114 : decode cX10_turns 114 = .ok (.iload 4, 2) := by decide +kernel
theorem dX10_turns_116 : decode cX10_turns 116 = .ok (.invokevirtual 176, 3) := by decide +kernel
theorem dX10_turns_119 : decode cX10_turns 119 = .ok (.ireturn, 1) := by decide +kernel
theorem dX10_turns_120 : decode cX10_turns 120 = .ok (.aload_n 0, 1) := by decide +kernel
theorem dX10_turns_121 : decode cX10_turns 121 = .ok (.getfield 55, 3) := by decide +kernel
theorem dX10_turns_124 : decode cX10_turns 124 = .ok (.bipush 8, 2) := by decide +kernel
theorem dX10_turns_126 : decode cX10_turns 126 = .ok (.iload_n 1, 1) := by decide +kernel
theorem dX10_turns_127 : decode cX10_turns 127 = .ok (.imul, 1) := by decide +kernel
theorem dX10_turns_128 : decode cX10_turns 128 = .ok (.iload_n 2, 1) := by decide +kernel
theorem dX10_turns_129 : decode cX10_turns 129 = .ok (.iadd, 1) := by decide +kernel
theorem dX10_turns_130 : decode cX10_turns 130 = .ok (.aload_n 0, 1) := by decide +kernel
theorem dX10_turns_131 : decode cX10_turns 131 = .ok (.getfield 191, 3) := by decide +kernel
theorem dX10_turns_134 : decode cX10_turns 134 = .ok (.iastore, 1) := by decide +kernel
theorem dX10_turns_135 : decode cX10_turns 135 = .ok (.aload_n 0, 1) := by decide +kernel
theorem dX10_turns_136 : decode cX10_turns 136 = .ok (.iconst 1, 1) := by decide +kernel
theorem dX10_turns_137 : decode cX10_turns 137 = .ok (.bipush 9, 2) := by decide +kernel
theorem dX10_turns_139 : decode cX10_turns 139 = .ok (.invokevirtual 251, 3) := by decide +kernel
theorem dX10_turns_142 : decode cX10_turns 142 = .ok (.ifCond .ne 5, 3) := by decide +kernel
theorem dX10_turns_145 : decode cX10_turns 145 = .ok (.iconst 0, 1) := by decide +kernel
theorem dX10_turns_146 : decode cX10_turns 146 = .ok (.ireturn, 1) := by decide +kernel
theorem dX10_turns_147 : decode cX10_turns 147 = .ok (.aload_n 0, 1) := by decide +kernel
theorem dX10_turns_148 : decode cX10_turns 148 = .ok (.getfield 58, 3) := by decide +kernel
theorem dX10_turns_151 : decode cX10_turns 151 = .ok (.bipush 8, 2) := by decide +kernel
theorem dX10_turns_153 : decode cX10_turns 153 = .ok (.iload_n 1, 1) := by decide +kernel
theorem dX10_turns_154 : decode cX10_turns 154 = .ok (.imul, 1) := by decide +kernel
theorem dX10_turns_155 : decode cX10_turns 155 = .ok (.iload_n 2, 1) := by decide +kernel
theorem dX10_turns_156 : decode cX10_turns 156 = .ok (.iadd, 1) := by decide +kernel
theorem dX10_turns_157 : decode cX10_turns 157 = .ok (.aload_n 0, 1) := by decide +kernel
theorem dX10_turns_158 : decode cX10_turns 158 = .ok (.getfield 191, 3) := by decide +kernel
theorem dX10_turns_161 : decode cX10_turns 161 = .ok (.iastore, 1) := by decide +kernel
theorem dX10_turns_162 : decode cX10_turns 162 = .ok (.iinc 2 1, 3) := by decide +kernel
theorem dX10_turns_165 : decode cX10_turns 165 = .ok (.aload_n 0, 1) := by decide +kernel
theorem dX10_turns_166 : decode cX10_turns 166 = .ok (.getfield 52, 3) := by decide +kernel
theorem dX10_turns_169 : decode cX10_turns 169 = .ok (.iload_n 1, 1) := by decide +kernel
theorem dX10_turns_170 : decode cX10_turns 170 = .ok (.iload_n 2, 1) := by decide +kernel
theorem dX10_turns_171 : decode cX10_turns 171 = .ok (.iastore, 1) := by decide +kernel
theorem dX10_turns_172 : decode cX10_turns 172 = .ok (.aload_n 0, 1) := by decide +kernel
theorem dX10_turns_173 : decode cX10_turns 173 = .ok (.getfield 153, 3) := by decide +kernel
theorem dX10_turns_176 : decode cX10_turns 176 = .ok (.iconst 3, 1) := by decide +kernel
theorem dX10_turns_177 : decode cX10_turns 177 = .ok (.if_icmp .ne 16, 3) := by decide +kernel
theorem dX10_turns_180 : decode cX10_turns 180 = .ok (.aload_n 0, 1) := by decide +kernel
theorem dX10_turns_181 : decode cX10_turns 181 = .ok (.getfield 167, 3) := by decide +kernel
theorem dX10_turns_184 : decode cX10_turns 184 = .ok (.bipush 44, 2) := by decide +kernel
theorem dX10_turns_186 : decode cX10_turns 186 = .ok (.if_icmp .ne 7, 3) := by decide +kernel
theorem dX10_turns_189 : decode cX10_turns 189 = .ok (.iconst 1, 1) := by decide +kernel
theorem dX10_turns_190 : decode cX10_turns 190 = .ok (.goto 4, 3) := by decide +kernel
theorem dX10_turns_193 : decode cX10_turns 193 = .ok (.iconst 0, 1) := by decide +kernel
theorem dX10_turns_194 : decode cX10_turns 194 = .ok (.istore_n 3, 1) := by decide +kernel
theorem dX10_turns_195 : decode cX10_turns 195 = .ok (.iload_n 3, 1) := by decide +kernel
theorem dX10_turns_196 : decode cX10_turns 196 = .ok (.ifCond .eq 7, 3) := by decide +kernel
theorem dX10_turns_199 : decode cX10_turns 199 = .ok (.aload_n 0, 1) := by decide +kernel
theorem dX10_turns_200 : decode cX10_turns 200 = .ok (.invokevirtual 184, 3) := by decide +kernel
theorem dX10_turns_203 : decode cX10_turns 203 = .ok (.goto (-116), 3) := by decide +kernel
theorem dX10_turns_206 : decode cX10_turns 206 = .ok (.iconst 1, 1) := by decide +kernel
theorem dX10_turns_207 : decode cX10_turns 207 = .ok (.ireturn, 1) := by decide +kernel
set_option maxHeartbeats 4000000 in
set_option maxRecDepth 100000 in
/-- WellCourtModel.turns -/
theorem m_turns (l : Launch) (G : va_G) (cy : Nat → ClassId) (sK sV : Nat → Nat) (ad : Nat → Nat → Nat) (sz : Nat) (st : gS) (hB : gBd bM st) (x : Int32) (Xx : Int) (kx : x.toInt = Xx) (hx0 : 0 ≤ Xx) (hx1 : Xx ≤ 43) (F : Nat → Int32) (N : Int) (hF : st 7 0 = F) (hN : (st 0 0 10).toInt = N) (P : Int) (hC : mCur F N P st) (rs : List Rl) (bk : Nat) (hbk : (st 0 0 28).toInt = (bk : Int)) (hxk : Xx = 24 * (bk : Int) + (rs.length : Int)) (hLM : LM rs st bk) (hwf : ∀ r ∈ rs, wfR r) : gsMi l yX10_turns cX10_turns 5 (some .boolean) ({ frames := 3, cells := 0, slots := 0, locals := 66 } : Room) G cy sK sV (shM cy ad) cnM ad sz [.ref (ad 0 0), .int x] st (fun (r : Int32) (u : gS) => gBN bM kM [11, 12, 13, 14, 15, 16, 17, 18, 19, 59, 900, 1300, 1400, 1500] st u ∧ ((r = 1 ∧ (∃ (r9 : Rl) (e9 : Int), pTurnsB F N (mLex F N) rs P = some (r9, e9) ∧ mCur F N e9 u ∧ r9.1 = 0 ∧ wfR r9 ∧ LMb r9 u x.toNatClampNeg) ∧ (mO x.toNatClampNeg st u)) ∨ (r = 0 ∧ (pTurnsB F N (mLex F N) rs P = none) ∧ (mO x.toNatClampNeg st u)))) := by
  refine gs_start (fun A => gsQi G (shM cy ad) cnM ad _ A) (by decide) (Nat.le_of_ble_eq_true rfl) ?_
  intro p e s m below meth c A ls H hx hb hr hml hlocks hown hts hK hov hE hI hM hm hS hA hl
  have hl : lv_has ls 5 [(0, .ref (ad 0 0)), (1, .int x)] := hl
  have hB_st : gBN bM kM [11, 12, 13, 14, 15, 16, 17, 18, 19, 59, 900, 1300, 1400, 1500] st st := gBN.rf hB
  generalize hQe : MQ below _ _ s _ _ A = Q
  refine lv_aload_n hx hb dX10_turns_0 rfl (lv_at hl 0 rfl) ?_
  refine lv_iconst (v := 0) hx hb dX10_turns_1 (by decide) ?_
  refine lv_iconst (v := 5) hx hb dX10_turns_2 (by decide) ?_
  refine gs_calli (va_runV (As := [.int 0, .int 5]) (rest := []) ⟨hx, hb, hml, hown, hts⟩ (m_readNumber l G cy sK sV ad H.size st hB_st.1 (0 : Int32) (5 : Int32) 0 5 (by decide) (by decide) F N hF hN P hC) ⟨(gz_cb (n := 2) hts gm_1139 gm_12 gm_1142 ⟨by decide +kernel, by decide +kernel, by decide +kernel⟩ ⟨Nat.le_of_ble_eq_true rfl, Nat.le_of_ble_eq_true rfl⟩), hts _ gm_1141, hts _ gs_39⟩ (gs_preV hK hov hE hI hM hm hS hA 0 0 (by decide) rfl rfl) rfl rfl hl.1 rfl (lv_room (Nat.le_of_ble_eq_true rfl)) dX10_turns_3 ⟨Nat.le_of_ble_eq_true rfl, Nat.le_of_ble_eq_true rfl⟩) hm hS hA (fun r_1 st_1 H locs hw_1 hM hS => ?_)
  obtain ⟨n_1, hw_1⟩ := hw_1
  have hB_st_1 : gBN bM kM [11, 12, 13, 14, 15, 16, 17, 18, 19, 59, 900, 1300, 1400, 1500] st st_1 := hB_st.call n_1 (by decide)
  rcases hw_1 with ⟨rfl, hw_1_0, hw_1_1, hw_1_2⟩ | ⟨rfl, hw_1_0⟩
  · skip
    obtain ⟨e9_hw_1_0, hw_1_0_p0, hw_1_0_p1⟩ := hw_1_0
    refine lv_if_ne (tgt := 11) hx hb dX10_turns_6 (by decide) (fun _ => ?_) (fun h9 => absurd h9 (by decide))
    refine lv_bipush (v := 24) hx hb dX10_turns_11 (by decide) ?_
    refine lv_aload_n hx hb dX10_turns_13 rfl (lv_at hl 0 rfl) ?_
    refine gs_get (C := RX10) (T := TX10) (N := 59) hx hb hts inX10 hown hK hM 0 0 28 (by decide) rfl rfl (by decide) (hts _ gm_929) (fun _ h9 => h9) rfl dX10_turns_14 ?_
    refine lv_topi (fun x_2 ex_2 => ?_)
    have ex_2 : (st 0 0 28) = x_2 := Eq.symm (ex_2.trans (n_1.2 0 0 28 (show (28 : Nat) ∉ _ from by decide)))
    subst ex_2
    have bf_3 : (0 : Int) ≤ (st 0 0 28).toInt ∧ (st 0 0 28).toInt ≤ (1 : Int) := hB_st.1 0 0 28
    refine lv_imul hx hb dX10_turns_17 ?_
    refine lv_topi (fun x_4 ex_4 => ?_)
    try have tx_4 : x_4.toInt = 24 * (st 0 0 28).toInt := by rw [ex_4]; exact gz_mulI (x := 24) (y := (st 0 0 28).toInt) (by decide) rfl (by omega) (by omega)
    refine lv_istore_n (lv' := [(2, .int x_4), (0, .ref (ad 0 0)), (1, .int x)]) hx hb dX10_turns_18 rfl hl (by decide) rfl (fun ls hl => ?_)
    have lp5 : ∀ (n5 : Nat)  (y5_0 : Int32) (H : Heap) (locs : List Loc) (ls : Array Slot), (Xx - y5_0.toInt).toNat < n5 →  (24 * (bk : Int) ≤ y5_0.toInt) → (noT st_1 (st_1 0 0 18).toInt (24 * bk) y5_0.toInt) → gM G (shM cy ad) cnM ad st_1 H → va_S A s.heap H locs → lv_has ls 5 [(2, .int y5_0), (0, .ref (ad 0 0)), (1, .int x)] → W p l e ({ frames := 3, cells := 0, slots := 0, locals := 66 } : Room) s m [.ref (ad 0 0), .int x].toArray below meth c H locs 0 0 Q (F0 m 19 ls []) := by
      intro n5
      induction n5 with
      | zero => intro  y5_0 H locs ls h9; exact absurd h9 (Nat.not_lt_zero _)
      | succ n5 ih_5 =>
        intro  y5_0 H locs ls hme5  hv5_0 hv5_1 hM hS hl
        refine lv_iload_n hx hb dX10_turns_19 rfl (lv_at hl 0 rfl) ?_
        refine lv_iload_n hx hb dX10_turns_20 rfl (lv_at hl 2 rfl) ?_
        refine lv_icmp_ge (tgt := 62) hx hb dX10_turns_21 (by decide) (fun c_6 => ?_) (fun c_6 => ?_)
        · have ic_6 := gz_le (rfl : x.toInt = x.toInt) (rfl : y5_0.toInt = y5_0.toInt) c_6
          refine lv_aload_n hx hb dX10_turns_62 rfl (lv_at hl 1 rfl) ?_
          refine gs_get (C := RX10) (T := TX10) (N := 59) hx hb hts inX10 hown hK hM 0 0 21 (by decide) rfl rfl (by decide) (hts _ gm_922) (fun _ h9 => h9) rfl dX10_turns_63 ?_
          refine lv_iload_n hx hb dX10_turns_66 rfl (lv_at hl 2 rfl) ?_
          refine lv_aload_n hx hb dX10_turns_67 rfl (lv_at hl 1 rfl) ?_
          refine gs_get (C := RX10) (T := TX10) (N := 59) hx hb hts inX10 hown hK hM 0 0 18 (by decide) rfl rfl (by decide) (hts _ gm_919) (fun _ h9 => h9) rfl dX10_turns_68 ?_
          refine gs_iast hx hb hK hI hm hM hS 9 0 (by decide) (fun _ => rfl) (vp_in_iff.mpr ⟨by omega, by omega⟩) dX10_turns_71 (fun st_8 H locs est_8 hM hS => ?_)
          have hB_st_8 : gBN bM kM [11, 12, 13, 14, 15, 16, 17, 18, 19, 59, 900, 1300, 1400, 1500] st st_8 := by rw [est_8]; exact hB_st_1.up (show (900 : Nat) ∈ _ from by decide) (show (0 : Int) ≤ (st_1 0 0 18).toInt from by omega) (show (st_1 0 0 18).toInt ≤ (5 : Int) from by omega)
          refine lv_aload_n hx hb dX10_turns_72 rfl (lv_at hl 1 rfl) ?_
          refine lv_bipush (v := 58) hx hb dX10_turns_73 (by decide) ?_
          refine gs_calli (va_runV (As := [.int 58]) (rest := []) ⟨hx, hb, hml, hown, hts⟩ (m_must l G cy sK sV ad H.size st_8 hB_st_8.1 (58 : Int32) 58 (by decide) F N (((congrFun (congrFun est_8 7) 0).trans ((congrFun (gU_k (by decide)) 0).trans ((funext (fun j9 => n_1.2 7 0 j9 (show (700 : Nat) ∉ _ from by decide))).trans rfl))).trans hF) ((congrArg Int32.toInt ((((congrFun (congrFun (congrFun est_8 0) 0) 10).trans (congrFun (congrFun (gU_k (by decide)) 0) 10)).trans (n_1.2 0 0 10 (show (10 : Nat) ∉ _ from by decide))))).trans hN) e9_hw_1_0 (hw_1_0_p1.rows ((congrFun (congrFun (congrFun est_8 0) 0) 11).trans (congrFun (congrFun (gU_k (by decide)) 0) 11)) ((congrFun (congrFun (congrFun est_8 0) 0) 12).trans (congrFun (congrFun (gU_k (by decide)) 0) 12)) ((congrFun (congrFun (congrFun est_8 0) 0) 14).trans (congrFun (congrFun (gU_k (by decide)) 0) 14)) ((congrFun (congrFun (congrFun est_8 0) 0) 17).trans (congrFun (congrFun (gU_k (by decide)) 0) 17)) ((congrFun (congrFun (congrFun est_8 0) 0) 59).trans (congrFun (congrFun (gU_k (by decide)) 0) 59)))) ⟨(gz_cb (n := 1) hts gm_1143 gm_12 gm_1146 ⟨by decide +kernel, by decide +kernel, by decide +kernel⟩ ⟨Nat.le_of_ble_eq_true rfl, Nat.le_of_ble_eq_true rfl⟩), hts _ gm_1145, hts _ gs_40⟩ (gs_preV hK hov hE hI hM hm hS hA 0 0 (by decide) rfl rfl) rfl rfl hl.1 rfl (lv_room (Nat.le_of_ble_eq_true rfl)) dX10_turns_75 ⟨Nat.le_of_ble_eq_true rfl, Nat.le_of_ble_eq_true rfl⟩) hm hS hA (fun r_9 st_9 H locs hw_9 hM hS => ?_)
          obtain ⟨n_9, hw_9⟩ := hw_9
          have hB_st_9 : gBN bM kM [11, 12, 13, 14, 15, 16, 17, 18, 19, 59, 900, 1300, 1400, 1500] st st_9 := hB_st_8.call n_9 (by decide)
          rcases hw_9 with ⟨rfl, hw_9_0⟩ | ⟨rfl, hw_9_0⟩
          · skip
            obtain ⟨e9_hw_9_0, hw_9_0_p0, hw_9_0_p1⟩ := hw_9_0
            refine lv_if_ne (tgt := 83) hx hb dX10_turns_78 (by decide) (fun _ => ?_) (fun h9 => absurd h9 (by decide))
            refine lv_iconst (v := 0) hx hb dX10_turns_83 (by decide) ?_
            refine lv_istore_n (lv' := [(2, .int 0), (0, .ref (ad 0 0)), (1, .int x)]) hx hb dX10_turns_84 rfl hl (by decide) rfl (fun ls hl => ?_)
            refine lv_iconst (v := 1) hx hb dX10_turns_85 (by decide) ?_
            refine lv_istore_n (lv' := [(3, .int 1), (2, .int 0), (0, .ref (ad 0 0)), (1, .int x)]) hx hb dX10_turns_86 rfl hl (by decide) rfl (fun ls hl => ?_)
            have lp10 : ∀ (n10 : Nat) (sv10 : gS) (y10_0 : Int32) (y10_1 : Int32) (H : Heap) (locs : List Loc) (ls : Array Slot), (9 - y10_0.toInt).toNat + y10_1.toInt.toNat < n10 → gBN bM kM [11, 12, 13, 14, 15, 16, 17, 18, 19, 59, 900, 1300, 1400, 1500] st sv10 → (0 ≤ y10_0.toInt) → (y10_0.toInt ≤ 8) → (mO x.toNatClampNeg st sv10) → ((sv10 9 0 x.toNatClampNeg).toInt = (st_1 0 0 18).toInt) → (y10_1.toInt = 0 ∨ y10_1.toInt = 1) → (shI F N e9_hw_9_0 x.toNatClampNeg y10_0.toInt y10_1.toInt sv10) → gM G (shM cy ad) cnM ad sv10 H → va_S A s.heap H locs → lv_has ls 5 [(3, .int y10_1), (2, .int y10_0), (0, .ref (ad 0 0)), (1, .int x)] → W p l e ({ frames := 3, cells := 0, slots := 0, locals := 66 } : Room) s m [.ref (ad 0 0), .int x].toArray below meth c H locs 0 0 Q (F0 m 87 ls []) := by
              intro n10
              induction n10 with
              | zero => intro sv10 y10_0 y10_1 H locs ls h9; exact absurd h9 (Nat.not_lt_zero _)
              | succ n10 ih_10 =>
                intro sv10 y10_0 y10_1 H locs ls hme10 hB_sv10 hv10_0 hv10_1 hv10_2 hv10_3 hv10_4 hv10_5 hM hS hl
                refine lv_iload_n hx hb dX10_turns_87 rfl (lv_at hl 0 rfl) ?_
                refine lv_if_eq (tgt := 206) hx hb dX10_turns_88 (by decide) (fun c_11 => ?_) (fun c_11 => ?_)
                · have ic_11 := gz_eq (rfl : y10_1.toInt = y10_1.toInt) (by decide : (0 : Int32).toInt = 0) c_11
                  obtain ⟨sh, p9, hC9, hs1, hs2, hs3, hs4, hs5⟩ := hv10_5
                  have hs5 := hs5 (by omega)
                  refine lv_iconst (v := 1) hx hb dX10_turns_206 (by decide) ?_
                  rw [← hQe]
                  exact gs_iret hx hb hr hlocks hM hS (by decide) ⟨hB_sv10, (Or.inl ⟨rfl, ⟨(0, (st_1 0 0 18).toInt, 0, 0, 0, sh), p9, (by unfold pTurnsB; exact obM hw_1_0_p0 ((if_neg (LM.not (LM.frame hLM n_1.2 (by decide)) hv5_1 (by omega))).trans (obM hw_9_0_p0 (obM hs5.2.2 rfl)))), hC9, rfl, wf_t ⟨by omega, by omega⟩ (by omega) hs2 (fun h9 => by rw [h9] at hs1; have h8 : (0 : Int) = _ := hs1; omega), LMb_0 hv10_3 (hs5.1.trans hs1.symm) hs3⟩, hv10_2⟩)⟩ (by exact Nat.le_refl _) (by exact Nat.le_refl _) dX10_turns_207
                · have ic_11 := gz_ne (rfl : y10_1.toInt = y10_1.toInt) (by decide : (0 : Int32).toInt = 0) c_11
                  obtain ⟨sh, p9, hC9, hs1, hs2, hs3, hs4, hs5⟩ := hv10_5
                  have hs4 := hs4 (by omega)
                  refine lv_aload_n hx hb dX10_turns_91 rfl (lv_at hl 2 rfl) ?_
                  refine gs_get (C := RX10) (T := TX10) (N := 59) hx hb hts inX10 hown hK hM 0 0 13 (by decide) rfl rfl (by decide) (hts _ gm_914) (fun _ h9 => h9) rfl dX10_turns_92 ?_
                  refine lv_istore (lv' := [(4, .int (sv10 0 0 13)), (3, .int y10_1), (2, .int y10_0), (0, .ref (ad 0 0)), (1, .int x)]) hx hb dX10_turns_95 hl (by decide) rfl (fun ls hl => ?_)
                  refine lv_aload_n hx hb dX10_turns_97 rfl (lv_at hl 3 rfl) ?_
                  refine gs_calli (va_runV (As := []) (rest := []) ⟨hx, hb, hml, hown, hts⟩ (m_readClan l G cy sK sV ad H.size sv10 hB_sv10.1  F N (((funext (fun j9 => hB_sv10.2 7 0 j9 (show (700 : Nat) ∉ _ from by decide))).trans rfl).trans hF) ((congrArg Int32.toInt ((hB_sv10.2 0 0 10 (show (10 : Nat) ∉ _ from by decide)))).trans hN) p9 hC9) ⟨(gz_cb (n := 0) hts gm_1147 gm_12 gm_1150 ⟨by decide +kernel, by decide +kernel, by decide +kernel⟩ ⟨Nat.le_of_ble_eq_true rfl, Nat.le_of_ble_eq_true rfl⟩), hts _ gm_1149, hts _ gs_41⟩ (gs_preV hK hov hE hI hM hm hS hA 0 0 (by decide) rfl rfl) rfl rfl hl.1 rfl (lv_room (Nat.le_of_ble_eq_true rfl)) dX10_turns_98 ⟨Nat.le_of_ble_eq_true rfl, Nat.le_of_ble_eq_true rfl⟩) hm hS hA (fun r_13 st_13 H locs hw_13 hM hS => ?_)
                  obtain ⟨n_13, hw_13⟩ := hw_13
                  have hB_st_13 : gBN bM kM [11, 12, 13, 14, 15, 16, 17, 18, 19, 59, 900, 1300, 1400, 1500] st st_13 := hB_sv10.call n_13 (by decide)
                  rcases hw_13 with ⟨rfl, hw_13_0, hw_13_1, hw_13_2⟩ | ⟨rfl, hw_13_0⟩
                  · skip
                    obtain ⟨e9_hw_13_0, hw_13_0_p0, hw_13_0_p1⟩ := hw_13_0
                    refine lv_if_ne (tgt := 106) hx hb dX10_turns_101 (by decide) (fun _ => ?_) (fun h9 => absurd h9 (by decide))
                    refine lv_iload_n hx hb dX10_turns_106 rfl (lv_at hl 2 rfl) ?_
                    refine lv_bipush (v := 8) hx hb dX10_turns_107 (by decide) ?_
                    refine lv_icmp_ne (tgt := 120) hx hb dX10_turns_109 (by decide) (fun c_14 => ?_) (fun c_14 => ?_)
                    · have ic_14 := gz_ne (rfl : y10_0.toInt = y10_0.toInt) (by decide : (8 : Int32).toInt = 8) c_14
                      refine lv_aload_n hx hb dX10_turns_120 rfl (lv_at hl 3 rfl) ?_
                      refine gs_get (C := RX10) (T := TX10) (N := 59) hx hb hts inX10 hown hK hM 0 0 26 (by decide) rfl rfl (by decide) (hts _ gm_927) (fun _ h9 => h9) rfl dX10_turns_121 ?_
                      refine lv_bipush (v := 8) hx hb dX10_turns_124 (by decide) ?_
                      refine lv_iload_n hx hb dX10_turns_126 rfl (lv_at hl 4 rfl) ?_
                      refine lv_imul hx hb dX10_turns_127 ?_
                      refine lv_topi (fun x_15 ex_15 => ?_)
                      try have tx_15 : x_15.toInt = 8 * x.toInt := by rw [ex_15]; exact gz_mulI (x := 8) (y := x.toInt) (by decide) rfl (by omega) (by omega)
                      refine lv_iload_n hx hb dX10_turns_128 rfl (lv_at hl 2 rfl) ?_
                      refine lv_iadd hx hb dX10_turns_129 ?_
                      refine lv_topi (fun x_16 ex_16 => ?_)
                      try have tx_16 : x_16.toInt = x_15.toInt + y10_0.toInt := by rw [ex_16]; exact gz_addI (x := x_15.toInt) (y := y10_0.toInt) rfl rfl (by omega) (by omega)
                      refine lv_aload_n hx hb dX10_turns_130 rfl (lv_at hl 3 rfl) ?_
                      refine gs_get (C := RX10) (T := TX10) (N := 59) hx hb hts inX10 hown hK hM 0 0 18 (by decide) rfl rfl (by decide) (hts _ gm_919) (fun _ h9 => h9) rfl dX10_turns_131 ?_
                      refine gs_iast hx hb hK hI hm hM hS 14 0 (by decide) (fun _ => rfl) (vp_in_iff.mpr ⟨by omega, by omega⟩) dX10_turns_134 (fun st_18 H locs est_18 hM hS => ?_)
                      have hB_st_18 : gBN bM kM [11, 12, 13, 14, 15, 16, 17, 18, 19, 59, 900, 1300, 1400, 1500] st st_18 := by rw [est_18]; exact hB_st_13.up (show (1400 : Nat) ∈ _ from by decide) (gi_lo _) (gi_hi _)
                      refine lv_aload_n hx hb dX10_turns_135 rfl (lv_at hl 3 rfl) ?_
                      refine lv_iconst (v := 1) hx hb dX10_turns_136 (by decide) ?_
                      refine lv_bipush (v := 9) hx hb dX10_turns_137 (by decide) ?_
                      refine gs_calli (va_runV (As := [.int 1, .int 9]) (rest := []) ⟨hx, hb, hml, hown, hts⟩ (m_readNumber l G cy sK sV ad H.size st_18 hB_st_18.1 (1 : Int32) (9 : Int32) 1 9 (by decide) (by decide) F N (((congrFun (congrFun est_18 7) 0).trans ((congrFun (gU_k (by decide)) 0).trans ((funext (fun j9 => n_13.2 7 0 j9 (show (700 : Nat) ∉ _ from by decide))).trans ((funext (fun j9 => hB_sv10.2 7 0 j9 (show (700 : Nat) ∉ _ from by decide))).trans rfl)))).trans hF) ((congrArg Int32.toInt ((((congrFun (congrFun (congrFun est_18 0) 0) 10).trans (congrFun (congrFun (gU_k (by decide)) 0) 10)).trans ((n_13.2 0 0 10 (show (10 : Nat) ∉ _ from by decide)).trans (hB_sv10.2 0 0 10 (show (10 : Nat) ∉ _ from by decide)))))).trans hN) e9_hw_13_0 (hw_13_0_p1.rows ((congrFun (congrFun (congrFun est_18 0) 0) 11).trans (congrFun (congrFun (gU_k (by decide)) 0) 11)) ((congrFun (congrFun (congrFun est_18 0) 0) 12).trans (congrFun (congrFun (gU_k (by decide)) 0) 12)) ((congrFun (congrFun (congrFun est_18 0) 0) 14).trans (congrFun (congrFun (gU_k (by decide)) 0) 14)) ((congrFun (congrFun (congrFun est_18 0) 0) 17).trans (congrFun (congrFun (gU_k (by decide)) 0) 17)) ((congrFun (congrFun (congrFun est_18 0) 0) 59).trans (congrFun (congrFun (gU_k (by decide)) 0) 59)))) ⟨(gz_cb (n := 2) hts gm_1139 gm_12 gm_1142 ⟨by decide +kernel, by decide +kernel, by decide +kernel⟩ ⟨Nat.le_of_ble_eq_true rfl, Nat.le_of_ble_eq_true rfl⟩), hts _ gm_1141, hts _ gs_39⟩ (gs_preV hK hov hE hI hM hm hS hA 0 0 (by decide) rfl rfl) rfl rfl hl.1 rfl (lv_room (Nat.le_of_ble_eq_true rfl)) dX10_turns_139 ⟨Nat.le_of_ble_eq_true rfl, Nat.le_of_ble_eq_true rfl⟩) hm hS hA (fun r_19 st_19 H locs hw_19 hM hS => ?_)
                      obtain ⟨n_19, hw_19⟩ := hw_19
                      have hB_st_19 : gBN bM kM [11, 12, 13, 14, 15, 16, 17, 18, 19, 59, 900, 1300, 1400, 1500] st st_19 := hB_st_18.call n_19 (by decide)
                      rcases hw_19 with ⟨rfl, hw_19_0, hw_19_1, hw_19_2⟩ | ⟨rfl, hw_19_0⟩
                      · skip
                        obtain ⟨e9_hw_19_0, hw_19_0_p0, hw_19_0_p1⟩ := hw_19_0
                        refine lv_if_ne (tgt := 147) hx hb dX10_turns_142 (by decide) (fun _ => ?_) (fun h9 => absurd h9 (by decide))
                        refine lv_aload_n hx hb dX10_turns_147 rfl (lv_at hl 3 rfl) ?_
                        refine gs_get (C := RX10) (T := TX10) (N := 59) hx hb hts inX10 hown hK hM 0 0 27 (by decide) rfl rfl (by decide) (hts _ gm_928) (fun _ h9 => h9) rfl dX10_turns_148 ?_
                        refine lv_bipush (v := 8) hx hb dX10_turns_151 (by decide) ?_
                        refine lv_iload_n hx hb dX10_turns_153 rfl (lv_at hl 4 rfl) ?_
                        refine lv_imul hx hb dX10_turns_154 ?_
                        refine lv_topi (fun x_20 ex_20 => ?_)
                        try have tx_20 : x_20.toInt = 8 * x.toInt := by rw [ex_20]; exact gz_mulI (x := 8) (y := x.toInt) (by decide) rfl (by omega) (by omega)
                        refine lv_iload_n hx hb dX10_turns_155 rfl (lv_at hl 2 rfl) ?_
                        refine lv_iadd hx hb dX10_turns_156 ?_
                        refine lv_topi (fun x_21 ex_21 => ?_)
                        try have tx_21 : x_21.toInt = x_20.toInt + y10_0.toInt := by rw [ex_21]; exact gz_addI (x := x_20.toInt) (y := y10_0.toInt) rfl rfl (by omega) (by omega)
                        refine lv_aload_n hx hb dX10_turns_157 rfl (lv_at hl 3 rfl) ?_
                        refine gs_get (C := RX10) (T := TX10) (N := 59) hx hb hts inX10 hown hK hM 0 0 18 (by decide) rfl rfl (by decide) (hts _ gm_919) (fun _ h9 => h9) rfl dX10_turns_158 ?_
                        refine gs_iast hx hb hK hI hm hM hS 15 0 (by decide) (fun _ => rfl) (vp_in_iff.mpr ⟨by omega, by omega⟩) dX10_turns_161 (fun st_23 H locs est_23 hM hS => ?_)
                        have hB_st_23 : gBN bM kM [11, 12, 13, 14, 15, 16, 17, 18, 19, 59, 900, 1300, 1400, 1500] st st_23 := by rw [est_23]; exact hB_st_19.up (show (1500 : Nat) ∈ _ from by decide) (show (0 : Int) ≤ (st_19 0 0 18).toInt from by omega) (show (st_19 0 0 18).toInt ≤ (9 : Int) from by omega)
                        obtain ⟨x_24, ex_24⟩ : ∃ y : Int32, y = y10_0 + 1 := ⟨_, rfl⟩
                        try have tx_24 : x_24.toInt = y10_0.toInt + 1 := by rw [ex_24]; exact gz_addP (x := y10_0.toInt) (y := 1) rfl (by decide) (by omega) (by omega)
                        refine lv_iinc (v := (x_24)) (lv' := [(2, .int x_24), (4, .int (sv10 0 0 13)), (3, .int y10_1), (0, .ref (ad 0 0)), (1, .int x)]) hx hb dX10_turns_162 hl (k := 2) rfl (by rw [ex_24]; rfl) (by decide) rfl (fun ls hl => ?_)
                        refine lv_aload_n hx hb dX10_turns_165 rfl (lv_at hl 3 rfl) ?_
                        refine gs_get (C := RX10) (T := TX10) (N := 59) hx hb hts inX10 hown hK hM 0 0 25 (by decide) rfl rfl (by decide) (hts _ gm_926) (fun _ h9 => h9) rfl dX10_turns_166 ?_
                        refine lv_iload_n hx hb dX10_turns_169 rfl (lv_at hl 4 rfl) ?_
                        refine lv_iload_n hx hb dX10_turns_170 rfl (lv_at hl 0 rfl) ?_
                        refine gs_iast hx hb hK hI hm hM hS 13 0 (by decide) (fun _ => rfl) (vp_in_iff.mpr ⟨by omega, by omega⟩) dX10_turns_171 (fun st_25 H locs est_25 hM hS => ?_)
                        have hB_st_25 : gBN bM kM [11, 12, 13, 14, 15, 16, 17, 18, 19, 59, 900, 1300, 1400, 1500] st st_25 := by rw [est_25]; exact hB_st_23.up (show (1300 : Nat) ∈ _ from by decide) (show (0 : Int) ≤ x_24.toInt from by omega) (show x_24.toInt ≤ (8 : Int) from by omega)
                        refine lv_aload_n hx hb dX10_turns_172 rfl (lv_at hl 3 rfl) ?_
                        refine gs_get (C := RX10) (T := TX10) (N := 59) hx hb hts inX10 hown hK hM 0 0 12 (by decide) rfl rfl (by decide) (hts _ gm_913) (fun _ h9 => h9) rfl dX10_turns_173 ?_
                        refine lv_topi (fun x_26 ex_26 => ?_)
                        have ex_26 : (st_19 0 0 12) = x_26 := Eq.symm (ex_26.trans (((congrFun (congrFun (congrFun est_25 0) 0) 12).trans (congrFun (congrFun (gU_k (by decide)) 0) 12)).trans ((congrFun (congrFun (congrFun est_23 0) 0) 12).trans (congrFun (congrFun (gU_k (by decide)) 0) 12))))
                        subst ex_26
                        refine lv_iconst (v := 3) hx hb dX10_turns_176 (by decide) ?_
                        refine lv_icmp_ne (tgt := 193) hx hb dX10_turns_177 (by decide) (fun c_28 => ?_) (fun c_28 => ?_)
                        · have ic_28 := gz_ne (rfl : (st_19 0 0 12).toInt = (st_19 0 0 12).toInt) (by decide : (3 : Int32).toInt = 3) c_28
                          refine lv_iconst (v := 0) hx hb dX10_turns_193 (by decide) ?_
                          refine lv_istore_n (lv' := [(3, .int 0), (2, .int x_24), (4, .int (sv10 0 0 13)), (0, .ref (ad 0 0)), (1, .int x)]) hx hb dX10_turns_194 rfl hl (by decide) rfl (fun ls hl => ?_)
                          refine lv_iload_n hx hb dX10_turns_195 rfl (lv_at hl 0 rfl) ?_
                          refine lv_if_eq (tgt := 203) hx hb dX10_turns_196 (by decide) (fun _ => ?_) (fun h9 => absurd (by decide) h9)
                          refine lv_goto (tgt := 87) hx hb dX10_turns_203 (by decide) ?_
                          have hz9 : (0 : Int32).toInt = 0 := (by decide)
                          exact ih_10 st_25 (x_24 : Int32) ((0 : Int32) : Int32) H _ ls (by have hl0 : (0 : Int32).toInt = 0 := (by decide); omega) hB_st_25 (by have hl0 : (0 : Int32).toInt = 0 := (by decide); omega) (by have hl0 : (0 : Int32).toInt = 0 := (by decide); omega) (by rw [est_25]; exact mO.up (by rw [est_23]; exact mO.up (mO.trans (by rw [est_18]; exact mO.up (mO.trans hv10_2 (mO.frame n_13.2 (by decide))) (fun h9 => absurd h9 (by decide)) (fun _ => by have h8 := gs_cl (x := x) (by omega); have h9 := gs_cl (x := x_16) (by omega); omega)) (mO.frame n_19.2 (by decide))) (fun h9 => absurd h9 (by decide)) (fun _ => by have h8 := gs_cl (x := x) (by omega); have h9 := gs_cl (x := x_21) (by omega); omega)) (by first | (intro _; rfl) | (intro h9; exact absurd h9 (by decide)) | (intro _; omega)) (by first | (intro h9; exact absurd h9 (by decide)) | (intro _; omega))) (by rw [show (st_25 9 0 (x.toNatClampNeg)).toInt = (sv10 9 0 (x.toNatClampNeg)).toInt from (congrArg Int32.toInt ((((congrFun (congrFun (congrFun est_25 9) 0) (x.toNatClampNeg)).trans (congrFun (congrFun (gU_k (by decide)) 0) (x.toNatClampNeg))).trans (((congrFun (congrFun (congrFun est_23 9) 0) (x.toNatClampNeg)).trans (congrFun (congrFun (gU_k (by decide)) 0) (x.toNatClampNeg))).trans ((n_19.2 9 0 (x.toNatClampNeg) (show (900 : Nat) ∉ _ from by decide)).trans (((congrFun (congrFun (congrFun est_18 9) 0) (x.toNatClampNeg)).trans (congrFun (congrFun (gU_k (by decide)) 0) (x.toNatClampNeg))).trans (n_13.2 9 0 (x.toNatClampNeg) (show (900 : Nat) ∉ _ from by decide))))))))]; exact hv10_3) (by have hl0 : (0 : Int32).toInt = 0 := (by decide); omega) (by rw [show (0 : Int32).toInt = 0 from by decide]; exact shI.stop hs1 hs2 hs3 hs4 (by omega) (by omega) hw_13_0_p0 ⟨by omega, by omega⟩ hw_19_0_p0 ⟨by omega, by omega⟩ ((hw_19_0_p1.rows (((congrFun (congrFun (congrFun est_25 0) 0) 11).trans (congrFun (congrFun (gU_k (by decide)) 0) 11)).trans ((congrFun (congrFun (congrFun est_23 0) 0) 11).trans (congrFun (congrFun (gU_k (by decide)) 0) 11))) (((congrFun (congrFun (congrFun est_25 0) 0) 12).trans (congrFun (congrFun (gU_k (by decide)) 0) 12)).trans ((congrFun (congrFun (congrFun est_23 0) 0) 12).trans (congrFun (congrFun (gU_k (by decide)) 0) 12))) (((congrFun (congrFun (congrFun est_25 0) 0) 14).trans (congrFun (congrFun (gU_k (by decide)) 0) 14)).trans ((congrFun (congrFun (congrFun est_23 0) 0) 14).trans (congrFun (congrFun (gU_k (by decide)) 0) 14))) (((congrFun (congrFun (congrFun est_25 0) 0) 17).trans (congrFun (congrFun (gU_k (by decide)) 0) 17)).trans ((congrFun (congrFun (congrFun est_23 0) 0) 17).trans (congrFun (congrFun (gU_k (by decide)) 0) 17))) (((congrFun (congrFun (congrFun est_25 0) 0) 59).trans (congrFun (congrFun (gU_k (by decide)) 0) 59)).trans ((congrFun (congrFun (congrFun est_23 0) 0) 59).trans (congrFun (congrFun (gU_k (by decide)) 0) 59)))).s0 (by rw [show (st_25 0 0 12).toInt = (st_19 0 0 12).toInt from (congrArg Int32.toInt ((((congrFun (congrFun (congrFun est_25 0) 0) 12).trans (congrFun (congrFun (gU_k (by decide)) 0) 12)).trans ((congrFun (congrFun (congrFun est_23 0) 0) 12).trans (congrFun (congrFun (gU_k (by decide)) 0) 12))))), show (st_25 0 0 14).toInt = (st_19 0 0 14).toInt from (congrArg Int32.toInt ((((congrFun (congrFun (congrFun est_25 0) 0) 14).trans (congrFun (congrFun (gU_k (by decide)) 0) 14)).trans ((congrFun (congrFun (congrFun est_23 0) 0) 14).trans (congrFun (congrFun (gU_k (by decide)) 0) 14)))))]; omega)) (hw_19_0_p1.rows (((congrFun (congrFun (congrFun est_25 0) 0) 11).trans (congrFun (congrFun (gU_k (by decide)) 0) 11)).trans ((congrFun (congrFun (congrFun est_23 0) 0) 11).trans (congrFun (congrFun (gU_k (by decide)) 0) 11))) (((congrFun (congrFun (congrFun est_25 0) 0) 12).trans (congrFun (congrFun (gU_k (by decide)) 0) 12)).trans ((congrFun (congrFun (congrFun est_23 0) 0) 12).trans (congrFun (congrFun (gU_k (by decide)) 0) 12))) (((congrFun (congrFun (congrFun est_25 0) 0) 14).trans (congrFun (congrFun (gU_k (by decide)) 0) 14)).trans ((congrFun (congrFun (congrFun est_23 0) 0) 14).trans (congrFun (congrFun (gU_k (by decide)) 0) 14))) (((congrFun (congrFun (congrFun est_25 0) 0) 17).trans (congrFun (congrFun (gU_k (by decide)) 0) 17)).trans ((congrFun (congrFun (congrFun est_23 0) 0) 17).trans (congrFun (congrFun (gU_k (by decide)) 0) 17))) (((congrFun (congrFun (congrFun est_25 0) 0) 59).trans (congrFun (congrFun (gU_k (by decide)) 0) 59)).trans ((congrFun (congrFun (congrFun est_23 0) 0) 59).trans (congrFun (congrFun (gU_k (by decide)) 0) 59)))) (by rw [show st_25 14 0 = (upd (sv10 14 0) (x_16.toNatClampNeg) ((st_13 0 0 18) : Int32)) from ((congrFun (congrFun est_25 14) 0).trans ((congrFun (gU_k (by decide)) 0).trans ((congrFun (congrFun est_23 14) 0).trans ((congrFun (gU_k (by decide)) 0).trans ((funext (fun j9 => n_19.2 14 0 j9 (show (1400 : Nat) ∉ _ from by decide))).trans ((congrFun (congrFun est_18 14) 0).trans ((gU_at _ _ _ _ _).trans (congrArg (fun f9 => upd f9 (x_16.toNatClampNeg) ((st_13 0 0 18) : Int32)) ((funext (fun j9 => n_13.2 14 0 j9 (show (1400 : Nat) ∉ _ from by decide))).trans rfl))))))))), show x_16.toNatClampNeg = 8 * x.toNatClampNeg + sh.length from (by have h8 := gs_cl (x := x) (by omega); have h9 := gs_cl (x := x_16) (by omega); omega)]) (by rw [show st_25 15 0 = (upd (sv10 15 0) (x_21.toNatClampNeg) ((st_19 0 0 18) : Int32)) from ((congrFun (congrFun est_25 15) 0).trans ((congrFun (gU_k (by decide)) 0).trans ((congrFun (congrFun est_23 15) 0).trans ((gU_at _ _ _ _ _).trans (congrArg (fun f9 => upd f9 (x_21.toNatClampNeg) ((st_19 0 0 18) : Int32)) ((funext (fun j9 => n_19.2 15 0 j9 (show (1500 : Nat) ∉ _ from by decide))).trans ((congrFun (congrFun est_18 15) 0).trans ((congrFun (gU_k (by decide)) 0).trans ((funext (fun j9 => n_13.2 15 0 j9 (show (1500 : Nat) ∉ _ from by decide))).trans rfl))))))))), show x_21.toNatClampNeg = 8 * x.toNatClampNeg + sh.length from (by have h8 := gs_cl (x := x) (by omega); have h9 := gs_cl (x := x_21) (by omega); omega)]) (by rw [show (st_25 13 0 (x.toNatClampNeg)).toInt = x_24.toInt from (congrArg Int32.toInt (((congrFun (congrFun (congrFun est_25 13) 0) (x.toNatClampNeg)).trans (gU_same _ _ _ _ _))))]; all_goals first | rfl | omega)) hM hS (lv_sub hl [0, 1, 3, 4] rfl)
                        · have ic_28 := gz_eqn (rfl : (st_19 0 0 12).toInt = (st_19 0 0 12).toInt) (by decide : (3 : Int32).toInt = 3) c_28
                          refine lv_aload_n hx hb dX10_turns_180 rfl (lv_at hl 3 rfl) ?_
                          refine gs_get (C := RX10) (T := TX10) (N := 59) hx hb hts inX10 hown hK hM 0 0 14 (by decide) rfl rfl (by decide) (hts _ gm_915) (fun _ h9 => h9) rfl dX10_turns_181 ?_
                          refine lv_topi (fun x_29 ex_29 => ?_)
                          have ex_29 : (st_19 0 0 14) = x_29 := Eq.symm (ex_29.trans (((congrFun (congrFun (congrFun est_25 0) 0) 14).trans (congrFun (congrFun (gU_k (by decide)) 0) 14)).trans ((congrFun (congrFun (congrFun est_23 0) 0) 14).trans (congrFun (congrFun (gU_k (by decide)) 0) 14))))
                          subst ex_29
                          refine lv_bipush (v := 44) hx hb dX10_turns_184 (by decide) ?_
                          refine lv_icmp_ne (tgt := 193) hx hb dX10_turns_186 (by decide) (fun c_31 => ?_) (fun c_31 => ?_)
                          · have ic_31 := gz_ne (rfl : (st_19 0 0 14).toInt = (st_19 0 0 14).toInt) (by decide : (44 : Int32).toInt = 44) c_31
                            refine lv_iconst (v := 0) hx hb dX10_turns_193 (by decide) ?_
                            refine lv_istore_n (lv' := [(3, .int 0), (2, .int x_24), (4, .int (sv10 0 0 13)), (0, .ref (ad 0 0)), (1, .int x)]) hx hb dX10_turns_194 rfl hl (by decide) rfl (fun ls hl => ?_)
                            refine lv_iload_n hx hb dX10_turns_195 rfl (lv_at hl 0 rfl) ?_
                            refine lv_if_eq (tgt := 203) hx hb dX10_turns_196 (by decide) (fun _ => ?_) (fun h9 => absurd (by decide) h9)
                            refine lv_goto (tgt := 87) hx hb dX10_turns_203 (by decide) ?_
                            have hz9 : (0 : Int32).toInt = 0 := (by decide)
                            exact ih_10 st_25 (x_24 : Int32) ((0 : Int32) : Int32) H _ ls (by have hl0 : (0 : Int32).toInt = 0 := (by decide); omega) hB_st_25 (by have hl0 : (0 : Int32).toInt = 0 := (by decide); omega) (by have hl0 : (0 : Int32).toInt = 0 := (by decide); omega) (by rw [est_25]; exact mO.up (by rw [est_23]; exact mO.up (mO.trans (by rw [est_18]; exact mO.up (mO.trans hv10_2 (mO.frame n_13.2 (by decide))) (fun h9 => absurd h9 (by decide)) (fun _ => by have h8 := gs_cl (x := x) (by omega); have h9 := gs_cl (x := x_16) (by omega); omega)) (mO.frame n_19.2 (by decide))) (fun h9 => absurd h9 (by decide)) (fun _ => by have h8 := gs_cl (x := x) (by omega); have h9 := gs_cl (x := x_21) (by omega); omega)) (by first | (intro _; rfl) | (intro h9; exact absurd h9 (by decide)) | (intro _; omega)) (by first | (intro h9; exact absurd h9 (by decide)) | (intro _; omega))) (by rw [show (st_25 9 0 (x.toNatClampNeg)).toInt = (sv10 9 0 (x.toNatClampNeg)).toInt from (congrArg Int32.toInt ((((congrFun (congrFun (congrFun est_25 9) 0) (x.toNatClampNeg)).trans (congrFun (congrFun (gU_k (by decide)) 0) (x.toNatClampNeg))).trans (((congrFun (congrFun (congrFun est_23 9) 0) (x.toNatClampNeg)).trans (congrFun (congrFun (gU_k (by decide)) 0) (x.toNatClampNeg))).trans ((n_19.2 9 0 (x.toNatClampNeg) (show (900 : Nat) ∉ _ from by decide)).trans (((congrFun (congrFun (congrFun est_18 9) 0) (x.toNatClampNeg)).trans (congrFun (congrFun (gU_k (by decide)) 0) (x.toNatClampNeg))).trans (n_13.2 9 0 (x.toNatClampNeg) (show (900 : Nat) ∉ _ from by decide))))))))]; exact hv10_3) (by have hl0 : (0 : Int32).toInt = 0 := (by decide); omega) (by rw [show (0 : Int32).toInt = 0 from by decide]; exact shI.stop hs1 hs2 hs3 hs4 (by omega) (by omega) hw_13_0_p0 ⟨by omega, by omega⟩ hw_19_0_p0 ⟨by omega, by omega⟩ ((hw_19_0_p1.rows (((congrFun (congrFun (congrFun est_25 0) 0) 11).trans (congrFun (congrFun (gU_k (by decide)) 0) 11)).trans ((congrFun (congrFun (congrFun est_23 0) 0) 11).trans (congrFun (congrFun (gU_k (by decide)) 0) 11))) (((congrFun (congrFun (congrFun est_25 0) 0) 12).trans (congrFun (congrFun (gU_k (by decide)) 0) 12)).trans ((congrFun (congrFun (congrFun est_23 0) 0) 12).trans (congrFun (congrFun (gU_k (by decide)) 0) 12))) (((congrFun (congrFun (congrFun est_25 0) 0) 14).trans (congrFun (congrFun (gU_k (by decide)) 0) 14)).trans ((congrFun (congrFun (congrFun est_23 0) 0) 14).trans (congrFun (congrFun (gU_k (by decide)) 0) 14))) (((congrFun (congrFun (congrFun est_25 0) 0) 17).trans (congrFun (congrFun (gU_k (by decide)) 0) 17)).trans ((congrFun (congrFun (congrFun est_23 0) 0) 17).trans (congrFun (congrFun (gU_k (by decide)) 0) 17))) (((congrFun (congrFun (congrFun est_25 0) 0) 59).trans (congrFun (congrFun (gU_k (by decide)) 0) 59)).trans ((congrFun (congrFun (congrFun est_23 0) 0) 59).trans (congrFun (congrFun (gU_k (by decide)) 0) 59)))).s0 (by rw [show (st_25 0 0 12).toInt = (st_19 0 0 12).toInt from (congrArg Int32.toInt ((((congrFun (congrFun (congrFun est_25 0) 0) 12).trans (congrFun (congrFun (gU_k (by decide)) 0) 12)).trans ((congrFun (congrFun (congrFun est_23 0) 0) 12).trans (congrFun (congrFun (gU_k (by decide)) 0) 12))))), show (st_25 0 0 14).toInt = (st_19 0 0 14).toInt from (congrArg Int32.toInt ((((congrFun (congrFun (congrFun est_25 0) 0) 14).trans (congrFun (congrFun (gU_k (by decide)) 0) 14)).trans ((congrFun (congrFun (congrFun est_23 0) 0) 14).trans (congrFun (congrFun (gU_k (by decide)) 0) 14)))))]; omega)) (hw_19_0_p1.rows (((congrFun (congrFun (congrFun est_25 0) 0) 11).trans (congrFun (congrFun (gU_k (by decide)) 0) 11)).trans ((congrFun (congrFun (congrFun est_23 0) 0) 11).trans (congrFun (congrFun (gU_k (by decide)) 0) 11))) (((congrFun (congrFun (congrFun est_25 0) 0) 12).trans (congrFun (congrFun (gU_k (by decide)) 0) 12)).trans ((congrFun (congrFun (congrFun est_23 0) 0) 12).trans (congrFun (congrFun (gU_k (by decide)) 0) 12))) (((congrFun (congrFun (congrFun est_25 0) 0) 14).trans (congrFun (congrFun (gU_k (by decide)) 0) 14)).trans ((congrFun (congrFun (congrFun est_23 0) 0) 14).trans (congrFun (congrFun (gU_k (by decide)) 0) 14))) (((congrFun (congrFun (congrFun est_25 0) 0) 17).trans (congrFun (congrFun (gU_k (by decide)) 0) 17)).trans ((congrFun (congrFun (congrFun est_23 0) 0) 17).trans (congrFun (congrFun (gU_k (by decide)) 0) 17))) (((congrFun (congrFun (congrFun est_25 0) 0) 59).trans (congrFun (congrFun (gU_k (by decide)) 0) 59)).trans ((congrFun (congrFun (congrFun est_23 0) 0) 59).trans (congrFun (congrFun (gU_k (by decide)) 0) 59)))) (by rw [show st_25 14 0 = (upd (sv10 14 0) (x_16.toNatClampNeg) ((st_13 0 0 18) : Int32)) from ((congrFun (congrFun est_25 14) 0).trans ((congrFun (gU_k (by decide)) 0).trans ((congrFun (congrFun est_23 14) 0).trans ((congrFun (gU_k (by decide)) 0).trans ((funext (fun j9 => n_19.2 14 0 j9 (show (1400 : Nat) ∉ _ from by decide))).trans ((congrFun (congrFun est_18 14) 0).trans ((gU_at _ _ _ _ _).trans (congrArg (fun f9 => upd f9 (x_16.toNatClampNeg) ((st_13 0 0 18) : Int32)) ((funext (fun j9 => n_13.2 14 0 j9 (show (1400 : Nat) ∉ _ from by decide))).trans rfl))))))))), show x_16.toNatClampNeg = 8 * x.toNatClampNeg + sh.length from (by have h8 := gs_cl (x := x) (by omega); have h9 := gs_cl (x := x_16) (by omega); omega)]) (by rw [show st_25 15 0 = (upd (sv10 15 0) (x_21.toNatClampNeg) ((st_19 0 0 18) : Int32)) from ((congrFun (congrFun est_25 15) 0).trans ((congrFun (gU_k (by decide)) 0).trans ((congrFun (congrFun est_23 15) 0).trans ((gU_at _ _ _ _ _).trans (congrArg (fun f9 => upd f9 (x_21.toNatClampNeg) ((st_19 0 0 18) : Int32)) ((funext (fun j9 => n_19.2 15 0 j9 (show (1500 : Nat) ∉ _ from by decide))).trans ((congrFun (congrFun est_18 15) 0).trans ((congrFun (gU_k (by decide)) 0).trans ((funext (fun j9 => n_13.2 15 0 j9 (show (1500 : Nat) ∉ _ from by decide))).trans rfl))))))))), show x_21.toNatClampNeg = 8 * x.toNatClampNeg + sh.length from (by have h8 := gs_cl (x := x) (by omega); have h9 := gs_cl (x := x_21) (by omega); omega)]) (by rw [show (st_25 13 0 (x.toNatClampNeg)).toInt = x_24.toInt from (congrArg Int32.toInt (((congrFun (congrFun (congrFun est_25 13) 0) (x.toNatClampNeg)).trans (gU_same _ _ _ _ _))))]; all_goals first | rfl | omega)) hM hS (lv_sub hl [0, 1, 3, 4] rfl)
                          · have ic_31 := gz_eqn (rfl : (st_19 0 0 14).toInt = (st_19 0 0 14).toInt) (by decide : (44 : Int32).toInt = 44) c_31
                            refine lv_iconst (v := 1) hx hb dX10_turns_189 (by decide) ?_
                            refine lv_goto (tgt := 194) hx hb dX10_turns_190 (by decide) ?_
                            refine lv_istore_n (lv' := [(3, .int 1), (2, .int x_24), (4, .int (sv10 0 0 13)), (0, .ref (ad 0 0)), (1, .int x)]) hx hb dX10_turns_194 rfl hl (by decide) rfl (fun ls hl => ?_)
                            refine lv_iload_n hx hb dX10_turns_195 rfl (lv_at hl 0 rfl) ?_
                            refine lv_if_eq (tgt := 203) hx hb dX10_turns_196 (by decide) (fun h9 => absurd h9 (by decide)) (fun _ => ?_)
                            refine lv_aload_n hx hb dX10_turns_199 rfl (lv_at hl 3 rfl) ?_
                            refine gs_callv (va_runV (As := []) (rest := []) ⟨hx, hb, hml, hown, hts⟩ (m_next0 l G cy sK sV ad H.size st_25 hB_st_25.1  F N (((congrFun (congrFun est_25 7) 0).trans ((congrFun (gU_k (by decide)) 0).trans ((congrFun (congrFun est_23 7) 0).trans ((congrFun (gU_k (by decide)) 0).trans ((funext (fun j9 => n_19.2 7 0 j9 (show (700 : Nat) ∉ _ from by decide))).trans ((congrFun (congrFun est_18 7) 0).trans ((congrFun (gU_k (by decide)) 0).trans ((funext (fun j9 => n_13.2 7 0 j9 (show (700 : Nat) ∉ _ from by decide))).trans ((funext (fun j9 => hB_sv10.2 7 0 j9 (show (700 : Nat) ∉ _ from by decide))).trans rfl))))))))).trans hF) ((congrArg Int32.toInt ((((congrFun (congrFun (congrFun est_25 0) 0) 10).trans (congrFun (congrFun (gU_k (by decide)) 0) 10)).trans (((congrFun (congrFun (congrFun est_23 0) 0) 10).trans (congrFun (congrFun (gU_k (by decide)) 0) 10)).trans ((n_19.2 0 0 10 (show (10 : Nat) ∉ _ from by decide)).trans (((congrFun (congrFun (congrFun est_18 0) 0) 10).trans (congrFun (congrFun (gU_k (by decide)) 0) 10)).trans ((n_13.2 0 0 10 (show (10 : Nat) ∉ _ from by decide)).trans (hB_sv10.2 0 0 10 (show (10 : Nat) ∉ _ from by decide))))))))).trans hN)) ⟨(gz_cb (n := 0) hts gm_1100 gm_12 gm_1103 ⟨by decide +kernel, by decide +kernel, by decide +kernel⟩ ⟨Nat.le_of_ble_eq_true rfl, Nat.le_of_ble_eq_true rfl⟩), hts _ gm_1102, hts _ gs_32⟩ (gs_preV hK hov hE hI hM hm hS hA 0 0 (by decide) rfl rfl) rfl rfl hl.1 rfl (lv_room (Nat.le_of_ble_eq_true rfl)) dX10_turns_200 ⟨Nat.le_of_ble_eq_true rfl, Nat.le_of_ble_eq_true rfl⟩) hm hS hA (fun st_32 H locs hw_32 hM hS => ?_)
                            obtain ⟨n_32, hw_32⟩ := hw_32
                            have hB_st_32 : gBN bM kM [11, 12, 13, 14, 15, 16, 17, 18, 19, 59, 900, 1300, 1400, 1500] st st_32 := hB_st_25.call n_32 (by decide)
                            have hqhw_320 : (st_25 0 0 11).toInt = ((st_19 0 0 11) : Int32).toInt := congrArg Int32.toInt ((((congrFun (congrFun (congrFun est_25 0) 0) 11).trans (congrFun (congrFun (gU_k (by decide)) 0) 11)).trans ((congrFun (congrFun (congrFun est_23 0) 0) 11).trans (congrFun (congrFun (gU_k (by decide)) 0) 11))))
                            have hbhw_321 : (0 : Int) ≤ (st_25 0 0 11).toInt ∧ (st_25 0 0 11).toInt ≤ (800 : Int) := hB_st_25.1 0 0 11
                            have hw_32_0 := hw_32
                            refine lv_goto (tgt := 87) hx hb dX10_turns_203 (by decide) ?_
                            have hz9 : (1 : Int32).toInt = 1 := (by decide)
                            exact ih_10 st_32 (x_24 : Int32) ((1 : Int32) : Int32) H _ ls (by have hl0 : (1 : Int32).toInt = 1 := (by decide); omega) hB_st_32 (by have hl0 : (1 : Int32).toInt = 1 := (by decide); omega) (by have hl0 : (1 : Int32).toInt = 1 := (by decide); omega) (mO.trans (by rw [est_25]; exact mO.up (by rw [est_23]; exact mO.up (mO.trans (by rw [est_18]; exact mO.up (mO.trans hv10_2 (mO.frame n_13.2 (by decide))) (fun h9 => absurd h9 (by decide)) (fun _ => by have h8 := gs_cl (x := x) (by omega); have h9 := gs_cl (x := x_16) (by omega); omega)) (mO.frame n_19.2 (by decide))) (fun h9 => absurd h9 (by decide)) (fun _ => by have h8 := gs_cl (x := x) (by omega); have h9 := gs_cl (x := x_21) (by omega); omega)) (by first | (intro _; rfl) | (intro h9; exact absurd h9 (by decide)) | (intro _; omega)) (by first | (intro h9; exact absurd h9 (by decide)) | (intro _; omega))) (mO.frame n_32.2 (by decide))) (by rw [show (st_32 9 0 (x.toNatClampNeg)).toInt = (sv10 9 0 (x.toNatClampNeg)).toInt from (congrArg Int32.toInt (((n_32.2 9 0 (x.toNatClampNeg) (show (900 : Nat) ∉ _ from by decide)).trans (((congrFun (congrFun (congrFun est_25 9) 0) (x.toNatClampNeg)).trans (congrFun (congrFun (gU_k (by decide)) 0) (x.toNatClampNeg))).trans (((congrFun (congrFun (congrFun est_23 9) 0) (x.toNatClampNeg)).trans (congrFun (congrFun (gU_k (by decide)) 0) (x.toNatClampNeg))).trans ((n_19.2 9 0 (x.toNatClampNeg) (show (900 : Nat) ∉ _ from by decide)).trans (((congrFun (congrFun (congrFun est_18 9) 0) (x.toNatClampNeg)).trans (congrFun (congrFun (gU_k (by decide)) 0) (x.toNatClampNeg))).trans (n_13.2 9 0 (x.toNatClampNeg) (show (900 : Nat) ∉ _ from by decide)))))))))]; exact hv10_3) (by have hl0 : (1 : Int32).toInt = 1 := (by decide); omega) (by rw [show (1 : Int32).toInt = 1 from by decide]; exact shI.go hs1 hs2 hs3 hs4 (by omega) (by omega) hw_13_0_p0 ⟨by omega, by omega⟩ hw_19_0_p0 ⟨by omega, by omega⟩ ((hw_19_0_p1.rows (((congrFun (congrFun (congrFun est_25 0) 0) 11).trans (congrFun (congrFun (gU_k (by decide)) 0) 11)).trans ((congrFun (congrFun (congrFun est_23 0) 0) 11).trans (congrFun (congrFun (gU_k (by decide)) 0) 11))) (((congrFun (congrFun (congrFun est_25 0) 0) 12).trans (congrFun (congrFun (gU_k (by decide)) 0) 12)).trans ((congrFun (congrFun (congrFun est_23 0) 0) 12).trans (congrFun (congrFun (gU_k (by decide)) 0) 12))) (((congrFun (congrFun (congrFun est_25 0) 0) 14).trans (congrFun (congrFun (gU_k (by decide)) 0) 14)).trans ((congrFun (congrFun (congrFun est_23 0) 0) 14).trans (congrFun (congrFun (gU_k (by decide)) 0) 14))) (((congrFun (congrFun (congrFun est_25 0) 0) 17).trans (congrFun (congrFun (gU_k (by decide)) 0) 17)).trans ((congrFun (congrFun (congrFun est_23 0) 0) 17).trans (congrFun (congrFun (gU_k (by decide)) 0) 17))) (((congrFun (congrFun (congrFun est_25 0) 0) 59).trans (congrFun (congrFun (gU_k (by decide)) 0) 59)).trans ((congrFun (congrFun (congrFun est_23 0) 0) 59).trans (congrFun (congrFun (gU_k (by decide)) 0) 59)))).s1 (by rw [show (st_25 0 0 12).toInt = (st_19 0 0 12).toInt from (congrArg Int32.toInt ((((congrFun (congrFun (congrFun est_25 0) 0) 12).trans (congrFun (congrFun (gU_k (by decide)) 0) 12)).trans ((congrFun (congrFun (congrFun est_23 0) 0) 12).trans (congrFun (congrFun (gU_k (by decide)) 0) 12)))))]; omega) (by rw [show (st_25 0 0 14).toInt = (st_19 0 0 14).toInt from (congrArg Int32.toInt ((((congrFun (congrFun (congrFun est_25 0) 0) 14).trans (congrFun (congrFun (gU_k (by decide)) 0) 14)).trans ((congrFun (congrFun (congrFun est_23 0) 0) 14).trans (congrFun (congrFun (gU_k (by decide)) 0) 14)))))]; omega)) hw_32_0 (by rw [show st_32 14 0 = (upd (sv10 14 0) (x_16.toNatClampNeg) ((st_13 0 0 18) : Int32)) from ((funext (fun j9 => n_32.2 14 0 j9 (show (1400 : Nat) ∉ _ from by decide))).trans ((congrFun (congrFun est_25 14) 0).trans ((congrFun (gU_k (by decide)) 0).trans ((congrFun (congrFun est_23 14) 0).trans ((congrFun (gU_k (by decide)) 0).trans ((funext (fun j9 => n_19.2 14 0 j9 (show (1400 : Nat) ∉ _ from by decide))).trans ((congrFun (congrFun est_18 14) 0).trans ((gU_at _ _ _ _ _).trans (congrArg (fun f9 => upd f9 (x_16.toNatClampNeg) ((st_13 0 0 18) : Int32)) ((funext (fun j9 => n_13.2 14 0 j9 (show (1400 : Nat) ∉ _ from by decide))).trans rfl)))))))))), show x_16.toNatClampNeg = 8 * x.toNatClampNeg + sh.length from (by have h8 := gs_cl (x := x) (by omega); have h9 := gs_cl (x := x_16) (by omega); omega)]) (by rw [show st_32 15 0 = (upd (sv10 15 0) (x_21.toNatClampNeg) ((st_19 0 0 18) : Int32)) from ((funext (fun j9 => n_32.2 15 0 j9 (show (1500 : Nat) ∉ _ from by decide))).trans ((congrFun (congrFun est_25 15) 0).trans ((congrFun (gU_k (by decide)) 0).trans ((congrFun (congrFun est_23 15) 0).trans ((gU_at _ _ _ _ _).trans (congrArg (fun f9 => upd f9 (x_21.toNatClampNeg) ((st_19 0 0 18) : Int32)) ((funext (fun j9 => n_19.2 15 0 j9 (show (1500 : Nat) ∉ _ from by decide))).trans ((congrFun (congrFun est_18 15) 0).trans ((congrFun (gU_k (by decide)) 0).trans ((funext (fun j9 => n_13.2 15 0 j9 (show (1500 : Nat) ∉ _ from by decide))).trans rfl)))))))))), show x_21.toNatClampNeg = 8 * x.toNatClampNeg + sh.length from (by have h8 := gs_cl (x := x) (by omega); have h9 := gs_cl (x := x_21) (by omega); omega)])) hM hS (lv_sub hl [0, 1, 3, 4] rfl)
                      · skip
                        refine lv_if_ne (tgt := 147) hx hb dX10_turns_142 (by decide) (fun h9 => absurd (by decide) h9) (fun _ => ?_)
                        refine lv_iconst (v := 0) hx hb dX10_turns_145 (by decide) ?_
                        rw [← hQe]
                        exact gs_iret hx hb hr hlocks hM hS (by decide) ⟨hB_st_19, (Or.inr ⟨rfl, (by unfold pTurnsB; exact obM hw_1_0_p0 ((if_neg (LM.not (LM.frame hLM n_1.2 (by decide)) hv5_1 (by omega))).trans (obM hw_9_0_p0 (obN (shI.no hs4 (shB_nn hw_13_0_p0 hw_19_0)))))), (mO.trans (by rw [est_18]; exact mO.up (mO.trans hv10_2 (mO.frame n_13.2 (by decide))) (fun h9 => absurd h9 (by decide)) (fun _ => by have h8 := gs_cl (x := x) (by omega); have h9 := gs_cl (x := x_16) (by omega); omega)) (mO.frame n_19.2 (by decide)))⟩)⟩ (by exact Nat.le_refl _) (by exact Nat.le_refl _) dX10_turns_146
                    · have ic_14 := gz_eqn (rfl : y10_0.toInt = y10_0.toInt) (by decide : (8 : Int32).toInt = 8) c_14
                      refine lv_aload_n hx hb dX10_turns_112 rfl (lv_at hl 3 rfl) ?_
                      refine lv_iconst (v := 4) hx hb dX10_turns_113 (by decide) ?_
                      refine lv_iload hx hb dX10_turns_114 (lv_at hl 0 rfl) ?_
                      refine gs_calli (va_runV (As := [.int 4, .int (sv10 0 0 13)]) (rest := []) ⟨hx, hb, hml, hown, hts⟩ (m_wrong l G cy sK sV ad H.size st_13 hB_st_13.1 (4 : Int32) (sv10 0 0 13) ) ⟨(gz_cb (n := 2) hts gm_1131 gm_12 gm_1134 ⟨by decide +kernel, by decide +kernel, by decide +kernel⟩ ⟨Nat.le_of_ble_eq_true rfl, Nat.le_of_ble_eq_true rfl⟩), hts _ gm_1133, hts _ gs_37⟩ (gs_preV hK hov hE hI hM hm hS hA 0 0 (by decide) rfl rfl) rfl rfl hl.1 rfl (lv_room (Nat.le_of_ble_eq_true rfl)) dX10_turns_116 ⟨Nat.le_of_ble_eq_true rfl, Nat.le_of_ble_eq_true rfl⟩) hm hS hA (fun r_33 st_33 H locs hw_33 hM hS => ?_)
                      obtain ⟨n_33, hw_33⟩ := hw_33
                      have hB_st_33 : gBN bM kM [11, 12, 13, 14, 15, 16, 17, 18, 19, 59, 900, 1300, 1400, 1500] st st_33 := hB_st_13.call n_33 (by decide)
                      obtain rfl := hw_33
                      rw [← hQe]
                      exact gs_iret hx hb hr hlocks hM hS (by decide) ⟨hB_st_33, (Or.inr ⟨rfl, (by unfold pTurnsB; exact obM hw_1_0_p0 ((if_neg (LM.not (LM.frame hLM n_1.2 (by decide)) hv5_1 (by omega))).trans (obM hw_9_0_p0 (obN (shI.no hs4 (by rw [show (8 - y10_0.toInt).toNat = 0 by omega]; rfl)))))), (mO.trans (mO.trans hv10_2 (mO.frame n_13.2 (by decide))) (mO.frame n_33.2 (by decide)))⟩)⟩ (by exact Nat.le_refl _) (by exact Nat.le_refl _) dX10_turns_119
                  · skip
                    refine lv_if_ne (tgt := 106) hx hb dX10_turns_101 (by decide) (fun h9 => absurd (by decide) h9) (fun _ => ?_)
                    refine lv_iconst (v := 0) hx hb dX10_turns_104 (by decide) ?_
                    rw [← hQe]
                    exact gs_iret hx hb hr hlocks hM hS (by decide) ⟨hB_st_13, (Or.inr ⟨rfl, (by unfold pTurnsB; exact obM hw_1_0_p0 ((if_neg (LM.not (LM.frame hLM n_1.2 (by decide)) hv5_1 (by omega))).trans (obM hw_9_0_p0 (obN (shI.no hs4 (shB_nc hw_13_0)))))), (mO.trans hv10_2 (mO.frame n_13.2 (by decide)))⟩)⟩ (by exact Nat.le_refl _) (by exact Nat.le_refl _) dX10_turns_105
            exact lp10 ((9 - ((0 : Int32) : Int32).toInt).toNat + ((1 : Int32) : Int32).toInt.toNat + 1) st_9 ((0 : Int32) : Int32) ((1 : Int32) : Int32) H _ ls (Nat.lt_succ_self _) hB_st_9 (by have hl0 : (0 : Int32).toInt = 0 := (by decide); have hl1 : (1 : Int32).toInt = 1 := (by decide); omega) (by have hl0 : (0 : Int32).toInt = 0 := (by decide); have hl1 : (1 : Int32).toInt = 1 := (by decide); omega) (mO.trans (by rw [est_8]; exact mO.up (mO.trans mO.rf (mO.frame n_1.2 (by decide))) (by first | (intro _; rfl) | (intro h9; exact absurd h9 (by decide)) | (intro _; omega)) (by first | (intro h9; exact absurd h9 (by decide)) | (intro _; omega))) (mO.frame n_9.2 (by decide))) (by rw [show (st_9 9 0 (x.toNatClampNeg)).toInt = (st_1 0 0 18).toInt from (congrArg Int32.toInt (((n_9.2 9 0 (x.toNatClampNeg) (show (900 : Nat) ∉ _ from by decide)).trans ((congrFun (congrFun (congrFun est_8 9) 0) (x.toNatClampNeg)).trans (gU_same _ _ _ _ _)))))]; all_goals first | rfl | omega) (by have hl0 : (0 : Int32).toInt = 0 := (by decide); have hl1 : (1 : Int32).toInt = 1 := (by decide); omega) (by rw [show (0 : Int32).toInt = 0 from by decide, show (1 : Int32).toInt = 1 from by decide]; exact shI.new hw_9_0_p1) hM hS (lv_sub hl [0, 1, 2, 3] rfl)
          · skip
            refine lv_if_ne (tgt := 83) hx hb dX10_turns_78 (by decide) (fun h9 => absurd (by decide) h9) (fun _ => ?_)
            refine lv_iconst (v := 0) hx hb dX10_turns_81 (by decide) ?_
            rw [← hQe]
            exact gs_iret hx hb hr hlocks hM hS (by decide) ⟨hB_st_9, (Or.inr ⟨rfl, (by unfold pTurnsB; exact obM hw_1_0_p0 ((if_neg (LM.not (LM.frame hLM n_1.2 (by decide)) hv5_1 (by omega))).trans (obN hw_9_0))), (mO.trans (by rw [est_8]; exact mO.up (mO.trans mO.rf (mO.frame n_1.2 (by decide))) (by first | (intro _; rfl) | (intro h9; exact absurd h9 (by decide)) | (intro _; omega)) (by first | (intro h9; exact absurd h9 (by decide)) | (intro _; omega))) (mO.frame n_9.2 (by decide)))⟩)⟩ (by exact Nat.le_refl _) (by exact Nat.le_refl _) dX10_turns_82
        · have ic_6 := gz_nle (rfl : x.toInt = x.toInt) (rfl : y5_0.toInt = y5_0.toInt) c_6
          have lc_6 := gi_hi x
          refine lv_aload_n hx hb dX10_turns_24 rfl (lv_at hl 1 rfl) ?_
          refine gs_get (C := RX10) (T := TX10) (N := 59) hx hb hts inX10 hown hK hM 0 0 20 (by decide) rfl rfl (by decide) (hts _ gm_921) (fun _ h9 => h9) rfl dX10_turns_25 ?_
          refine lv_iload_n hx hb dX10_turns_28 rfl (lv_at hl 0 rfl) ?_
          refine gs_iald hx hb hK hM 8 0 (by decide) rfl (vp_in_iff.mpr ⟨by omega, by omega⟩) dX10_turns_29 ?_
          refine lv_topi (fun x_34 ex_34 => ?_)
          have qx_34 : x_34.toInt = (st_1 8 0 (y5_0.toNatClampNeg)).toInt := congrArg Int32.toInt ex_34
          have rx_34 : x_34.toInt = ((st 8 0 (y5_0.toNatClampNeg)) : Int32).toInt := by rw [ex_34]; exact congrArg Int32.toInt ((n_1.2 8 0 (y5_0.toNatClampNeg) (show (800 : Nat) ∉ _ from by decide)))
          refine lv_if_ne (tgt := 56) hx hb dX10_turns_30 (by decide) (fun c_35 => ?_) (fun c_35 => ?_)
          · have ic_35 := gz_ne (rfl : x_34.toInt = x_34.toInt) (by decide : (0 : Int32).toInt = 0) c_35
            obtain ⟨x_36, ex_36⟩ : ∃ y : Int32, y = y5_0 + 1 := ⟨_, rfl⟩
            try have tx_36 : x_36.toInt = y5_0.toInt + 1 := by rw [ex_36]; exact gz_addP (x := y5_0.toInt) (y := 1) rfl (by decide) (by omega) (by omega)
            refine lv_iinc (v := (x_36)) (lv' := [(2, .int x_36), (0, .ref (ad 0 0)), (1, .int x)]) hx hb dX10_turns_56 hl (k := 0) rfl (by rw [ex_36]; rfl) (by decide) rfl (fun ls hl => ?_)
            refine lv_goto (tgt := 19) hx hb dX10_turns_59 (by decide) ?_
            exact ih_5  (x_36 : Int32) H _ ls (by omega)  (by omega) (noT.step hv5_1 (by omega) (by omega) (by omega)) hM hS (lv_sub hl [0, 1, 2] rfl)
          · have ic_35 := gz_eqn (rfl : x_34.toInt = x_34.toInt) (by decide : (0 : Int32).toInt = 0) c_35
            refine lv_aload_n hx hb dX10_turns_33 rfl (lv_at hl 1 rfl) ?_
            refine gs_get (C := RX10) (T := TX10) (N := 59) hx hb hts inX10 hown hK hM 0 0 21 (by decide) rfl rfl (by decide) (hts _ gm_922) (fun _ h9 => h9) rfl dX10_turns_34 ?_
            refine lv_iload_n hx hb dX10_turns_37 rfl (lv_at hl 0 rfl) ?_
            refine gs_iald hx hb hK hM 9 0 (by decide) rfl (vp_in_iff.mpr ⟨by omega, by omega⟩) dX10_turns_38 ?_
            refine lv_topi (fun x_37 ex_37 => ?_)
            have qx_37 : x_37.toInt = (st_1 9 0 (y5_0.toNatClampNeg)).toInt := congrArg Int32.toInt ex_37
            have bx_37 : (0 : Int) ≤ x_37.toInt ∧ x_37.toInt ≤ (5 : Int) := by rw [qx_37]; exact hB_st_1.1 9 0 (y5_0.toNatClampNeg)
            have rx_37 : x_37.toInt = ((st 9 0 (y5_0.toNatClampNeg)) : Int32).toInt := by rw [ex_37]; exact congrArg Int32.toInt ((n_1.2 9 0 (y5_0.toNatClampNeg) (show (900 : Nat) ∉ _ from by decide)))
            refine lv_aload_n hx hb dX10_turns_39 rfl (lv_at hl 1 rfl) ?_
            refine gs_get (C := RX10) (T := TX10) (N := 59) hx hb hts inX10 hown hK hM 0 0 18 (by decide) rfl rfl (by decide) (hts _ gm_919) (fun _ h9 => h9) rfl dX10_turns_40 ?_
            refine lv_icmp_ne (tgt := 56) hx hb dX10_turns_43 (by decide) (fun c_39 => ?_) (fun c_39 => ?_)
            · have ic_39 := gz_ne (rfl : x_37.toInt = x_37.toInt) (rfl : (st_1 0 0 18).toInt = (st_1 0 0 18).toInt) c_39
              obtain ⟨x_40, ex_40⟩ : ∃ y : Int32, y = y5_0 + 1 := ⟨_, rfl⟩
              try have tx_40 : x_40.toInt = y5_0.toInt + 1 := by rw [ex_40]; exact gz_addP (x := y5_0.toInt) (y := 1) rfl (by decide) (by omega) (by omega)
              refine lv_iinc (v := (x_40)) (lv' := [(2, .int x_40), (0, .ref (ad 0 0)), (1, .int x)]) hx hb dX10_turns_56 hl (k := 0) rfl (by rw [ex_40]; rfl) (by decide) rfl (fun ls hl => ?_)
              refine lv_goto (tgt := 19) hx hb dX10_turns_59 (by decide) ?_
              exact ih_5  (x_40 : Int32) H _ ls (by omega)  (by omega) (noT.step hv5_1 (by omega) (by omega) (by omega)) hM hS (lv_sub hl [0, 1, 2] rfl)
            · have ic_39 := gz_eqn (rfl : x_37.toInt = x_37.toInt) (rfl : (st_1 0 0 18).toInt = (st_1 0 0 18).toInt) c_39
              refine lv_aload_n hx hb dX10_turns_46 rfl (lv_at hl 1 rfl) ?_
              refine lv_iconst (v := 3) hx hb dX10_turns_47 (by decide) ?_
              refine lv_aload_n hx hb dX10_turns_48 rfl (lv_at hl 1 rfl) ?_
              refine gs_get (C := RX10) (T := TX10) (N := 59) hx hb hts inX10 hown hK hM 0 0 19 (by decide) rfl rfl (by decide) (hts _ gm_920) (fun _ h9 => h9) rfl dX10_turns_49 ?_
              refine gs_calli (va_runV (As := [.int 3, .int (st_1 0 0 19)]) (rest := []) ⟨hx, hb, hml, hown, hts⟩ (m_wrong l G cy sK sV ad H.size st_1 hB_st_1.1 (3 : Int32) (st_1 0 0 19) ) ⟨(gz_cb (n := 2) hts gm_1131 gm_12 gm_1134 ⟨by decide +kernel, by decide +kernel, by decide +kernel⟩ ⟨Nat.le_of_ble_eq_true rfl, Nat.le_of_ble_eq_true rfl⟩), hts _ gm_1133, hts _ gs_37⟩ (gs_preV hK hov hE hI hM hm hS hA 0 0 (by decide) rfl rfl) rfl rfl hl.1 rfl (lv_room (Nat.le_of_ble_eq_true rfl)) dX10_turns_52 ⟨Nat.le_of_ble_eq_true rfl, Nat.le_of_ble_eq_true rfl⟩) hm hS hA (fun r_42 st_42 H locs hw_42 hM hS => ?_)
              obtain ⟨n_42, hw_42⟩ := hw_42
              have hB_st_42 : gBN bM kM [11, 12, 13, 14, 15, 16, 17, 18, 19, 59, 900, 1300, 1400, 1500] st st_42 := hB_st_1.call n_42 (by decide)
              obtain rfl := hw_42
              rw [← hQe]
              exact gs_iret hx hb hr hlocks hM hS (by decide) ⟨hB_st_42, (Or.inr ⟨rfl, (by unfold pTurnsB; exact obM hw_1_0_p0 (if_pos (LM.yes (LM.frame hLM n_1.2 (by decide)) (by omega) (by omega) (by omega) (by omega)))), (mO.trans (mO.trans mO.rf (mO.frame n_1.2 (by decide))) (mO.frame n_42.2 (by decide)))⟩)⟩ (by exact Nat.le_refl _) (by exact Nat.le_refl _) dX10_turns_55
    exact lp5 ((Xx - (x_4 : Int32).toInt).toNat + 1)  (x_4 : Int32) H _ ls (Nat.lt_succ_self _)  (by omega) (noT.nil (by omega)) hM hS (lv_sub hl [0, 1, 2] rfl)
  · skip
    refine lv_if_ne (tgt := 11) hx hb dX10_turns_6 (by decide) (fun h9 => absurd (by decide) h9) (fun _ => ?_)
    refine lv_iconst (v := 0) hx hb dX10_turns_9 (by decide) ?_
    rw [← hQe]
    exact gs_iret hx hb hr hlocks hM hS (by decide) ⟨hB_st_1, (Or.inr ⟨rfl, (by unfold pTurnsB; exact obN hw_1_0), (mO.trans mO.rf (mO.frame n_1.2 (by decide)))⟩)⟩ (by exact Nat.le_refl _) (by exact Nat.le_refl _) dX10_turns_10
