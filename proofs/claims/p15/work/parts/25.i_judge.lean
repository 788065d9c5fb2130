theorem dX10_judge_0 : decode cX10_judge 0 = .ok (.aload_n 0, 1) := by decide +kernel
theorem dX10_judge_1 : decode cX10_judge 1 = .ok (.iconst 0, 1) := by decide +kernel
theorem dX10_judge_2 : decode cX10_judge 2 = .ok (.putfield 1, 3) := by decide +kernel
theorem dX10_judge_5 : decode cX10_judge 5 = .ok (.iload_n 1, 1) := by decide +kernel
theorem dX10_judge_6 : decode cX10_judge 6 = .ok (.invokestatic 278, 3) := by decide +kernel
theorem dX10_judge_9 : decode cX10_judge 9 = .ok (.ifCond .eq 14, 3) := by decide +kernel
theorem dX10_judge_12 : decode cX10_judge 12 = .ok (.iload 5, 2) := by decide +kernel
theorem dX10_judge_14 : decode cX10_judge 14 = .ok (.ifCond .lt 9, 3) := by decide +kernel
theorem dX10_judge_17 : decode cX10_judge 17 = .ok (.iload 5, 2) := by decide +kernel
theorem dX10_judge_19 : decode cX10_judge 19 = .ok (.iconst 3, 1) := by decide +kernel
theorem dX10_judge_20 : decode cX10_judge 20 = .ok (.if_icmp .le 5, 3) := by decide +kernel
theorem dX10_judge_23 : decode cX10_judge 23 = .ok (.iconst (-1), 1) := by decide +kernel
theorem dX10_judge_24 : decode cX10_judge 24 = .ok (.ireturn, 1) := by decide +kernel
theorem dX10_judge_25 : decode cX10_judge 25 = .ok (.iconst 0, 1) := by decide +kernel
theorem dX10_judge_26 : decode cX10_judge 26 = .ok (.istore 6, 2) := by decide +kernel
theorem dX10_judge_28 : decode cX10_judge 28 = .ok (.iconst 0, 1) := by decide +kernel
theorem dX10_judge_29 : decode cX10_judge 29 = .ok (.istore 7, 2) := by decide +kernel
theorem dX10_judge_31 : decode cX10_judge 31 = .ok (.iconst 0, 1) := by decide +kernel
theorem dX10_judge_32 : decode cX10_judge 32 = .ok (.istore 8, 2) := by decide +kernel
theorem dX10_judge_34 : decode cX10_judge 34 = .ok (.iconst 0, 1) := by decide +kernel
theorem dX10_judge_35 : decode cX10_judge 35 = .ok (.istore 9, 2) := by decide +kernel
theorem dX10_judge_37 : decode cX10_judge 37 = .ok (.iconst 0, 1) := by decide +kernel
theorem dX10_judge_38 : decode cX10_judge 38 = .ok (.istore 10, 2) := by decide +kernel
theorem dX10_judge_40 : decode cX10_judge 40 = .ok (.iload 10, 2) := by decide +kernel
theorem dX10_judge_42 : decode cX10_judge 42 = .ok (.aload_n 0, 1) := by decide +kernel
theorem dX10_judge_43 : decode cX10_judge 43 = .ok (.getfield 287, 3) := by decide +kernel
theorem dX10_judge_46 : decode cX10_judge 46 = .ok (.if_icmp .ge 175, 3) := by decide +kernel
theorem dX10_judge_49 : decode cX10_judge 49 = .ok (.aload_n 0, 1) := by decide +kernel
theorem dX10_judge_50 : decode cX10_judge 50 = .ok (.getfield 67, 3) := by decide +kernel
theorem dX10_judge_53 : decode cX10_judge 53 = .ok (.iload 10, 2) := by decide +kernel
theorem dX10_judge_55 : decode cX10_judge 55 = .ok (.iaload, 1) := by decide +kernel
theorem dX10_judge_56 : decode cX10_judge 56 = .ok (.iload_n 1, 1) := by decide +kernel
theorem dX10_judge_57 : decode cX10_judge 57 = .ok (.if_icmp .ne 158, 3) := by decide +kernel
theorem dX10_judge_60 : decode cX10_judge 60 = .ok (.aload_n 0, 1) := by decide +kernel
theorem dX10_judge_61 : decode cX10_judge 61 = .ok (.getfield 61, 3) := by decide +kernel
theorem dX10_judge_64 : decode cX10_judge 64 = .ok (.iload 10, 2) := by decide +kernel
theorem dX10_judge_66 : decode cX10_judge 66 = .ok (.iaload, 1) := by decide +kernel
theorem dX10_judge_67 : decode cX10_judge 67 = .ok (.iload_n 2, 1) := by decide +kernel
theorem dX10_judge_68 : decode cX10_judge 68 = .ok (.if_icmp .lt 147, 3) := by decide +kernel
theorem dX10_judge_71 : decode cX10_judge 71 = .ok (.aload_n 0, 1) := by decide +kernel
theorem dX10_judge_72 : decode cX10_judge 72 = .ok (.getfield 61, 3) := by decide +kernel
theorem dX10_judge_75 : decode cX10_judge 75 = .ok (.iload 10, 2) := by decide +kernel
theorem dX10_judge_77 : decode cX10_judge 77 = .ok (.iaload, 1) := by decide +kernel
theorem dX10_judge_78 : decode cX10_judge 78 = .ok (.iload_n 3, 1) := by decide +kernel
theorem dX10_judge_79 : decode cX10_judge 79 = .ok (.if_icmp .le 6, 3) := by decide +kernel
theorem dX10_judge_82 : decode cX10_judge 82 = .ok (.goto 133, 3) := by decide +kernel
theorem dX10_judge_85 : decode cX10_judge 85 = .ok (.aload_n 0, 1) := by decide +kernel
theorem dX10_judge_86 : decode cX10_judge 86 = .ok (.getfield 76, 3) := by decide +kernel
theorem dX10_judge_89 : decode cX10_judge 89 = .ok (.iload 10, 2) := by decide +kernel
theorem dX10_judge_91 : decode cX10_judge 91 = .ok (.iaload, 1) := by decide +kernel
theorem dX10_judge_92 : decode cX10_judge 92 = .ok (.ifCond .lt 19, 3) := by decide +kernel
theorem dX10_judge_95 : decode cX10_judge 95 = .ok (.aload_n 0, 1) := by decide +kernel
theorem dX10_judge_96 : decode cX10_judge 96 = .ok (.getfield 76, 3) := by decide +kernel
theorem dX10_judge_99 : decode cX10_judge 99 = .ok (.iload 10, 2) := by decide +kernel
theorem dX10_judge_101 : decode cX10_judge 101 = .ok (.iaload, 1) := by decide +kernel
theorem dX10_judge_102 : decode cX10_judge 102 = .ok (.iload 4, 2) := by decide +kernel
theorem dX10_judge_104 : decode cX10_judge 104 = .ok (.if_icmp .gt 7, 3) := by decide +kernel
theorem dX10_judge_107 : decode cX10_judge 107 = .ok (.iconst 1, 1) := by decide +kernel
theorem dX10_judge_108 : decode cX10_judge 108 = .ok (.goto 4, 3) := by decide +kernel
theorem dX10_judge_111 : decode cX10_judge 111 = .ok (.iconst 0, 1) := by decide +kernel
theorem dX10_judge_112 : decode cX10_judge 112 = .ok (.istore 11, 2) := by decide +kernel
theorem dX10_judge_114 : decode cX10_judge 114 = .ok (.iload 6, 2) := by decide +kernel
theorem dX10_judge_116 : decode cX10_judge 116 = .ok (.aload_n 0, 1) := by decide +kernel
theorem dX10_judge_117 : decode cX10_judge 117 = .ok (.getfield 70, 3) := by decide +kernel
theorem dX10_judge_120 : decode cX10_judge 120 = .ok (.iload 10, 2) := by decide +kernel
theorem dX10_judge_122 : decode cX10_judge 122 = .ok (.iaload, 1) := by decide +kernel
theorem dX10_judge_123 : decode cX10_judge 123 = .ok (.iadd, 1) := by decide +kernel
theorem dX10_judge_124 : decode cX10_judge 124 = .ok (.istore 6, 2) := by decide +kernel
theorem dX10_judge_126 : decode cX10_judge 126 = .ok (.iload 7, 2) := by decide +kernel
theorem dX10_judge_128 : decode cX10_judge 128 = .ok (.aload_n 0, 1) := by decide +kernel
theorem dX10_judge_129 : decode cX10_judge 129 = .ok (.getfield 73, 3) := by decide +kernel
theorem dX10_judge_132 : decode cX10_judge 132 = .ok (.iload 10, 2) := by decide +kernel
theorem dX10_judge_134 : decode cX10_judge 134 = .ok (.iaload, 1) := by decide +kernel
theorem dX10_judge_135 : decode cX10_judge 135 = .ok (.ifCond .ne 13, 3) := by decide +kernel
theorem dX10_judge_138 : decode cX10_judge 138 = .ok (.aload_n 0, 1) := by decide +kernel
theorem dX10_judge_139 : decode cX10_judge 139 = .ok (.getfield 70, 3) := by decide +kernel
theorem dX10_judge_142 : decode cX10_judge 142 = .ok (.iload 10, 2) := by decide +kernel
theorem dX10_judge_144 : decode cX10_judge 144 = .ok (.iaload, 1) := by decide +kernel
theorem dX10_judge_145 : decode cX10_judge 145 = .ok (.goto 4, 3) := by decide +kernel
theorem dX10_judge_148 : decode cX10_judge 148 = .ok (.iconst 0, 1) := by decide +kernel
theorem dX10_judge_149 : decode cX10_judge 149 = .ok (.iadd, 1) := by decide +kernel
theorem dX10_judge_150 : decode cX10_judge 150 = .ok (.istore 7, 2) := by decide +kernel
theorem dX10_judge_152 : decode cX10_judge 152 = .ok (.iload 8, 2) := by decide +kernel
theorem dX10_judge_154 : decode cX10_judge 154 = .ok (.aload_n 0, 1) := by decide +kernel
theorem dX10_judge_155 : decode cX10_judge 155 = .ok (.getfield 73, 3) := by decide +kernel
theorem dX10_judge_158 : decode cX10_judge 158 = .ok (.iload 10, 2) := by decide +kernel
theorem dX10_judge_160 : decode cX10_judge 160 = .ok (.iaload, 1) := by decide +kernel
theorem dX10_judge_161 : decode cX10_judge 161 = .ok (.ifCond .ne 18, 3) := by decide +kernel
theorem dX10_judge_164 : decode cX10_judge 164 = .ok (.iload 11, 2) := by decide +kernel
theorem dX10_judge_166 : decode cX10_judge 166 = .ok (.ifCond .eq 13, 3) := by decide +kernel
theorem dX10_judge_169 : decode cX10_judge 169 = .ok (.aload_n 0, 1) := by decide +kernel
theorem dX10_judge_170 : decode cX10_judge 170 = .ok (.getfield 70, 3) := by decide +kernel
theorem dX10_judge_173 : decode cX10_judge 173 = .ok (.iload 10, 2) := by decide +kernel
theorem dX10_judge_175 : decode cX10_judge 175 = .ok (.iaload, 1) := by decide +kernel
theorem dX10_judge_176 : decode cX10_judge 176 = .ok (.goto 4, 3) := by decide +kernel
theorem dX10_judge_179 : decode cX10_judge 179 = .ok (.iconst 0, 1) := by decide +kernel
theorem dX10_judge_180 : decode cX10_judge 180 = .ok (.iadd, 1) := by decide +kernel
theorem dX10_judge_181 : decode cX10_judge 181 = .ok (.istore 8, 2) := by decide +kernel
theorem dX10_judge_183 : decode cX10_judge 183 = .ok (.iload 9, 2) := by decide +kernel
theorem dX10_judge_185 : decode cX10_judge 185 = .ok (.aload_n 0, 1) := by decide +kernel
theorem dX10_judge_186 : decode cX10_judge 186 = .ok (.getfield 73, 3) := by decide +kernel
theorem dX10_judge_189 : decode cX10_judge 189 = .ok (.iload 10, 2) := by decide +kernel
theorem dX10_judge_191 : decode cX10_judge 191 = .ok (.iaload, 1) := by decide +kernel
theorem dX10_judge_192 : decode cX10_judge 192 = .ok (.iconst 1, 1) := by decide +kernel
theorem dX10_judge_193 : decode cX10_judge 193 = .ok (.if_icmp .ne 18, 3) := by decide +kernel
theorem dX10_judge_196 : decode cX10_judge 196 = .ok (.iload 11, 2) := by decide +kernel
theorem dX10_judge_198 : decode cX10_judge 198 = .ok (.ifCond .eq 13, 3) := by decide +kernel
theorem dX10_judge_201 : decode cX10_judge 201 = .ok (.aload_n 0, 1) := by decide +kernel
theorem dX10_judge_202 : decode cX10_judge 202 = .ok (.getfield 70, 3) := by decide +kernel
theorem dX10_judge_205 : decode cX10_judge 205 = .ok (.iload 10, 2) := by decide +kernel
theorem dX10_judge_207 : decode cX10_judge 207 = .ok (.iaload, 1) := by decide +kernel
theorem dX10_judge_208 : decode cX10_judge 208 = .ok (.goto 4, 3) := by decide +kernel
theorem dX10_judge_211 : decode cX10_judge 211 = .ok (.iconst 0, 1) := by decide +kernel
theorem dX10_judge_212 : decode cX10_judge 212 = .ok (.iadd, 1) := by decide +kernel
theorem dX10_judge_213 : decode cX10_judge 213 = .ok (.istore 9, 2) := by decide +kernel
theorem dX10_judge_215 : decode cX10_judge 215 = .ok (.iinc 10 1, 3) := by decide +kernel
theorem dX10_judge_218 : decode cX10_judge 218 = .ok (.goto (-178), 3) := by decide +kernel
theorem dX10_judge_221 : decode cX10_judge 221 = .ok (.iconst 2, 1) := by decide +kernel
theorem dX10_judge_222 : decode cX10_judge 222 = .ok (.iload 8, 2) := by decide +kernel
theorem dX10_judge_224 : decode cX10_judge 224 = .ok (.imul, 1) := by decide +kernel
theorem dX10_judge_225 : decode cX10_judge 225 = .ok (.iload 9, 2) := by decide +kernel
theorem dX10_judge_227 : decode cX10_judge 227 = .ok (.isub, 1) := by decide +kernel
theorem dX10_judge_228 : decode cX10_judge 228 = .ok (.istore 10, 2) := by decide +kernel
theorem dX10_judge_230 : decode cX10_judge 230 = .ok (.iload 5, 2) := by decide +kernel
theorem dX10_judge_232 : decode cX10_judge 232 = .ok (.ifCond .ne 8, 3) := by decide +kernel
theorem dX10_judge_235 : decode cX10_judge 235 = .ok (.iload 6, 2) := by decide +kernel
theorem dX10_judge_237 : decode cX10_judge 237 = .ok (.goto 36, 3) := by decide +kernel
theorem dX10_judge_240 : decode cX10_judge 240 = .ok (.iload 5, 2) := by decide +kernel
theorem dX10_judge_242 : decode cX10_judge 242 = .ok (.iconst 1, 1) := by decide +kernel
theorem dX10_judge_243 : decode cX10_judge 243 = .ok (.if_icmp .ne 8, 3) := by decide +kernel
theorem dX10_judge_246 : decode cX10_judge 246 = .ok (.iload 7, 2) := by decide +kernel
theorem dX10_judge_248 : decode cX10_judge 248 = .ok (.goto 25, 3) := by decide +kernel
theorem dX10_judge_251 : decode cX10_judge 251 = .ok (.iload 5, 2) := by decide +kernel
theorem dX10_judge_253 : decode cX10_judge 253 = .ok (.iconst 2, 1) := by decide +kernel
theorem dX10_judge_254 : decode cX10_judge 254 = .ok (.if_icmp .ne 8, 3) := by decide +kernel
theorem dX10_judge_257 : decode cX10_judge 257 = .ok (.iload 8, 2) := by decide +kernel
theorem dX10_judge_259 : decode cX10_judge 259 = .ok (.goto 14, 3) := by decide +kernel
theorem dX10_judge_262 : decode cX10_judge 262 = .ok (.iload 10, 2) := by decide +kernel
theorem dX10_judge_264 : decode cX10_judge 264 = .ok (.ifCond .le 8, 3) := by decide +kernel
theorem dX10_judge_267 : decode cX10_judge 267 = .ok (.iload 10, 2) := by decide +kernel
theorem dX10_judge_269 : decode cX10_judge 269 = .ok (.goto 4, 3) := by decide +kernel
theorem dX10_judge_272 : decode cX10_judge 272 = .ok (.iconst 0, 1) := by decide +kernel
theorem dX10_judge_273 : decode cX10_judge 273 = .ok (.ireturn, 1) := by decide +kernel
set_option maxHeartbeats 4000000 in
set_option maxRecDepth 100000 in
/-- WellCourtModel.judge -/
theorem m_judge (l : Launch) (G : va_G) (cy : Nat → ClassId) (sK sV : Nat → Nat) (ad : Nat → Nat → Nat) (sz : Nat) (st : gS) (hB : gBd bM st) (x : Int32) (y : Int32) (w : Int32) (v : Int32) (t : Int32) (Xx : Int) (Xy : Int) (Xw : Int) (Xv : Int) (Xt : Int) (kx : x.toInt = Xx) (ky : y.toInt = Xy) (kw : w.toInt = Xw) (kv : v.toInt = Xv) (kt : t.toInt = Xt) : gsMi l yX10_judge cX10_judge 12 (some .int) ({ frames := 1, cells := 0, slots := 0, locals := 20 } : Room) G cy sK sV (shM cy ad) cnM ad sz [.ref (ad 0 0), .int x, .int y, .int w, .int v, .int t] st (fun (r : Int32) (u : gS) => gBN bM kM [0] st u ∧ ((((0 ≤ Xx ∧ Xx ≤ 5 ∧ 0 ≤ Xt ∧ Xt ≤ 3) ∧ ((Xt = 0 ∧ r = sW (pJa (st 16 0) (st 18 0) Xx Xy Xw) (st 19 0) (st 0 0 37).toNatClampNeg) ∨ (Xt = 1 ∧ r = sW (pJr (st 16 0) (st 18 0) (st 20 0) Xx Xy Xw 0) (st 19 0) (st 0 0 37).toNatClampNeg) ∨ (Xt = 2 ∧ r = sW (pJk (st 16 0) (st 18 0) (st 20 0) (st 21 0) Xx Xy Xw 0 Xv) (st 19 0) (st 0 0 37).toNatClampNeg) ∨ (Xt = 3 ∧ 0 < (2 * sW (pJk (st 16 0) (st 18 0) (st 20 0) (st 21 0) Xx Xy Xw 0 Xv) (st 19 0) (st 0 0 37).toNatClampNeg - sW (pJk (st 16 0) (st 18 0) (st 20 0) (st 21 0) Xx Xy Xw 1 Xv) (st 19 0) (st 0 0 37).toNatClampNeg).toInt ∧ r = (2 * sW (pJk (st 16 0) (st 18 0) (st 20 0) (st 21 0) Xx Xy Xw 0 Xv) (st 19 0) (st 0 0 37).toNatClampNeg - sW (pJk (st 16 0) (st 18 0) (st 20 0) (st 21 0) Xx Xy Xw 1 Xv) (st 19 0) (st 0 0 37).toNatClampNeg)) ∨ (Xt = 3 ∧ (2 * sW (pJk (st 16 0) (st 18 0) (st 20 0) (st 21 0) Xx Xy Xw 0 Xv) (st 19 0) (st 0 0 37).toNatClampNeg - sW (pJk (st 16 0) (st 18 0) (st 20 0) (st 21 0) Xx Xy Xw 1 Xv) (st 19 0) (st 0 0 37).toNatClampNeg).toInt ≤ 0 ∧ r.toInt = 0))) ∨ (¬ (0 ≤ Xx ∧ Xx ≤ 5 ∧ 0 ≤ Xt ∧ Xt ≤ 3) ∧ r.toInt = -1)) ∧ (frM st u))) := by
  refine gs_start (fun A => gsQi G (shM cy ad) cnM ad _ A) (by decide) (Nat.le_of_ble_eq_true rfl) ?_
  intro p e s m below meth c A ls H hx hb hr hml hlocks hown hts hK hov hE hI hM hm hS hA hl
  have hl : lv_has ls 12 [(0, .ref (ad 0 0)), (1, .int x), (2, .int y), (3, .int w), (4, .int v), (5, .int t)] := hl
  have hB_st : gBN bM kM [0] st st := gBN.rf hB
  have b37 : (0 : Int) ≤ (st 0 0 37).toInt ∧ (st 0 0 37).toInt ≤ (300 : Int) := hB 0 0 37
  generalize hQe : MQ below _ _ s _ _ A = Q
  refine lv_aload_n hx hb dX10_judge_0 rfl (lv_at hl 0 rfl) ?_
  refine lv_iconst (v := 0) hx hb dX10_judge_1 (by decide) ?_
  refine gs_put (C := RX10) (T := TX10) (N := 59) (ty := .int) (val := .int 0) hx hb hts inX10 tyX10 tyX10_ok nmX10 hown hK hI hm hM hS 0 0 0 (by decide) rfl rfl (by decide) (hts _ gm_901) (fun _ h9 => h9) rfl (0 : Int32) rfl (by decide +kernel) rfl rfl (Nat.le_of_ble_eq_true rfl) dX10_judge_2 (fun st_1 H locs est_1 hM hS => ?_)
  have hB_st_1 : gBN bM kM [0] st st_1 := by rw [est_1]; exact hB_st.up (show (0 : Nat) ∈ _ from by decide) (gi_lo _) (gi_hi _)
  refine lv_iload_n hx hb dX10_judge_5 rfl (lv_at hl 1 rfl) ?_
  refine gs_calli (va_runS (As := [.int x]) (rest := []) ⟨hx, hb, hml, hown, hts⟩ (m_isClan l G cy sK sV ad H.size st_1 hB_st_1.1 x x.toInt rfl ) ⟨(gz_cb (n := 1) hts gm_1213 gm_12 gm_1215 ⟨by decide +kernel, by decide +kernel, by decide +kernel⟩ ⟨Nat.le_of_ble_eq_true rfl, Nat.le_of_ble_eq_true rfl⟩), hts _ gm_1214⟩ (gs_preS hK hov hE hI hM hm hS hA) rfl rfl hl.1 rfl (lv_room (Nat.le_of_ble_eq_true rfl)) dX10_judge_6 ⟨Nat.le_of_ble_eq_true rfl, Nat.le_of_ble_eq_true rfl⟩) hm hS hA (fun r_2 st_2 H locs hw_2 hM hS => ?_)
  obtain ⟨n_2, hw_2⟩ := hw_2
  have n_2 := gBN.nil n_2
  subst n_2
  rcases hw_2 with ⟨rfl, hw_2_0, hw_2_1⟩ | ⟨rfl, hw_2_0⟩
  · skip
    refine lv_if_eq (tgt := 23) hx hb dX10_judge_9 (by decide) (fun h9 => absurd h9 (by decide)) (fun _ => ?_)
    refine lv_iload hx hb dX10_judge_12 (lv_at hl 5 rfl) ?_
    refine lv_if_lt (tgt := 23) hx hb dX10_judge_14 (by decide) (fun c_3 => ?_) (fun c_3 => ?_)
    · have ic_3 := gz_lt (rfl : t.toInt = t.toInt) (by decide : (0 : Int32).toInt = 0) c_3
      refine lv_iconst (v := (-1)) hx hb dX10_judge_23 (by decide) ?_
      rw [← hQe]
      exact gs_iret hx hb hr hlocks hM hS rfl ⟨hB_st_1, (Or.inr ⟨by omega, by decide⟩), (frM.up est_1)⟩ (by exact Nat.le_refl _) (by exact Nat.le_refl _) dX10_judge_24
    · have ic_3 := gz_nlt (rfl : t.toInt = t.toInt) (by decide : (0 : Int32).toInt = 0) c_3
      refine lv_iload hx hb dX10_judge_17 (lv_at hl 5 rfl) ?_
      refine lv_iconst (v := 3) hx hb dX10_judge_19 (by decide) ?_
      refine lv_icmp_le (tgt := 25) hx hb dX10_judge_20 (by decide) (fun c_4 => ?_) (fun c_4 => ?_)
      · have ic_4 := gz_le (rfl : t.toInt = t.toInt) (by decide : (3 : Int32).toInt = 3) c_4
        refine lv_iconst (v := 0) hx hb dX10_judge_25 (by decide) ?_
        refine lv_istore (lv' := [(6, .int 0), (0, .ref (ad 0 0)), (1, .int x), (2, .int y), (3, .int w), (4, .int v), (5, .int t)]) hx hb dX10_judge_26 hl (by decide) rfl (fun ls hl => ?_)
        refine lv_iconst (v := 0) hx hb dX10_judge_28 (by decide) ?_
        refine lv_istore (lv' := [(7, .int 0), (6, .int 0), (0, .ref (ad 0 0)), (1, .int x), (2, .int y), (3, .int w), (4, .int v), (5, .int t)]) hx hb dX10_judge_29 hl (by decide) rfl (fun ls hl => ?_)
        refine lv_iconst (v := 0) hx hb dX10_judge_31 (by decide) ?_
        refine lv_istore (lv' := [(8, .int 0), (7, .int 0), (6, .int 0), (0, .ref (ad 0 0)), (1, .int x), (2, .int y), (3, .int w), (4, .int v), (5, .int t)]) hx hb dX10_judge_32 hl (by decide) rfl (fun ls hl => ?_)
        refine lv_iconst (v := 0) hx hb dX10_judge_34 (by decide) ?_
        refine lv_istore (lv' := [(9, .int 0), (8, .int 0), (7, .int 0), (6, .int 0), (0, .ref (ad 0 0)), (1, .int x), (2, .int y), (3, .int w), (4, .int v), (5, .int t)]) hx hb dX10_judge_35 hl (by decide) rfl (fun ls hl => ?_)
        refine lv_iconst (v := 0) hx hb dX10_judge_37 (by decide) ?_
        refine lv_istore (lv' := [(10, .int 0), (9, .int 0), (8, .int 0), (7, .int 0), (6, .int 0), (0, .ref (ad 0 0)), (1, .int x), (2, .int y), (3, .int w), (4, .int v), (5, .int t)]) hx hb dX10_judge_38 hl (by decide) rfl (fun ls hl => ?_)
        have lp5 : ∀ (n5 : Nat)  (y5_0 : Int32) (y5_1 : Int32) (y5_2 : Int32) (y5_3 : Int32) (y5_4 : Int32) (H : Heap) (locs : List Loc) (ls : Array Slot), (300 - y5_4.toInt).toNat < n5 →  (0 ≤ y5_4.toInt) → (y5_4.toInt ≤ (st 0 0 37).toInt) → (y5_0 = sW (pJa (st 16 0) (st 18 0) Xx Xy Xw) (st 19 0) y5_4.toNatClampNeg) → (y5_1 = sW (pJr (st 16 0) (st 18 0) (st 20 0) Xx Xy Xw 0) (st 19 0) y5_4.toNatClampNeg) → (y5_2 = sW (pJk (st 16 0) (st 18 0) (st 20 0) (st 21 0) Xx Xy Xw 0 Xv) (st 19 0) y5_4.toNatClampNeg) → (y5_3 = sW (pJk (st 16 0) (st 18 0) (st 20 0) (st 21 0) Xx Xy Xw 1 Xv) (st 19 0) y5_4.toNatClampNeg) → gM G (shM cy ad) cnM ad st_1 H → va_S A s.heap H locs → lv_has ls 12 [(10, .int y5_4), (9, .int y5_3), (8, .int y5_2), (7, .int y5_1), (6, .int y5_0), (0, .ref (ad 0 0)), (1, .int x), (2, .int y), (3, .int w), (4, .int v), (5, .int t)] → W p l e ({ frames := 1, cells := 0, slots := 0, locals := 20 } : Room) s m [.ref (ad 0 0), .int x, .int y, .int w, .int v, .int t].toArray below meth c H locs 0 0 Q (F0 m 40 ls []) := by
          intro n5
          induction n5 with
          | zero => intro  y5_0 y5_1 y5_2 y5_3 y5_4 H locs ls h9; exact absurd h9 (Nat.not_lt_zero _)
          | succ n5 ih_5 =>
            intro  y5_0 y5_1 y5_2 y5_3 y5_4 H locs ls hme5  hv5_0 hv5_1 hv5_2 hv5_3 hv5_4 hv5_5 hM hS hl
            have hb5_0 : (0 : Int) ≤ (st 0 0 37).toInt ∧ (st 0 0 37).toInt ≤ (300 : Int) := hB_st.1 0 0 37
            refine lv_iload hx hb dX10_judge_40 (lv_at hl 0 rfl) ?_
            refine lv_aload_n hx hb dX10_judge_42 rfl (lv_at hl 5 rfl) ?_
            refine gs_get (C := RX10) (T := TX10) (N := 59) hx hb hts inX10 hown hK hM 0 0 37 (by decide) rfl rfl (by decide) (hts _ gm_938) (fun _ h9 => h9) rfl dX10_judge_43 ?_
            refine lv_topi (fun x_6 ex_6 => ?_)
            have ex_6 : (st 0 0 37) = x_6 := Eq.symm (ex_6.trans ((congrFun (congrFun (congrFun est_1 0) 0) 37).trans (gU_other (by decide))))
            subst ex_6
            have bf_7 : (0 : Int) ≤ (st 0 0 37).toInt ∧ (st 0 0 37).toInt ≤ (300 : Int) := hB_st.1 0 0 37
            refine lv_icmp_ge (tgt := 221) hx hb dX10_judge_46 (by decide) (fun c_8 => ?_) (fun c_8 => ?_)
            · have ic_8 := gz_le (rfl : (st 0 0 37).toInt = (st 0 0 37).toInt) (rfl : y5_4.toInt = y5_4.toInt) c_8
              refine lv_iconst (v := 2) hx hb dX10_judge_221 (by decide) ?_
              refine lv_iload hx hb dX10_judge_222 (lv_at hl 2 rfl) ?_
              refine lv_imul hx hb dX10_judge_224 ?_
              refine lv_topi (fun x_9 ex_9 => ?_)
              refine lv_iload hx hb dX10_judge_225 (lv_at hl 1 rfl) ?_
              refine lv_isub hx hb dX10_judge_227 ?_
              refine lv_topi (fun x_10 ex_10 => ?_)
              refine lv_istore (lv' := [(10, .int x_10), (9, .int y5_3), (8, .int y5_2), (7, .int y5_1), (6, .int y5_0), (0, .ref (ad 0 0)), (1, .int x), (2, .int y), (3, .int w), (4, .int v), (5, .int t)]) hx hb dX10_judge_228 hl (by decide) rfl (fun ls hl => ?_)
              refine lv_iload hx hb dX10_judge_230 (lv_at hl 10 rfl) ?_
              refine lv_if_ne (tgt := 240) hx hb dX10_judge_232 (by decide) (fun c_11 => ?_) (fun c_11 => ?_)
              · have ic_11 := gz_ne (rfl : t.toInt = t.toInt) (by decide : (0 : Int32).toInt = 0) c_11
                refine lv_iload hx hb dX10_judge_240 (lv_at hl 10 rfl) ?_
                refine lv_iconst (v := 1) hx hb dX10_judge_242 (by decide) ?_
                refine lv_icmp_ne (tgt := 251) hx hb dX10_judge_243 (by decide) (fun c_12 => ?_) (fun c_12 => ?_)
                · have ic_12 := gz_ne (rfl : t.toInt = t.toInt) (by decide : (1 : Int32).toInt = 1) c_12
                  refine lv_iload hx hb dX10_judge_251 (lv_at hl 10 rfl) ?_
                  refine lv_iconst (v := 2) hx hb dX10_judge_253 (by decide) ?_
                  refine lv_icmp_ne (tgt := 262) hx hb dX10_judge_254 (by decide) (fun c_13 => ?_) (fun c_13 => ?_)
                  · have ic_13 := gz_ne (rfl : t.toInt = t.toInt) (by decide : (2 : Int32).toInt = 2) c_13
                    refine lv_iload hx hb dX10_judge_262 (lv_at hl 0 rfl) ?_
                    refine lv_if_le (tgt := 272) hx hb dX10_judge_264 (by decide) (fun c_14 => ?_) (fun c_14 => ?_)
                    · have ic_14 := gz_le (rfl : x_10.toInt = x_10.toInt) (by decide : (0 : Int32).toInt = 0) c_14
                      refine lv_iconst (v := 0) hx hb dX10_judge_272 (by decide) ?_
                      rw [← hQe]
                      exact gs_iret hx hb hr hlocks hM hS rfl ⟨hB_st_1, (by have c_y5_4 := gs_cl (x := y5_4) (by omega); have c_37 := gs_cl (x := st 0 0 37) (by omega); have hn9 : y5_4.toNatClampNeg = (st 0 0 37).toNatClampNeg := (by omega); have g0 : y5_0 = sW (pJa (st 16 0) (st 18 0) Xx Xy Xw) (st 19 0) (st 0 0 37).toNatClampNeg := (by have h9 := hv5_2; rw [hn9] at h9; exact h9); have g1 : y5_1 = sW (pJr (st 16 0) (st 18 0) (st 20 0) Xx Xy Xw 0) (st 19 0) (st 0 0 37).toNatClampNeg := (by have h9 := hv5_3; rw [hn9] at h9; exact h9); have g2 : y5_2 = sW (pJk (st 16 0) (st 18 0) (st 20 0) (st 21 0) Xx Xy Xw 0 Xv) (st 19 0) (st 0 0 37).toNatClampNeg := (by have h9 := hv5_4; rw [hn9] at h9; exact h9); have g3 : y5_3 = sW (pJk (st 16 0) (st 18 0) (st 20 0) (st 21 0) Xx Xy Xw 1 Xv) (st 19 0) (st 0 0 37).toNatClampNeg := (by have h9 := hv5_5; rw [hn9] at h9; exact h9); have eo : x_10 = 2 * sW (pJk (st 16 0) (st 18 0) (st 20 0) (st 21 0) Xx Xy Xw 0 Xv) (st 19 0) (st 0 0 37).toNatClampNeg - sW (pJk (st 16 0) (st 18 0) (st 20 0) (st 21 0) Xx Xy Xw 1 Xv) (st 19 0) (st 0 0 37).toNatClampNeg := (by rw [ex_10, ex_9, g2, g3]); exact Or.inl ⟨⟨by omega, by omega, by omega, by omega⟩, Or.inr (Or.inr (Or.inr (Or.inr (⟨by omega, by rw [← eo]; omega, by decide⟩))))⟩), (frM.up est_1)⟩ (by exact Nat.le_refl _) (by exact Nat.le_refl _) dX10_judge_273
                    · have ic_14 := gz_nle (rfl : x_10.toInt = x_10.toInt) (by decide : (0 : Int32).toInt = 0) c_14
                      refine lv_iload hx hb dX10_judge_267 (lv_at hl 0 rfl) ?_
                      refine lv_goto (tgt := 273) hx hb dX10_judge_269 (by decide) ?_
                      rw [← hQe]
                      exact gs_iret hx hb hr hlocks hM hS rfl ⟨hB_st_1, (by have c_y5_4 := gs_cl (x := y5_4) (by omega); have c_37 := gs_cl (x := st 0 0 37) (by omega); have hn9 : y5_4.toNatClampNeg = (st 0 0 37).toNatClampNeg := (by omega); have g0 : y5_0 = sW (pJa (st 16 0) (st 18 0) Xx Xy Xw) (st 19 0) (st 0 0 37).toNatClampNeg := (by have h9 := hv5_2; rw [hn9] at h9; exact h9); have g1 : y5_1 = sW (pJr (st 16 0) (st 18 0) (st 20 0) Xx Xy Xw 0) (st 19 0) (st 0 0 37).toNatClampNeg := (by have h9 := hv5_3; rw [hn9] at h9; exact h9); have g2 : y5_2 = sW (pJk (st 16 0) (st 18 0) (st 20 0) (st 21 0) Xx Xy Xw 0 Xv) (st 19 0) (st 0 0 37).toNatClampNeg := (by have h9 := hv5_4; rw [hn9] at h9; exact h9); have g3 : y5_3 = sW (pJk (st 16 0) (st 18 0) (st 20 0) (st 21 0) Xx Xy Xw 1 Xv) (st 19 0) (st 0 0 37).toNatClampNeg := (by have h9 := hv5_5; rw [hn9] at h9; exact h9); have eo : x_10 = 2 * sW (pJk (st 16 0) (st 18 0) (st 20 0) (st 21 0) Xx Xy Xw 0 Xv) (st 19 0) (st 0 0 37).toNatClampNeg - sW (pJk (st 16 0) (st 18 0) (st 20 0) (st 21 0) Xx Xy Xw 1 Xv) (st 19 0) (st 0 0 37).toNatClampNeg := (by rw [ex_10, ex_9, g2, g3]); exact Or.inl ⟨⟨by omega, by omega, by omega, by omega⟩, Or.inr (Or.inr (Or.inr (Or.inl (⟨by omega, by rw [← eo]; omega, eo⟩))))⟩), (frM.up est_1)⟩ (by exact Nat.le_refl _) (by exact Nat.le_refl _) dX10_judge_273
                  · have ic_13 := gz_eqn (rfl : t.toInt = t.toInt) (by decide : (2 : Int32).toInt = 2) c_13
                    refine lv_iload hx hb dX10_judge_257 (lv_at hl 2 rfl) ?_
                    refine lv_goto (tgt := 273) hx hb dX10_judge_259 (by decide) ?_
                    rw [← hQe]
                    exact gs_iret hx hb hr hlocks hM hS rfl ⟨hB_st_1, (by have c_y5_4 := gs_cl (x := y5_4) (by omega); have c_37 := gs_cl (x := st 0 0 37) (by omega); have hn9 : y5_4.toNatClampNeg = (st 0 0 37).toNatClampNeg := (by omega); have g0 : y5_0 = sW (pJa (st 16 0) (st 18 0) Xx Xy Xw) (st 19 0) (st 0 0 37).toNatClampNeg := (by have h9 := hv5_2; rw [hn9] at h9; exact h9); have g1 : y5_1 = sW (pJr (st 16 0) (st 18 0) (st 20 0) Xx Xy Xw 0) (st 19 0) (st 0 0 37).toNatClampNeg := (by have h9 := hv5_3; rw [hn9] at h9; exact h9); have g2 : y5_2 = sW (pJk (st 16 0) (st 18 0) (st 20 0) (st 21 0) Xx Xy Xw 0 Xv) (st 19 0) (st 0 0 37).toNatClampNeg := (by have h9 := hv5_4; rw [hn9] at h9; exact h9); have g3 : y5_3 = sW (pJk (st 16 0) (st 18 0) (st 20 0) (st 21 0) Xx Xy Xw 1 Xv) (st 19 0) (st 0 0 37).toNatClampNeg := (by have h9 := hv5_5; rw [hn9] at h9; exact h9); exact Or.inl ⟨⟨by omega, by omega, by omega, by omega⟩, Or.inr (Or.inr (Or.inl (⟨by omega, g2⟩)))⟩), (frM.up est_1)⟩ (by exact Nat.le_refl _) (by exact Nat.le_refl _) dX10_judge_273
                · have ic_12 := gz_eqn (rfl : t.toInt = t.toInt) (by decide : (1 : Int32).toInt = 1) c_12
                  refine lv_iload hx hb dX10_judge_246 (lv_at hl 3 rfl) ?_
                  refine lv_goto (tgt := 273) hx hb dX10_judge_248 (by decide) ?_
                  rw [← hQe]
                  exact gs_iret hx hb hr hlocks hM hS rfl ⟨hB_st_1, (by have c_y5_4 := gs_cl (x := y5_4) (by omega); have c_37 := gs_cl (x := st 0 0 37) (by omega); have hn9 : y5_4.toNatClampNeg = (st 0 0 37).toNatClampNeg := (by omega); have g0 : y5_0 = sW (pJa (st 16 0) (st 18 0) Xx Xy Xw) (st 19 0) (st 0 0 37).toNatClampNeg := (by have h9 := hv5_2; rw [hn9] at h9; exact h9); have g1 : y5_1 = sW (pJr (st 16 0) (st 18 0) (st 20 0) Xx Xy Xw 0) (st 19 0) (st 0 0 37).toNatClampNeg := (by have h9 := hv5_3; rw [hn9] at h9; exact h9); have g2 : y5_2 = sW (pJk (st 16 0) (st 18 0) (st 20 0) (st 21 0) Xx Xy Xw 0 Xv) (st 19 0) (st 0 0 37).toNatClampNeg := (by have h9 := hv5_4; rw [hn9] at h9; exact h9); have g3 : y5_3 = sW (pJk (st 16 0) (st 18 0) (st 20 0) (st 21 0) Xx Xy Xw 1 Xv) (st 19 0) (st 0 0 37).toNatClampNeg := (by have h9 := hv5_5; rw [hn9] at h9; exact h9); exact Or.inl ⟨⟨by omega, by omega, by omega, by omega⟩, Or.inr (Or.inl (⟨by omega, g1⟩))⟩), (frM.up est_1)⟩ (by exact Nat.le_refl _) (by exact Nat.le_refl _) dX10_judge_273
              · have ic_11 := gz_eqn (rfl : t.toInt = t.toInt) (by decide : (0 : Int32).toInt = 0) c_11
                refine lv_iload hx hb dX10_judge_235 (lv_at hl 4 rfl) ?_
                refine lv_goto (tgt := 273) hx hb dX10_judge_237 (by decide) ?_
                rw [← hQe]
                exact gs_iret hx hb hr hlocks hM hS rfl ⟨hB_st_1, (by have c_y5_4 := gs_cl (x := y5_4) (by omega); have c_37 := gs_cl (x := st 0 0 37) (by omega); have hn9 : y5_4.toNatClampNeg = (st 0 0 37).toNatClampNeg := (by omega); have g0 : y5_0 = sW (pJa (st 16 0) (st 18 0) Xx Xy Xw) (st 19 0) (st 0 0 37).toNatClampNeg := (by have h9 := hv5_2; rw [hn9] at h9; exact h9); have g1 : y5_1 = sW (pJr (st 16 0) (st 18 0) (st 20 0) Xx Xy Xw 0) (st 19 0) (st 0 0 37).toNatClampNeg := (by have h9 := hv5_3; rw [hn9] at h9; exact h9); have g2 : y5_2 = sW (pJk (st 16 0) (st 18 0) (st 20 0) (st 21 0) Xx Xy Xw 0 Xv) (st 19 0) (st 0 0 37).toNatClampNeg := (by have h9 := hv5_4; rw [hn9] at h9; exact h9); have g3 : y5_3 = sW (pJk (st 16 0) (st 18 0) (st 20 0) (st 21 0) Xx Xy Xw 1 Xv) (st 19 0) (st 0 0 37).toNatClampNeg := (by have h9 := hv5_5; rw [hn9] at h9; exact h9); exact Or.inl ⟨⟨by omega, by omega, by omega, by omega⟩, Or.inl (⟨by omega, g0⟩)⟩), (frM.up est_1)⟩ (by exact Nat.le_refl _) (by exact Nat.le_refl _) dX10_judge_273
            · have ic_8 := gz_nle (rfl : (st 0 0 37).toInt = (st 0 0 37).toInt) (rfl : y5_4.toInt = y5_4.toInt) c_8
              have lc_8 := gi_hi (st 0 0 37)
              refine lv_aload_n hx hb dX10_judge_49 rfl (lv_at hl 5 rfl) ?_
              refine gs_get (C := RX10) (T := TX10) (N := 59) hx hb hts inX10 hown hK hM 0 0 33 (by decide) rfl rfl (by decide) (hts _ gm_934) (fun _ h9 => h9) rfl dX10_judge_50 ?_
              refine lv_iload hx hb dX10_judge_53 (lv_at hl 0 rfl) ?_
              refine gs_iald hx hb hK hM 18 0 (by decide) rfl (vp_in_iff.mpr ⟨by omega, by omega⟩) dX10_judge_55 ?_
              refine lv_topi (fun x_15 ex_15 => ?_)
              have qx_15 : x_15.toInt = (st_1 18 0 (y5_4.toNatClampNeg)).toInt := congrArg Int32.toInt ex_15
              have rx_15 : x_15.toInt = ((st 18 0 (y5_4.toNatClampNeg)) : Int32).toInt := by rw [ex_15]; exact congrArg Int32.toInt (((congrFun (congrFun (congrFun est_1 18) 0) (y5_4.toNatClampNeg)).trans (congrFun (congrFun (gU_k (by decide)) 0) (y5_4.toNatClampNeg))))
              refine lv_iload_n hx hb dX10_judge_56 rfl (lv_at hl 6 rfl) ?_
              refine lv_icmp_ne (tgt := 215) hx hb dX10_judge_57 (by decide) (fun c_16 => ?_) (fun c_16 => ?_)
              · have ic_16 := gz_ne (rfl : x_15.toInt = x_15.toInt) (rfl : x.toInt = x.toInt) c_16
                obtain ⟨x_17, ex_17⟩ : ∃ y : Int32, y = y5_4 + 1 := ⟨_, rfl⟩
                try have tx_17 : x_17.toInt = y5_4.toInt + 1 := by rw [ex_17]; exact gz_addP (x := y5_4.toInt) (y := 1) rfl (by decide) (by omega) (by omega)
                refine lv_iinc (v := (x_17)) (lv' := [(10, .int x_17), (9, .int y5_3), (8, .int y5_2), (7, .int y5_1), (6, .int y5_0), (0, .ref (ad 0 0)), (1, .int x), (2, .int y), (3, .int w), (4, .int v), (5, .int t)]) hx hb dX10_judge_215 hl (k := 0) rfl (by rw [ex_17]; rfl) (by decide) rfl (fun ls hl => ?_)
                refine lv_goto (tgt := 40) hx hb dX10_judge_218 (by decide) ?_
                exact ih_5  (y5_0 : Int32) (y5_1 : Int32) (y5_2 : Int32) (y5_3 : Int32) (x_17 : Int32) H _ ls (by omega)  (by omega) (by have hb0 : (0 : Int) ≤ (st 0 0 37).toInt ∧ (st 0 0 37).toInt ≤ (300 : Int) := hB_st.1 0 0 37; omega) (sW.skip hv5_2 (by omega) (by omega) (pJa_f (by omega))) (sW.skip hv5_3 (by omega) (by omega) (pJr_f (by omega))) (sW.skip hv5_4 (by omega) (by omega) (pJk_f (by omega))) (sW.skip hv5_5 (by omega) (by omega) (pJk_f (by omega))) hM hS (lv_sub hl [0, 1, 2, 3, 4, 5, 6, 7, 8, 9, 10] rfl)
              · have ic_16 := gz_eqn (rfl : x_15.toInt = x_15.toInt) (rfl : x.toInt = x.toInt) c_16
                refine lv_aload_n hx hb dX10_judge_60 rfl (lv_at hl 5 rfl) ?_
                refine gs_get (C := RX10) (T := TX10) (N := 59) hx hb hts inX10 hown hK hM 0 0 31 (by decide) rfl rfl (by decide) (hts _ gm_932) (fun _ h9 => h9) rfl dX10_judge_61 ?_
                refine lv_iload hx hb dX10_judge_64 (lv_at hl 0 rfl) ?_
                refine gs_iald hx hb hK hM 16 0 (by decide) rfl (vp_in_iff.mpr ⟨by omega, by omega⟩) dX10_judge_66 ?_
                refine lv_topi (fun x_18 ex_18 => ?_)
                have qx_18 : x_18.toInt = (st_1 16 0 (y5_4.toNatClampNeg)).toInt := congrArg Int32.toInt ex_18
                have rx_18 : x_18.toInt = ((st 16 0 (y5_4.toNatClampNeg)) : Int32).toInt := by rw [ex_18]; exact congrArg Int32.toInt (((congrFun (congrFun (congrFun est_1 16) 0) (y5_4.toNatClampNeg)).trans (congrFun (congrFun (gU_k (by decide)) 0) (y5_4.toNatClampNeg))))
                refine lv_iload_n hx hb dX10_judge_67 rfl (lv_at hl 7 rfl) ?_
                refine lv_icmp_lt (tgt := 215) hx hb dX10_judge_68 (by decide) (fun c_19 => ?_) (fun c_19 => ?_)
                · have ic_19 := gz_lt (rfl : x_18.toInt = x_18.toInt) (rfl : y.toInt = y.toInt) c_19
                  have lc_19 := gi_hi y
                  obtain ⟨x_20, ex_20⟩ : ∃ y : Int32, y = y5_4 + 1 := ⟨_, rfl⟩
                  try have tx_20 : x_20.toInt = y5_4.toInt + 1 := by rw [ex_20]; exact gz_addP (x := y5_4.toInt) (y := 1) rfl (by decide) (by omega) (by omega)
                  refine lv_iinc (v := (x_20)) (lv' := [(10, .int x_20), (9, .int y5_3), (8, .int y5_2), (7, .int y5_1), (6, .int y5_0), (0, .ref (ad 0 0)), (1, .int x), (2, .int y), (3, .int w), (4, .int v), (5, .int t)]) hx hb dX10_judge_215 hl (k := 0) rfl (by rw [ex_20]; rfl) (by decide) rfl (fun ls hl => ?_)
                  refine lv_goto (tgt := 40) hx hb dX10_judge_218 (by decide) ?_
                  exact ih_5  (y5_0 : Int32) (y5_1 : Int32) (y5_2 : Int32) (y5_3 : Int32) (x_20 : Int32) H _ ls (by omega)  (by omega) (by have hb0 : (0 : Int) ≤ (st 0 0 37).toInt ∧ (st 0 0 37).toInt ≤ (300 : Int) := hB_st.1 0 0 37; omega) (sW.skip hv5_2 (by omega) (by omega) (pJa_f (by omega))) (sW.skip hv5_3 (by omega) (by omega) (pJr_f (by omega))) (sW.skip hv5_4 (by omega) (by omega) (pJk_f (by omega))) (sW.skip hv5_5 (by omega) (by omega) (pJk_f (by omega))) hM hS (lv_sub hl [0, 1, 2, 3, 4, 5, 6, 7, 8, 9, 10] rfl)
                · have ic_19 := gz_nlt (rfl : x_18.toInt = x_18.toInt) (rfl : y.toInt = y.toInt) c_19
                  refine lv_aload_n hx hb dX10_judge_71 rfl (lv_at hl 5 rfl) ?_
                  refine gs_get (C := RX10) (T := TX10) (N := 59) hx hb hts inX10 hown hK hM 0 0 31 (by decide) rfl rfl (by decide) (hts _ gm_932) (fun _ h9 => h9) rfl dX10_judge_72 ?_
                  refine lv_iload hx hb dX10_judge_75 (lv_at hl 0 rfl) ?_
                  refine gs_iald hx hb hK hM 16 0 (by decide) rfl (vp_in_iff.mpr ⟨by omega, by omega⟩) dX10_judge_77 ?_
                  refine lv_topi (fun x_21 ex_21 => ?_)
                  have qx_21 : x_21.toInt = (st_1 16 0 (y5_4.toNatClampNeg)).toInt := congrArg Int32.toInt ex_21
                  have rx_21 : x_21.toInt = ((st 16 0 (y5_4.toNatClampNeg)) : Int32).toInt := by rw [ex_21]; exact congrArg Int32.toInt (((congrFun (congrFun (congrFun est_1 16) 0) (y5_4.toNatClampNeg)).trans (congrFun (congrFun (gU_k (by decide)) 0) (y5_4.toNatClampNeg))))
                  refine lv_iload_n hx hb dX10_judge_78 rfl (lv_at hl 8 rfl) ?_
                  refine lv_icmp_le (tgt := 85) hx hb dX10_judge_79 (by decide) (fun c_22 => ?_) (fun c_22 => ?_)
                  · have ic_22 := gz_le (rfl : x_21.toInt = x_21.toInt) (rfl : w.toInt = w.toInt) c_22
                    refine lv_aload_n hx hb dX10_judge_85 rfl (lv_at hl 5 rfl) ?_
                    refine gs_get (C := RX10) (T := TX10) (N := 59) hx hb hts inX10 hown hK hM 0 0 36 (by decide) rfl rfl (by decide) (hts _ gm_937) (fun _ h9 => h9) rfl dX10_judge_86 ?_
                    refine lv_iload hx hb dX10_judge_89 (lv_at hl 0 rfl) ?_
                    refine gs_iald hx hb hK hM 21 0 (by decide) rfl (vp_in_iff.mpr ⟨by omega, by omega⟩) dX10_judge_91 ?_
                    refine lv_topi (fun x_23 ex_23 => ?_)
                    have qx_23 : x_23.toInt = (st_1 21 0 (y5_4.toNatClampNeg)).toInt := congrArg Int32.toInt ex_23
                    have rx_23 : x_23.toInt = ((st 21 0 (y5_4.toNatClampNeg)) : Int32).toInt := by rw [ex_23]; exact congrArg Int32.toInt (((congrFun (congrFun (congrFun est_1 21) 0) (y5_4.toNatClampNeg)).trans (congrFun (congrFun (gU_k (by decide)) 0) (y5_4.toNatClampNeg))))
                    refine lv_if_lt (tgt := 111) hx hb dX10_judge_92 (by decide) (fun c_24 => ?_) (fun c_24 => ?_)
                    · have ic_24 := gz_lt (rfl : x_23.toInt = x_23.toInt) (by decide : (0 : Int32).toInt = 0) c_24
                      refine lv_iconst (v := 0) hx hb dX10_judge_111 (by decide) ?_
                      refine lv_istore (lv' := [(11, .int 0), (10, .int y5_4), (9, .int y5_3), (8, .int y5_2), (7, .int y5_1), (6, .int y5_0), (0, .ref (ad 0 0)), (1, .int x), (2, .int y), (3, .int w), (4, .int v), (5, .int t)]) hx hb dX10_judge_112 hl (by decide) rfl (fun ls hl => ?_)
                      refine lv_iload hx hb dX10_judge_114 (lv_at hl 5 rfl) ?_
                      refine lv_aload_n hx hb dX10_judge_116 rfl (lv_at hl 6 rfl) ?_
                      refine gs_get (C := RX10) (T := TX10) (N := 59) hx hb hts inX10 hown hK hM 0 0 34 (by decide) rfl rfl (by decide) (hts _ gm_935) (fun _ h9 => h9) rfl dX10_judge_117 ?_
                      refine lv_iload hx hb dX10_judge_120 (lv_at hl 1 rfl) ?_
                      refine gs_iald hx hb hK hM 19 0 (by decide) rfl (vp_in_iff.mpr ⟨by omega, by omega⟩) dX10_judge_122 ?_
                      refine lv_topi (fun x_25 ex_25 => ?_)
                      have qx_25 : x_25.toInt = (st_1 19 0 (y5_4.toNatClampNeg)).toInt := congrArg Int32.toInt ex_25
                      have rx_25 : x_25.toInt = ((st 19 0 (y5_4.toNatClampNeg)) : Int32).toInt := by rw [ex_25]; exact congrArg Int32.toInt (((congrFun (congrFun (congrFun est_1 19) 0) (y5_4.toNatClampNeg)).trans (congrFun (congrFun (gU_k (by decide)) 0) (y5_4.toNatClampNeg))))
                      refine lv_iadd hx hb dX10_judge_123 ?_
                      refine lv_topi (fun x_26 ex_26 => ?_)
                      refine lv_istore (lv' := [(6, .int x_26), (11, .int 0), (10, .int y5_4), (9, .int y5_3), (8, .int y5_2), (7, .int y5_1), (0, .ref (ad 0 0)), (1, .int x), (2, .int y), (3, .int w), (4, .int v), (5, .int t)]) hx hb dX10_judge_124 hl (by decide) rfl (fun ls hl => ?_)
                      refine lv_iload hx hb dX10_judge_126 (lv_at hl 5 rfl) ?_
                      refine lv_aload_n hx hb dX10_judge_128 rfl (lv_at hl 6 rfl) ?_
                      refine gs_get (C := RX10) (T := TX10) (N := 59) hx hb hts inX10 hown hK hM 0 0 35 (by decide) rfl rfl (by decide) (hts _ gm_936) (fun _ h9 => h9) rfl dX10_judge_129 ?_
                      refine lv_iload hx hb dX10_judge_132 (lv_at hl 2 rfl) ?_
                      refine gs_iald hx hb hK hM 20 0 (by decide) rfl (vp_in_iff.mpr ⟨by omega, by omega⟩) dX10_judge_134 ?_
                      refine lv_topi (fun x_27 ex_27 => ?_)
                      have qx_27 : x_27.toInt = (st_1 20 0 (y5_4.toNatClampNeg)).toInt := congrArg Int32.toInt ex_27
                      have rx_27 : x_27.toInt = ((st 20 0 (y5_4.toNatClampNeg)) : Int32).toInt := by rw [ex_27]; exact congrArg Int32.toInt (((congrFun (congrFun (congrFun est_1 20) 0) (y5_4.toNatClampNeg)).trans (congrFun (congrFun (gU_k (by decide)) 0) (y5_4.toNatClampNeg))))
                      refine lv_if_ne (tgt := 148) hx hb dX10_judge_135 (by decide) (fun c_28 => ?_) (fun c_28 => ?_)
                      · have ic_28 := gz_ne (rfl : x_27.toInt = x_27.toInt) (by decide : (0 : Int32).toInt = 0) c_28
                        refine lv_iconst (v := 0) hx hb dX10_judge_148 (by decide) ?_
                        refine lv_iadd hx hb dX10_judge_149 ?_
                        refine lv_topi (fun x_29 ex_29 => ?_)
                        refine lv_istore (lv' := [(7, .int x_29), (6, .int x_26), (11, .int 0), (10, .int y5_4), (9, .int y5_3), (8, .int y5_2), (0, .ref (ad 0 0)), (1, .int x), (2, .int y), (3, .int w), (4, .int v), (5, .int t)]) hx hb dX10_judge_150 hl (by decide) rfl (fun ls hl => ?_)
                        refine lv_iload hx hb dX10_judge_152 (lv_at hl 5 rfl) ?_
                        refine lv_aload_n hx hb dX10_judge_154 rfl (lv_at hl 6 rfl) ?_
                        refine gs_get (C := RX10) (T := TX10) (N := 59) hx hb hts inX10 hown hK hM 0 0 35 (by decide) rfl rfl (by decide) (hts _ gm_936) (fun _ h9 => h9) rfl dX10_judge_155 ?_
                        refine lv_iload hx hb dX10_judge_158 (lv_at hl 3 rfl) ?_
                        refine gs_iald hx hb hK hM 20 0 (by decide) rfl (vp_in_iff.mpr ⟨by omega, by omega⟩) dX10_judge_160 ?_
                        refine lv_topi (fun x_30 ex_30 => ?_)
                        have qx_30 : x_30.toInt = (st_1 20 0 (y5_4.toNatClampNeg)).toInt := congrArg Int32.toInt ex_30
                        have rx_30 : x_30.toInt = ((st 20 0 (y5_4.toNatClampNeg)) : Int32).toInt := by rw [ex_30]; exact congrArg Int32.toInt (((congrFun (congrFun (congrFun est_1 20) 0) (y5_4.toNatClampNeg)).trans (congrFun (congrFun (gU_k (by decide)) 0) (y5_4.toNatClampNeg))))
                        refine lv_if_ne (tgt := 179) hx hb dX10_judge_161 (by decide) (fun c_31 => ?_) (fun c_31 => ?_)
                        · have ic_31 := gz_ne (rfl : x_30.toInt = x_30.toInt) (by decide : (0 : Int32).toInt = 0) c_31
                          refine lv_iconst (v := 0) hx hb dX10_judge_179 (by decide) ?_
                          refine lv_iadd hx hb dX10_judge_180 ?_
                          refine lv_topi (fun x_32 ex_32 => ?_)
                          refine lv_istore (lv' := [(8, .int x_32), (7, .int x_29), (6, .int x_26), (11, .int 0), (10, .int y5_4), (9, .int y5_3), (0, .ref (ad 0 0)), (1, .int x), (2, .int y), (3, .int w), (4, .int v), (5, .int t)]) hx hb dX10_judge_181 hl (by decide) rfl (fun ls hl => ?_)
                          refine lv_iload hx hb dX10_judge_183 (lv_at hl 5 rfl) ?_
                          refine lv_aload_n hx hb dX10_judge_185 rfl (lv_at hl 6 rfl) ?_
                          refine gs_get (C := RX10) (T := TX10) (N := 59) hx hb hts inX10 hown hK hM 0 0 35 (by decide) rfl rfl (by decide) (hts _ gm_936) (fun _ h9 => h9) rfl dX10_judge_186 ?_
                          refine lv_iload hx hb dX10_judge_189 (lv_at hl 4 rfl) ?_
                          refine gs_iald hx hb hK hM 20 0 (by decide) rfl (vp_in_iff.mpr ⟨by omega, by omega⟩) dX10_judge_191 ?_
                          refine lv_topi (fun x_33 ex_33 => ?_)
                          have qx_33 : x_33.toInt = (st_1 20 0 (y5_4.toNatClampNeg)).toInt := congrArg Int32.toInt ex_33
                          have rx_33 : x_33.toInt = ((st 20 0 (y5_4.toNatClampNeg)) : Int32).toInt := by rw [ex_33]; exact congrArg Int32.toInt (((congrFun (congrFun (congrFun est_1 20) 0) (y5_4.toNatClampNeg)).trans (congrFun (congrFun (gU_k (by decide)) 0) (y5_4.toNatClampNeg))))
                          refine lv_iconst (v := 1) hx hb dX10_judge_192 (by decide) ?_
                          refine lv_icmp_ne (tgt := 211) hx hb dX10_judge_193 (by decide) (fun c_34 => ?_) (fun c_34 => ?_)
                          · have ic_34 := gz_ne (rfl : x_33.toInt = x_33.toInt) (by decide : (1 : Int32).toInt = 1) c_34
                            refine lv_iconst (v := 0) hx hb dX10_judge_211 (by decide) ?_
                            refine lv_iadd hx hb dX10_judge_212 ?_
                            refine lv_topi (fun x_35 ex_35 => ?_)
                            refine lv_istore (lv' := [(9, .int x_35), (8, .int x_32), (7, .int x_29), (6, .int x_26), (11, .int 0), (10, .int y5_4), (0, .ref (ad 0 0)), (1, .int x), (2, .int y), (3, .int w), (4, .int v), (5, .int t)]) hx hb dX10_judge_213 hl (by decide) rfl (fun ls hl => ?_)
                            obtain ⟨x_36, ex_36⟩ : ∃ y : Int32, y = y5_4 + 1 := ⟨_, rfl⟩
                            try have tx_36 : x_36.toInt = y5_4.toInt + 1 := by rw [ex_36]; exact gz_addP (x := y5_4.toInt) (y := 1) rfl (by decide) (by omega) (by omega)
                            refine lv_iinc (v := (x_36)) (lv' := [(10, .int x_36), (9, .int x_35), (8, .int x_32), (7, .int x_29), (6, .int x_26), (11, .int 0), (0, .ref (ad 0 0)), (1, .int x), (2, .int y), (3, .int w), (4, .int v), (5, .int t)]) hx hb dX10_judge_215 hl (k := 5) rfl (by rw [ex_36]; rfl) (by decide) rfl (fun ls hl => ?_)
                            refine lv_goto (tgt := 40) hx hb dX10_judge_218 (by decide) ?_
                            exact ih_5  (x_26 : Int32) (x_29 : Int32) (x_32 : Int32) (x_35 : Int32) (x_36 : Int32) H _ ls (by omega)  (by omega) (by have hb0 : (0 : Int) ≤ (st 0 0 37).toInt ∧ (st 0 0 37).toInt ≤ (300 : Int) := hB_st.1 0 0 37; omega) (sW.go hv5_2 (by omega) (by omega) (pJa_t (by omega)) ex_26 (ex_25.trans ((congrFun (congrFun (congrFun est_1 19) 0) (y5_4.toNatClampNeg)).trans (congrFun (congrFun (gU_k (by decide)) 0) (y5_4.toNatClampNeg))))) (sW.zero hv5_3 (by omega) (by omega) (pJr_f (by omega)) ex_29) (sW.zero hv5_4 (by omega) (by omega) (pJk_f (by omega)) ex_32) (sW.zero hv5_5 (by omega) (by omega) (pJk_f (by omega)) ex_35) hM hS (lv_sub hl [0, 1, 2, 3, 4, 6, 7, 8, 9, 10, 11] rfl)
                          · have ic_34 := gz_eqn (rfl : x_33.toInt = x_33.toInt) (by decide : (1 : Int32).toInt = 1) c_34
                            refine lv_iload hx hb dX10_judge_196 (lv_at hl 3 rfl) ?_
                            refine lv_if_eq (tgt := 211) hx hb dX10_judge_198 (by decide) (fun _ => ?_) (fun h9 => absurd (by decide) h9)
                            refine lv_iconst (v := 0) hx hb dX10_judge_211 (by decide) ?_
                            refine lv_iadd hx hb dX10_judge_212 ?_
                            refine lv_topi (fun x_37 ex_37 => ?_)
                            refine lv_istore (lv' := [(9, .int x_37), (8, .int x_32), (7, .int x_29), (6, .int x_26), (11, .int 0), (10, .int y5_4), (0, .ref (ad 0 0)), (1, .int x), (2, .int y), (3, .int w), (4, .int v), (5, .int t)]) hx hb dX10_judge_213 hl (by decide) rfl (fun ls hl => ?_)
                            obtain ⟨x_38, ex_38⟩ : ∃ y : Int32, y = y5_4 + 1 := ⟨_, rfl⟩
                            try have tx_38 : x_38.toInt = y5_4.toInt + 1 := by rw [ex_38]; exact gz_addP (x := y5_4.toInt) (y := 1) rfl (by decide) (by omega) (by omega)
                            refine lv_iinc (v := (x_38)) (lv' := [(10, .int x_38), (9, .int x_37), (8, .int x_32), (7, .int x_29), (6, .int x_26), (11, .int 0), (0, .ref (ad 0 0)), (1, .int x), (2, .int y), (3, .int w), (4, .int v), (5, .int t)]) hx hb dX10_judge_215 hl (k := 5) rfl (by rw [ex_38]; rfl) (by decide) rfl (fun ls hl => ?_)
                            refine lv_goto (tgt := 40) hx hb dX10_judge_218 (by decide) ?_
                            exact ih_5  (x_26 : Int32) (x_29 : Int32) (x_32 : Int32) (x_37 : Int32) (x_38 : Int32) H _ ls (by omega)  (by omega) (by have hb0 : (0 : Int) ≤ (st 0 0 37).toInt ∧ (st 0 0 37).toInt ≤ (300 : Int) := hB_st.1 0 0 37; omega) (sW.go hv5_2 (by omega) (by omega) (pJa_t (by omega)) ex_26 (ex_25.trans ((congrFun (congrFun (congrFun est_1 19) 0) (y5_4.toNatClampNeg)).trans (congrFun (congrFun (gU_k (by decide)) 0) (y5_4.toNatClampNeg))))) (sW.zero hv5_3 (by omega) (by omega) (pJr_f (by omega)) ex_29) (sW.zero hv5_4 (by omega) (by omega) (pJk_f (by omega)) ex_32) (sW.zero hv5_5 (by omega) (by omega) (pJk_f (by omega)) ex_37) hM hS (lv_sub hl [0, 1, 2, 3, 4, 6, 7, 8, 9, 10, 11] rfl)
                        · have ic_31 := gz_eqn (rfl : x_30.toInt = x_30.toInt) (by decide : (0 : Int32).toInt = 0) c_31
                          refine lv_iload hx hb dX10_judge_164 (lv_at hl 2 rfl) ?_
                          refine lv_if_eq (tgt := 179) hx hb dX10_judge_166 (by decide) (fun _ => ?_) (fun h9 => absurd (by decide) h9)
                          refine lv_iconst (v := 0) hx hb dX10_judge_179 (by decide) ?_
                          refine lv_iadd hx hb dX10_judge_180 ?_
                          refine lv_topi (fun x_39 ex_39 => ?_)
                          refine lv_istore (lv' := [(8, .int x_39), (7, .int x_29), (6, .int x_26), (11, .int 0), (10, .int y5_4), (9, .int y5_3), (0, .ref (ad 0 0)), (1, .int x), (2, .int y), (3, .int w), (4, .int v), (5, .int t)]) hx hb dX10_judge_181 hl (by decide) rfl (fun ls hl => ?_)
                          refine lv_iload hx hb dX10_judge_183 (lv_at hl 5 rfl) ?_
                          refine lv_aload_n hx hb dX10_judge_185 rfl (lv_at hl 6 rfl) ?_
                          refine gs_get (C := RX10) (T := TX10) (N := 59) hx hb hts inX10 hown hK hM 0 0 35 (by decide) rfl rfl (by decide) (hts _ gm_936) (fun _ h9 => h9) rfl dX10_judge_186 ?_
                          refine lv_iload hx hb dX10_judge_189 (lv_at hl 4 rfl) ?_
                          refine gs_iald hx hb hK hM 20 0 (by decide) rfl (vp_in_iff.mpr ⟨by omega, by omega⟩) dX10_judge_191 ?_
                          refine lv_topi (fun x_40 ex_40 => ?_)
                          have qx_40 : x_40.toInt = (st_1 20 0 (y5_4.toNatClampNeg)).toInt := congrArg Int32.toInt ex_40
                          have rx_40 : x_40.toInt = ((st 20 0 (y5_4.toNatClampNeg)) : Int32).toInt := by rw [ex_40]; exact congrArg Int32.toInt (((congrFun (congrFun (congrFun est_1 20) 0) (y5_4.toNatClampNeg)).trans (congrFun (congrFun (gU_k (by decide)) 0) (y5_4.toNatClampNeg))))
                          refine lv_iconst (v := 1) hx hb dX10_judge_192 (by decide) ?_
                          refine lv_icmp_ne (tgt := 211) hx hb dX10_judge_193 (by decide) (fun c_41 => ?_) (fun c_41 => ?_)
                          · have ic_41 := gz_ne (rfl : x_40.toInt = x_40.toInt) (by decide : (1 : Int32).toInt = 1) c_41
                            refine lv_iconst (v := 0) hx hb dX10_judge_211 (by decide) ?_
                            refine lv_iadd hx hb dX10_judge_212 ?_
                            refine lv_topi (fun x_42 ex_42 => ?_)
                            refine lv_istore (lv' := [(9, .int x_42), (8, .int x_39), (7, .int x_29), (6, .int x_26), (11, .int 0), (10, .int y5_4), (0, .ref (ad 0 0)), (1, .int x), (2, .int y), (3, .int w), (4, .int v), (5, .int t)]) hx hb dX10_judge_213 hl (by decide) rfl (fun ls hl => ?_)
                            obtain ⟨x_43, ex_43⟩ : ∃ y : Int32, y = y5_4 + 1 := ⟨_, rfl⟩
                            try have tx_43 : x_43.toInt = y5_4.toInt + 1 := by rw [ex_43]; exact gz_addP (x := y5_4.toInt) (y := 1) rfl (by decide) (by omega) (by omega)
                            refine lv_iinc (v := (x_43)) (lv' := [(10, .int x_43), (9, .int x_42), (8, .int x_39), (7, .int x_29), (6, .int x_26), (11, .int 0), (0, .ref (ad 0 0)), (1, .int x), (2, .int y), (3, .int w), (4, .int v), (5, .int t)]) hx hb dX10_judge_215 hl (k := 5) rfl (by rw [ex_43]; rfl) (by decide) rfl (fun ls hl => ?_)
                            refine lv_goto (tgt := 40) hx hb dX10_judge_218 (by decide) ?_
                            exact ih_5  (x_26 : Int32) (x_29 : Int32) (x_39 : Int32) (x_42 : Int32) (x_43 : Int32) H _ ls (by omega)  (by omega) (by have hb0 : (0 : Int) ≤ (st 0 0 37).toInt ∧ (st 0 0 37).toInt ≤ (300 : Int) := hB_st.1 0 0 37; omega) (sW.go hv5_2 (by omega) (by omega) (pJa_t (by omega)) ex_26 (ex_25.trans ((congrFun (congrFun (congrFun est_1 19) 0) (y5_4.toNatClampNeg)).trans (congrFun (congrFun (gU_k (by decide)) 0) (y5_4.toNatClampNeg))))) (sW.zero hv5_3 (by omega) (by omega) (pJr_f (by omega)) ex_29) (sW.zero hv5_4 (by omega) (by omega) (pJk_f (by omega)) ex_39) (sW.zero hv5_5 (by omega) (by omega) (pJk_f (by omega)) ex_42) hM hS (lv_sub hl [0, 1, 2, 3, 4, 6, 7, 8, 9, 10, 11] rfl)
                          · have ic_41 := gz_eqn (rfl : x_40.toInt = x_40.toInt) (by decide : (1 : Int32).toInt = 1) c_41
                            refine lv_iload hx hb dX10_judge_196 (lv_at hl 3 rfl) ?_
                            refine lv_if_eq (tgt := 211) hx hb dX10_judge_198 (by decide) (fun _ => ?_) (fun h9 => absurd (by decide) h9)
                            refine lv_iconst (v := 0) hx hb dX10_judge_211 (by decide) ?_
                            refine lv_iadd hx hb dX10_judge_212 ?_
                            refine lv_topi (fun x_44 ex_44 => ?_)
                            refine lv_istore (lv' := [(9, .int x_44), (8, .int x_39), (7, .int x_29), (6, .int x_26), (11, .int 0), (10, .int y5_4), (0, .ref (ad 0 0)), (1, .int x), (2, .int y), (3, .int w), (4, .int v), (5, .int t)]) hx hb dX10_judge_213 hl (by decide) rfl (fun ls hl => ?_)
                            obtain ⟨x_45, ex_45⟩ : ∃ y : Int32, y = y5_4 + 1 := ⟨_, rfl⟩
                            try have tx_45 : x_45.toInt = y5_4.toInt + 1 := by rw [ex_45]; exact gz_addP (x := y5_4.toInt) (y := 1) rfl (by decide) (by omega) (by omega)
                            refine lv_iinc (v := (x_45)) (lv' := [(10, .int x_45), (9, .int x_44), (8, .int x_39), (7, .int x_29), (6, .int x_26), (11, .int 0), (0, .ref (ad 0 0)), (1, .int x), (2, .int y), (3, .int w), (4, .int v), (5, .int t)]) hx hb dX10_judge_215 hl (k := 5) rfl (by rw [ex_45]; rfl) (by decide) rfl (fun ls hl => ?_)
                            refine lv_goto (tgt := 40) hx hb dX10_judge_218 (by decide) ?_
                            exact ih_5  (x_26 : Int32) (x_29 : Int32) (x_39 : Int32) (x_44 : Int32) (x_45 : Int32) H _ ls (by omega)  (by omega) (by have hb0 : (0 : Int) ≤ (st 0 0 37).toInt ∧ (st 0 0 37).toInt ≤ (300 : Int) := hB_st.1 0 0 37; omega) (sW.go hv5_2 (by omega) (by omega) (pJa_t (by omega)) ex_26 (ex_25.trans ((congrFun (congrFun (congrFun est_1 19) 0) (y5_4.toNatClampNeg)).trans (congrFun (congrFun (gU_k (by decide)) 0) (y5_4.toNatClampNeg))))) (sW.zero hv5_3 (by omega) (by omega) (pJr_f (by omega)) ex_29) (sW.zero hv5_4 (by omega) (by omega) (pJk_f (by omega)) ex_39) (sW.zero hv5_5 (by omega) (by omega) (pJk_f (by omega)) ex_44) hM hS (lv_sub hl [0, 1, 2, 3, 4, 6, 7, 8, 9, 10, 11] rfl)
                      · have ic_28 := gz_eqn (rfl : x_27.toInt = x_27.toInt) (by decide : (0 : Int32).toInt = 0) c_28
                        refine lv_aload_n hx hb dX10_judge_138 rfl (lv_at hl 6 rfl) ?_
                        refine gs_get (C := RX10) (T := TX10) (N := 59) hx hb hts inX10 hown hK hM 0 0 34 (by decide) rfl rfl (by decide) (hts _ gm_935) (fun _ h9 => h9) rfl dX10_judge_139 ?_
                        refine lv_iload hx hb dX10_judge_142 (lv_at hl 2 rfl) ?_
                        refine gs_iald hx hb hK hM 19 0 (by decide) rfl (vp_in_iff.mpr ⟨by omega, by omega⟩) dX10_judge_144 ?_
                        refine lv_topi (fun x_46 ex_46 => ?_)
                        have qx_46 : x_46.toInt = (st_1 19 0 (y5_4.toNatClampNeg)).toInt := congrArg Int32.toInt ex_46
                        have rx_46 : x_46.toInt = ((st 19 0 (y5_4.toNatClampNeg)) : Int32).toInt := by rw [ex_46]; exact congrArg Int32.toInt (((congrFun (congrFun (congrFun est_1 19) 0) (y5_4.toNatClampNeg)).trans (congrFun (congrFun (gU_k (by decide)) 0) (y5_4.toNatClampNeg))))
                        refine lv_goto (tgt := 149) hx hb dX10_judge_145 (by decide) ?_
                        refine lv_iadd hx hb dX10_judge_149 ?_
                        refine lv_topi (fun x_47 ex_47 => ?_)
                        refine lv_istore (lv' := [(7, .int x_47), (6, .int x_26), (11, .int 0), (10, .int y5_4), (9, .int y5_3), (8, .int y5_2), (0, .ref (ad 0 0)), (1, .int x), (2, .int y), (3, .int w), (4, .int v), (5, .int t)]) hx hb dX10_judge_150 hl (by decide) rfl (fun ls hl => ?_)
                        refine lv_iload hx hb dX10_judge_152 (lv_at hl 5 rfl) ?_
                        refine lv_aload_n hx hb dX10_judge_154 rfl (lv_at hl 6 rfl) ?_
                        refine gs_get (C := RX10) (T := TX10) (N := 59) hx hb hts inX10 hown hK hM 0 0 35 (by decide) rfl rfl (by decide) (hts _ gm_936) (fun _ h9 => h9) rfl dX10_judge_155 ?_
                        refine lv_iload hx hb dX10_judge_158 (lv_at hl 3 rfl) ?_
                        refine gs_iald hx hb hK hM 20 0 (by decide) rfl (vp_in_iff.mpr ⟨by omega, by omega⟩) dX10_judge_160 ?_
                        refine lv_topi (fun x_48 ex_48 => ?_)
                        have qx_48 : x_48.toInt = (st_1 20 0 (y5_4.toNatClampNeg)).toInt := congrArg Int32.toInt ex_48
                        have rx_48 : x_48.toInt = ((st 20 0 (y5_4.toNatClampNeg)) : Int32).toInt := by rw [ex_48]; exact congrArg Int32.toInt (((congrFun (congrFun (congrFun est_1 20) 0) (y5_4.toNatClampNeg)).trans (congrFun (congrFun (gU_k (by decide)) 0) (y5_4.toNatClampNeg))))
                        refine lv_if_ne (tgt := 179) hx hb dX10_judge_161 (by decide) (fun c_49 => ?_) (fun c_49 => ?_)
                        · have ic_49 := gz_ne (rfl : x_48.toInt = x_48.toInt) (by decide : (0 : Int32).toInt = 0) c_49
                          refine lv_iconst (v := 0) hx hb dX10_judge_179 (by decide) ?_
                          refine lv_iadd hx hb dX10_judge_180 ?_
                          refine lv_topi (fun x_50 ex_50 => ?_)
                          refine lv_istore (lv' := [(8, .int x_50), (7, .int x_47), (6, .int x_26), (11, .int 0), (10, .int y5_4), (9, .int y5_3), (0, .ref (ad 0 0)), (1, .int x), (2, .int y), (3, .int w), (4, .int v), (5, .int t)]) hx hb dX10_judge_181 hl (by decide) rfl (fun ls hl => ?_)
                          refine lv_iload hx hb dX10_judge_183 (lv_at hl 5 rfl) ?_
                          refine lv_aload_n hx hb dX10_judge_185 rfl (lv_at hl 6 rfl) ?_
                          refine gs_get (C := RX10) (T := TX10) (N := 59) hx hb hts inX10 hown hK hM 0 0 35 (by decide) rfl rfl (by decide) (hts _ gm_936) (fun _ h9 => h9) rfl dX10_judge_186 ?_
                          refine lv_iload hx hb dX10_judge_189 (lv_at hl 4 rfl) ?_
                          refine gs_iald hx hb hK hM 20 0 (by decide) rfl (vp_in_iff.mpr ⟨by omega, by omega⟩) dX10_judge_191 ?_
                          refine lv_topi (fun x_51 ex_51 => ?_)
                          have qx_51 : x_51.toInt = (st_1 20 0 (y5_4.toNatClampNeg)).toInt := congrArg Int32.toInt ex_51
                          have rx_51 : x_51.toInt = ((st 20 0 (y5_4.toNatClampNeg)) : Int32).toInt := by rw [ex_51]; exact congrArg Int32.toInt (((congrFun (congrFun (congrFun est_1 20) 0) (y5_4.toNatClampNeg)).trans (congrFun (congrFun (gU_k (by decide)) 0) (y5_4.toNatClampNeg))))
                          refine lv_iconst (v := 1) hx hb dX10_judge_192 (by decide) ?_
                          refine lv_icmp_ne (tgt := 211) hx hb dX10_judge_193 (by decide) (fun c_52 => ?_) (fun c_52 => ?_)
                          · have ic_52 := gz_ne (rfl : x_51.toInt = x_51.toInt) (by decide : (1 : Int32).toInt = 1) c_52
                            refine lv_iconst (v := 0) hx hb dX10_judge_211 (by decide) ?_
                            refine lv_iadd hx hb dX10_judge_212 ?_
                            refine lv_topi (fun x_53 ex_53 => ?_)
                            refine lv_istore (lv' := [(9, .int x_53), (8, .int x_50), (7, .int x_47), (6, .int x_26), (11, .int 0), (10, .int y5_4), (0, .ref (ad 0 0)), (1, .int x), (2, .int y), (3, .int w), (4, .int v), (5, .int t)]) hx hb dX10_judge_213 hl (by decide) rfl (fun ls hl => ?_)
                            obtain ⟨x_54, ex_54⟩ : ∃ y : Int32, y = y5_4 + 1 := ⟨_, rfl⟩
                            try have tx_54 : x_54.toInt = y5_4.toInt + 1 := by rw [ex_54]; exact gz_addP (x := y5_4.toInt) (y := 1) rfl (by decide) (by omega) (by omega)
                            refine lv_iinc (v := (x_54)) (lv' := [(10, .int x_54), (9, .int x_53), (8, .int x_50), (7, .int x_47), (6, .int x_26), (11, .int 0), (0, .ref (ad 0 0)), (1, .int x), (2, .int y), (3, .int w), (4, .int v), (5, .int t)]) hx hb dX10_judge_215 hl (k := 5) rfl (by rw [ex_54]; rfl) (by decide) rfl (fun ls hl => ?_)
                            refine lv_goto (tgt := 40) hx hb dX10_judge_218 (by decide) ?_
                            exact ih_5  (x_26 : Int32) (x_47 : Int32) (x_50 : Int32) (x_53 : Int32) (x_54 : Int32) H _ ls (by omega)  (by omega) (by have hb0 : (0 : Int) ≤ (st 0 0 37).toInt ∧ (st 0 0 37).toInt ≤ (300 : Int) := hB_st.1 0 0 37; omega) (sW.go hv5_2 (by omega) (by omega) (pJa_t (by omega)) ex_26 (ex_25.trans ((congrFun (congrFun (congrFun est_1 19) 0) (y5_4.toNatClampNeg)).trans (congrFun (congrFun (gU_k (by decide)) 0) (y5_4.toNatClampNeg))))) (sW.go hv5_3 (by omega) (by omega) (pJr_t (by omega)) ex_47 (ex_46.trans ((congrFun (congrFun (congrFun est_1 19) 0) (y5_4.toNatClampNeg)).trans (congrFun (congrFun (gU_k (by decide)) 0) (y5_4.toNatClampNeg))))) (sW.zero hv5_4 (by omega) (by omega) (pJk_f (by omega)) ex_50) (sW.zero hv5_5 (by omega) (by omega) (pJk_f (by omega)) ex_53) hM hS (lv_sub hl [0, 1, 2, 3, 4, 6, 7, 8, 9, 10, 11] rfl)
                          · have ic_52 := gz_eqn (rfl : x_51.toInt = x_51.toInt) (by decide : (1 : Int32).toInt = 1) c_52
                            refine lv_iload hx hb dX10_judge_196 (lv_at hl 3 rfl) ?_
                            refine lv_if_eq (tgt := 211) hx hb dX10_judge_198 (by decide) (fun _ => ?_) (fun h9 => absurd (by decide) h9)
                            refine lv_iconst (v := 0) hx hb dX10_judge_211 (by decide) ?_
                            refine lv_iadd hx hb dX10_judge_212 ?_
                            refine lv_topi (fun x_55 ex_55 => ?_)
                            refine lv_istore (lv' := [(9, .int x_55), (8, .int x_50), (7, .int x_47), (6, .int x_26), (11, .int 0), (10, .int y5_4), (0, .ref (ad 0 0)), (1, .int x), (2, .int y), (3, .int w), (4, .int v), (5, .int t)]) hx hb dX10_judge_213 hl (by decide) rfl (fun ls hl => ?_)
                            obtain ⟨x_56, ex_56⟩ : ∃ y : Int32, y = y5_4 + 1 := ⟨_, rfl⟩
                            try have tx_56 : x_56.toInt = y5_4.toInt + 1 := by rw [ex_56]; exact gz_addP (x := y5_4.toInt) (y := 1) rfl (by decide) (by omega) (by omega)
                            refine lv_iinc (v := (x_56)) (lv' := [(10, .int x_56), (9, .int x_55), (8, .int x_50), (7, .int x_47), (6, .int x_26), (11, .int 0), (0, .ref (ad 0 0)), (1, .int x), (2, .int y), (3, .int w), (4, .int v), (5, .int t)]) hx hb dX10_judge_215 hl (k := 5) rfl (by rw [ex_56]; rfl) (by decide) rfl (fun ls hl => ?_)
                            refine lv_goto (tgt := 40) hx hb dX10_judge_218 (by decide) ?_
                            exact ih_5  (x_26 : Int32) (x_47 : Int32) (x_50 : Int32) (x_55 : Int32) (x_56 : Int32) H _ ls (by omega)  (by omega) (by have hb0 : (0 : Int) ≤ (st 0 0 37).toInt ∧ (st 0 0 37).toInt ≤ (300 : Int) := hB_st.1 0 0 37; omega) (sW.go hv5_2 (by omega) (by omega) (pJa_t (by omega)) ex_26 (ex_25.trans ((congrFun (congrFun (congrFun est_1 19) 0) (y5_4.toNatClampNeg)).trans (congrFun (congrFun (gU_k (by decide)) 0) (y5_4.toNatClampNeg))))) (sW.go hv5_3 (by omega) (by omega) (pJr_t (by omega)) ex_47 (ex_46.trans ((congrFun (congrFun (congrFun est_1 19) 0) (y5_4.toNatClampNeg)).trans (congrFun (congrFun (gU_k (by decide)) 0) (y5_4.toNatClampNeg))))) (sW.zero hv5_4 (by omega) (by omega) (pJk_f (by omega)) ex_50) (sW.zero hv5_5 (by omega) (by omega) (pJk_f (by omega)) ex_55) hM hS (lv_sub hl [0, 1, 2, 3, 4, 6, 7, 8, 9, 10, 11] rfl)
                        · have ic_49 := gz_eqn (rfl : x_48.toInt = x_48.toInt) (by decide : (0 : Int32).toInt = 0) c_49
                          refine lv_iload hx hb dX10_judge_164 (lv_at hl 2 rfl) ?_
                          refine lv_if_eq (tgt := 179) hx hb dX10_judge_166 (by decide) (fun _ => ?_) (fun h9 => absurd (by decide) h9)
                          refine lv_iconst (v := 0) hx hb dX10_judge_179 (by decide) ?_
                          refine lv_iadd hx hb dX10_judge_180 ?_
                          refine lv_topi (fun x_57 ex_57 => ?_)
                          refine lv_istore (lv' := [(8, .int x_57), (7, .int x_47), (6, .int x_26), (11, .int 0), (10, .int y5_4), (9, .int y5_3), (0, .ref (ad 0 0)), (1, .int x), (2, .int y), (3, .int w), (4, .int v), (5, .int t)]) hx hb dX10_judge_181 hl (by decide) rfl (fun ls hl => ?_)
                          refine lv_iload hx hb dX10_judge_183 (lv_at hl 5 rfl) ?_
                          refine lv_aload_n hx hb dX10_judge_185 rfl (lv_at hl 6 rfl) ?_
                          refine gs_get (C := RX10) (T := TX10) (N := 59) hx hb hts inX10 hown hK hM 0 0 35 (by decide) rfl rfl (by decide) (hts _ gm_936) (fun _ h9 => h9) rfl dX10_judge_186 ?_
                          refine lv_iload hx hb dX10_judge_189 (lv_at hl 4 rfl) ?_
                          refine gs_iald hx hb hK hM 20 0 (by decide) rfl (vp_in_iff.mpr ⟨by omega, by omega⟩) dX10_judge_191 ?_
                          refine lv_topi (fun x_58 ex_58 => ?_)
                          have qx_58 : x_58.toInt = (st_1 20 0 (y5_4.toNatClampNeg)).toInt := congrArg Int32.toInt ex_58
                          have rx_58 : x_58.toInt = ((st 20 0 (y5_4.toNatClampNeg)) : Int32).toInt := by rw [ex_58]; exact congrArg Int32.toInt (((congrFun (congrFun (congrFun est_1 20) 0) (y5_4.toNatClampNeg)).trans (congrFun (congrFun (gU_k (by decide)) 0) (y5_4.toNatClampNeg))))
                          refine lv_iconst (v := 1) hx hb dX10_judge_192 (by decide) ?_
                          refine lv_icmp_ne (tgt := 211) hx hb dX10_judge_193 (by decide) (fun c_59 => ?_) (fun c_59 => ?_)
                          · have ic_59 := gz_ne (rfl : x_58.toInt = x_58.toInt) (by decide : (1 : Int32).toInt = 1) c_59
                            refine lv_iconst (v := 0) hx hb dX10_judge_211 (by decide) ?_
                            refine lv_iadd hx hb dX10_judge_212 ?_
                            refine lv_topi (fun x_60 ex_60 => ?_)
                            refine lv_istore (lv' := [(9, .int x_60), (8, .int x_57), (7, .int x_47), (6, .int x_26), (11, .int 0), (10, .int y5_4), (0, .ref (ad 0 0)), (1, .int x), (2, .int y), (3, .int w), (4, .int v), (5, .int t)]) hx hb dX10_judge_213 hl (by decide) rfl (fun ls hl => ?_)
                            obtain ⟨x_61, ex_61⟩ : ∃ y : Int32, y = y5_4 + 1 := ⟨_, rfl⟩
                            try have tx_61 : x_61.toInt = y5_4.toInt + 1 := by rw [ex_61]; exact gz_addP (x := y5_4.toInt) (y := 1) rfl (by decide) (by omega) (by omega)
                            refine lv_iinc (v := (x_61)) (lv' := [(10, .int x_61), (9, .int x_60), (8, .int x_57), (7, .int x_47), (6, .int x_26), (11, .int 0), (0, .ref (ad 0 0)), (1, .int x), (2, .int y), (3, .int w), (4, .int v), (5, .int t)]) hx hb dX10_judge_215 hl (k := 5) rfl (by rw [ex_61]; rfl) (by decide) rfl (fun ls hl => ?_)
                            refine lv_goto (tgt := 40) hx hb dX10_judge_218 (by decide) ?_
                            exact ih_5  (x_26 : Int32) (x_47 : Int32) (x_57 : Int32) (x_60 : Int32) (x_61 : Int32) H _ ls (by omega)  (by omega) (by have hb0 : (0 : Int) ≤ (st 0 0 37).toInt ∧ (st 0 0 37).toInt ≤ (300 : Int) := hB_st.1 0 0 37; omega) (sW.go hv5_2 (by omega) (by omega) (pJa_t (by omega)) ex_26 (ex_25.trans ((congrFun (congrFun (congrFun est_1 19) 0) (y5_4.toNatClampNeg)).trans (congrFun (congrFun (gU_k (by decide)) 0) (y5_4.toNatClampNeg))))) (sW.go hv5_3 (by omega) (by omega) (pJr_t (by omega)) ex_47 (ex_46.trans ((congrFun (congrFun (congrFun est_1 19) 0) (y5_4.toNatClampNeg)).trans (congrFun (congrFun (gU_k (by decide)) 0) (y5_4.toNatClampNeg))))) (sW.zero hv5_4 (by omega) (by omega) (pJk_f (by omega)) ex_57) (sW.zero hv5_5 (by omega) (by omega) (pJk_f (by omega)) ex_60) hM hS (lv_sub hl [0, 1, 2, 3, 4, 6, 7, 8, 9, 10, 11] rfl)
                          · have ic_59 := gz_eqn (rfl : x_58.toInt = x_58.toInt) (by decide : (1 : Int32).toInt = 1) c_59
                            refine lv_iload hx hb dX10_judge_196 (lv_at hl 3 rfl) ?_
                            refine lv_if_eq (tgt := 211) hx hb dX10_judge_198 (by decide) (fun _ => ?_) (fun h9 => absurd (by decide) h9)
                            refine lv_iconst (v := 0) hx hb dX10_judge_211 (by decide) ?_
                            refine lv_iadd hx hb dX10_judge_212 ?_
                            refine lv_topi (fun x_62 ex_62 => ?_)
                            refine lv_istore (lv' := [(9, .int x_62), (8, .int x_57), (7, .int x_47), (6, .int x_26), (11, .int 0), (10, .int y5_4), (0, .ref (ad 0 0)), (1, .int x), (2, .int y), (3, .int w), (4, .int v), (5, .int t)]) hx hb dX10_judge_213 hl (by decide) rfl (fun ls hl => ?_)
                            obtain ⟨x_63, ex_63⟩ : ∃ y : Int32, y = y5_4 + 1 := ⟨_, rfl⟩
                            try have tx_63 : x_63.toInt = y5_4.toInt + 1 := by rw [ex_63]; exact gz_addP (x := y5_4.toInt) (y := 1) rfl (by decide) (by omega) (by omega)
                            refine lv_iinc (v := (x_63)) (lv' := [(10, .int x_63), (9, .int x_62), (8, .int x_57), (7, .int x_47), (6, .int x_26), (11, .int 0), (0, .ref (ad 0 0)), (1, .int x), (2, .int y), (3, .int w), (4, .int v), (5, .int t)]) hx hb dX10_judge_215 hl (k := 5) rfl (by rw [ex_63]; rfl) (by decide) rfl (fun ls hl => ?_)
                            refine lv_goto (tgt := 40) hx hb dX10_judge_218 (by decide) ?_
                            exact ih_5  (x_26 : Int32) (x_47 : Int32) (x_57 : Int32) (x_62 : Int32) (x_63 : Int32) H _ ls (by omega)  (by omega) (by have hb0 : (0 : Int) ≤ (st 0 0 37).toInt ∧ (st 0 0 37).toInt ≤ (300 : Int) := hB_st.1 0 0 37; omega) (sW.go hv5_2 (by omega) (by omega) (pJa_t (by omega)) ex_26 (ex_25.trans ((congrFun (congrFun (congrFun est_1 19) 0) (y5_4.toNatClampNeg)).trans (congrFun (congrFun (gU_k (by decide)) 0) (y5_4.toNatClampNeg))))) (sW.go hv5_3 (by omega) (by omega) (pJr_t (by omega)) ex_47 (ex_46.trans ((congrFun (congrFun (congrFun est_1 19) 0) (y5_4.toNatClampNeg)).trans (congrFun (congrFun (gU_k (by decide)) 0) (y5_4.toNatClampNeg))))) (sW.zero hv5_4 (by omega) (by omega) (pJk_f (by omega)) ex_57) (sW.zero hv5_5 (by omega) (by omega) (pJk_f (by omega)) ex_62) hM hS (lv_sub hl [0, 1, 2, 3, 4, 6, 7, 8, 9, 10, 11] rfl)
                    · have ic_24 := gz_nlt (rfl : x_23.toInt = x_23.toInt) (by decide : (0 : Int32).toInt = 0) c_24
                      refine lv_aload_n hx hb dX10_judge_95 rfl (lv_at hl 5 rfl) ?_
                      refine gs_get (C := RX10) (T := TX10) (N := 59) hx hb hts inX10 hown hK hM 0 0 36 (by decide) rfl rfl (by decide) (hts _ gm_937) (fun _ h9 => h9) rfl dX10_judge_96 ?_
                      refine lv_iload hx hb dX10_judge_99 (lv_at hl 0 rfl) ?_
                      refine gs_iald hx hb hK hM 21 0 (by decide) rfl (vp_in_iff.mpr ⟨by omega, by omega⟩) dX10_judge_101 ?_
                      refine lv_topi (fun x_64 ex_64 => ?_)
                      have qx_64 : x_64.toInt = (st_1 21 0 (y5_4.toNatClampNeg)).toInt := congrArg Int32.toInt ex_64
                      have rx_64 : x_64.toInt = ((st 21 0 (y5_4.toNatClampNeg)) : Int32).toInt := by rw [ex_64]; exact congrArg Int32.toInt (((congrFun (congrFun (congrFun est_1 21) 0) (y5_4.toNatClampNeg)).trans (congrFun (congrFun (gU_k (by decide)) 0) (y5_4.toNatClampNeg))))
                      refine lv_iload hx hb dX10_judge_102 (lv_at hl 9 rfl) ?_
                      refine lv_icmp_gt (tgt := 111) hx hb dX10_judge_104 (by decide) (fun c_65 => ?_) (fun c_65 => ?_)
                      · have ic_65 := gz_lt (rfl : v.toInt = v.toInt) (rfl : x_64.toInt = x_64.toInt) c_65
                        have lc_65 := gi_hi x_64
                        refine lv_iconst (v := 0) hx hb dX10_judge_111 (by decide) ?_
                        refine lv_istore (lv' := [(11, .int 0), (10, .int y5_4), (9, .int y5_3), (8, .int y5_2), (7, .int y5_1), (6, .int y5_0), (0, .ref (ad 0 0)), (1, .int x), (2, .int y), (3, .int w), (4, .int v), (5, .int t)]) hx hb dX10_judge_112 hl (by decide) rfl (fun ls hl => ?_)
                        refine lv_iload hx hb dX10_judge_114 (lv_at hl 5 rfl) ?_
                        refine lv_aload_n hx hb dX10_judge_116 rfl (lv_at hl 6 rfl) ?_
                        refine gs_get (C := RX10) (T := TX10) (N := 59) hx hb hts inX10 hown hK hM 0 0 34 (by decide) rfl rfl (by decide) (hts _ gm_935) (fun _ h9 => h9) rfl dX10_judge_117 ?_
                        refine lv_iload hx hb dX10_judge_120 (lv_at hl 1 rfl) ?_
                        refine gs_iald hx hb hK hM 19 0 (by decide) rfl (vp_in_iff.mpr ⟨by omega, by omega⟩) dX10_judge_122 ?_
                        refine lv_topi (fun x_66 ex_66 => ?_)
                        have qx_66 : x_66.toInt = (st_1 19 0 (y5_4.toNatClampNeg)).toInt := congrArg Int32.toInt ex_66
                        have rx_66 : x_66.toInt = ((st 19 0 (y5_4.toNatClampNeg)) : Int32).toInt := by rw [ex_66]; exact congrArg Int32.toInt (((congrFun (congrFun (congrFun est_1 19) 0) (y5_4.toNatClampNeg)).trans (congrFun (congrFun (gU_k (by decide)) 0) (y5_4.toNatClampNeg))))
                        refine lv_iadd hx hb dX10_judge_123 ?_
                        refine lv_topi (fun x_67 ex_67 => ?_)
                        refine lv_istore (lv' := [(6, .int x_67), (11, .int 0), (10, .int y5_4), (9, .int y5_3), (8, .int y5_2), (7, .int y5_1), (0, .ref (ad 0 0)), (1, .int x), (2, .int y), (3, .int w), (4, .int v), (5, .int t)]) hx hb dX10_judge_124 hl (by decide) rfl (fun ls hl => ?_)
                        refine lv_iload hx hb dX10_judge_126 (lv_at hl 5 rfl) ?_
                        refine lv_aload_n hx hb dX10_judge_128 rfl (lv_at hl 6 rfl) ?_
                        refine gs_get (C := RX10) (T := TX10) (N := 59) hx hb hts inX10 hown hK hM 0 0 35 (by decide) rfl rfl (by decide) (hts _ gm_936) (fun _ h9 => h9) rfl dX10_judge_129 ?_
                        refine lv_iload hx hb dX10_judge_132 (lv_at hl 2 rfl) ?_
                        refine gs_iald hx hb hK hM 20 0 (by decide) rfl (vp_in_iff.mpr ⟨by omega, by omega⟩) dX10_judge_134 ?_
                        refine lv_topi (fun x_68 ex_68 => ?_)
                        have qx_68 : x_68.toInt = (st_1 20 0 (y5_4.toNatClampNeg)).toInt := congrArg Int32.toInt ex_68
                        have rx_68 : x_68.toInt = ((st 20 0 (y5_4.toNatClampNeg)) : Int32).toInt := by rw [ex_68]; exact congrArg Int32.toInt (((congrFun (congrFun (congrFun est_1 20) 0) (y5_4.toNatClampNeg)).trans (congrFun (congrFun (gU_k (by decide)) 0) (y5_4.toNatClampNeg))))
                        refine lv_if_ne (tgt := 148) hx hb dX10_judge_135 (by decide) (fun c_69 => ?_) (fun c_69 => ?_)
                        · have ic_69 := gz_ne (rfl : x_68.toInt = x_68.toInt) (by decide : (0 : Int32).toInt = 0) c_69
                          refine lv_iconst (v := 0) hx hb dX10_judge_148 (by decide) ?_
                          refine lv_iadd hx hb dX10_judge_149 ?_
                          refine lv_topi (fun x_70 ex_70 => ?_)
                          refine lv_istore (lv' := [(7, .int x_70), (6, .int x_67), (11, .int 0), (10, .int y5_4), (9, .int y5_3), (8, .int y5_2), (0, .ref (ad 0 0)), (1, .int x), (2, .int y), (3, .int w), (4, .int v), (5, .int t)]) hx hb dX10_judge_150 hl (by decide) rfl (fun ls hl => ?_)
                          refine lv_iload hx hb dX10_judge_152 (lv_at hl 5 rfl) ?_
                          refine lv_aload_n hx hb dX10_judge_154 rfl (lv_at hl 6 rfl) ?_
                          refine gs_get (C := RX10) (T := TX10) (N := 59) hx hb hts inX10 hown hK hM 0 0 35 (by decide) rfl rfl (by decide) (hts _ gm_936) (fun _ h9 => h9) rfl dX10_judge_155 ?_
                          refine lv_iload hx hb dX10_judge_158 (lv_at hl 3 rfl) ?_
                          refine gs_iald hx hb hK hM 20 0 (by decide) rfl (vp_in_iff.mpr ⟨by omega, by omega⟩) dX10_judge_160 ?_
                          refine lv_topi (fun x_71 ex_71 => ?_)
                          have qx_71 : x_71.toInt = (st_1 20 0 (y5_4.toNatClampNeg)).toInt := congrArg Int32.toInt ex_71
                          have rx_71 : x_71.toInt = ((st 20 0 (y5_4.toNatClampNeg)) : Int32).toInt := by rw [ex_71]; exact congrArg Int32.toInt (((congrFun (congrFun (congrFun est_1 20) 0) (y5_4.toNatClampNeg)).trans (congrFun (congrFun (gU_k (by decide)) 0) (y5_4.toNatClampNeg))))
                          refine lv_if_ne (tgt := 179) hx hb dX10_judge_161 (by decide) (fun c_72 => ?_) (fun c_72 => ?_)
                          · have ic_72 := gz_ne (rfl : x_71.toInt = x_71.toInt) (by decide : (0 : Int32).toInt = 0) c_72
                            refine lv_iconst (v := 0) hx hb dX10_judge_179 (by decide) ?_
                            refine lv_iadd hx hb dX10_judge_180 ?_
                            refine lv_topi (fun x_73 ex_73 => ?_)
                            refine lv_istore (lv' := [(8, .int x_73), (7, .int x_70), (6, .int x_67), (11, .int 0), (10, .int y5_4), (9, .int y5_3), (0, .ref (ad 0 0)), (1, .int x), (2, .int y), (3, .int w), (4, .int v), (5, .int t)]) hx hb dX10_judge_181 hl (by decide) rfl (fun ls hl => ?_)
                            refine lv_iload hx hb dX10_judge_183 (lv_at hl 5 rfl) ?_
                            refine lv_aload_n hx hb dX10_judge_185 rfl (lv_at hl 6 rfl) ?_
                            refine gs_get (C := RX10) (T := TX10) (N := 59) hx hb hts inX10 hown hK hM 0 0 35 (by decide) rfl rfl (by decide) (hts _ gm_936) (fun _ h9 => h9) rfl dX10_judge_186 ?_
                            refine lv_iload hx hb dX10_judge_189 (lv_at hl 4 rfl) ?_
                            refine gs_iald hx hb hK hM 20 0 (by decide) rfl (vp_in_iff.mpr ⟨by omega, by omega⟩) dX10_judge_191 ?_
                            refine lv_topi (fun x_74 ex_74 => ?_)
                            have qx_74 : x_74.toInt = (st_1 20 0 (y5_4.toNatClampNeg)).toInt := congrArg Int32.toInt ex_74
                            have rx_74 : x_74.toInt = ((st 20 0 (y5_4.toNatClampNeg)) : Int32).toInt := by rw [ex_74]; exact congrArg Int32.toInt (((congrFun (congrFun (congrFun est_1 20) 0) (y5_4.toNatClampNeg)).trans (congrFun (congrFun (gU_k (by decide)) 0) (y5_4.toNatClampNeg))))
                            refine lv_iconst (v := 1) hx hb dX10_judge_192 (by decide) ?_
                            refine lv_icmp_ne (tgt := 211) hx hb dX10_judge_193 (by decide) (fun c_75 => ?_) (fun c_75 => ?_)
                            · have ic_75 := gz_ne (rfl : x_74.toInt = x_74.toInt) (by decide : (1 : Int32).toInt = 1) c_75
                              refine lv_iconst (v := 0) hx hb dX10_judge_211 (by decide) ?_
                              refine lv_iadd hx hb dX10_judge_212 ?_
                              refine lv_topi (fun x_76 ex_76 => ?_)
                              refine lv_istore (lv' := [(9, .int x_76), (8, .int x_73), (7, .int x_70), (6, .int x_67), (11, .int 0), (10, .int y5_4), (0, .ref (ad 0 0)), (1, .int x), (2, .int y), (3, .int w), (4, .int v), (5, .int t)]) hx hb dX10_judge_213 hl (by decide) rfl (fun ls hl => ?_)
                              obtain ⟨x_77, ex_77⟩ : ∃ y : Int32, y = y5_4 + 1 := ⟨_, rfl⟩
                              try have tx_77 : x_77.toInt = y5_4.toInt + 1 := by rw [ex_77]; exact gz_addP (x := y5_4.toInt) (y := 1) rfl (by decide) (by omega) (by omega)
                              refine lv_iinc (v := (x_77)) (lv' := [(10, .int x_77), (9, .int x_76), (8, .int x_73), (7, .int x_70), (6, .int x_67), (11, .int 0), (0, .ref (ad 0 0)), (1, .int x), (2, .int y), (3, .int w), (4, .int v), (5, .int t)]) hx hb dX10_judge_215 hl (k := 5) rfl (by rw [ex_77]; rfl) (by decide) rfl (fun ls hl => ?_)
                              refine lv_goto (tgt := 40) hx hb dX10_judge_218 (by decide) ?_
                              exact ih_5  (x_67 : Int32) (x_70 : Int32) (x_73 : Int32) (x_76 : Int32) (x_77 : Int32) H _ ls (by omega)  (by omega) (by have hb0 : (0 : Int) ≤ (st 0 0 37).toInt ∧ (st 0 0 37).toInt ≤ (300 : Int) := hB_st.1 0 0 37; omega) (sW.go hv5_2 (by omega) (by omega) (pJa_t (by omega)) ex_67 (ex_66.trans ((congrFun (congrFun (congrFun est_1 19) 0) (y5_4.toNatClampNeg)).trans (congrFun (congrFun (gU_k (by decide)) 0) (y5_4.toNatClampNeg))))) (sW.zero hv5_3 (by omega) (by omega) (pJr_f (by omega)) ex_70) (sW.zero hv5_4 (by omega) (by omega) (pJk_f (by omega)) ex_73) (sW.zero hv5_5 (by omega) (by omega) (pJk_f (by omega)) ex_76) hM hS (lv_sub hl [0, 1, 2, 3, 4, 6, 7, 8, 9, 10, 11] rfl)
                            · have ic_75 := gz_eqn (rfl : x_74.toInt = x_74.toInt) (by decide : (1 : Int32).toInt = 1) c_75
                              refine lv_iload hx hb dX10_judge_196 (lv_at hl 3 rfl) ?_
                              refine lv_if_eq (tgt := 211) hx hb dX10_judge_198 (by decide) (fun _ => ?_) (fun h9 => absurd (by decide) h9)
                              refine lv_iconst (v := 0) hx hb dX10_judge_211 (by decide) ?_
                              refine lv_iadd hx hb dX10_judge_212 ?_
                              refine lv_topi (fun x_78 ex_78 => ?_)
                              refine lv_istore (lv' := [(9, .int x_78), (8, .int x_73), (7, .int x_70), (6, .int x_67), (11, .int 0), (10, .int y5_4), (0, .ref (ad 0 0)), (1, .int x), (2, .int y), (3, .int w), (4, .int v), (5, .int t)]) hx hb dX10_judge_213 hl (by decide) rfl (fun ls hl => ?_)
                              obtain ⟨x_79, ex_79⟩ : ∃ y : Int32, y = y5_4 + 1 := ⟨_, rfl⟩
                              try have tx_79 : x_79.toInt = y5_4.toInt + 1 := by rw [ex_79]; exact gz_addP (x := y5_4.toInt) (y := 1) rfl (by decide) (by omega) (by omega)
                              refine lv_iinc (v := (x_79)) (lv' := [(10, .int x_79), (9, .int x_78), (8, .int x_73), (7, .int x_70), (6, .int x_67), (11, .int 0), (0, .ref (ad 0 0)), (1, .int x), (2, .int y), (3, .int w), (4, .int v), (5, .int t)]) hx hb dX10_judge_215 hl (k := 5) rfl (by rw [ex_79]; rfl) (by decide) rfl (fun ls hl => ?_)
                              refine lv_goto (tgt := 40) hx hb dX10_judge_218 (by decide) ?_
                              exact ih_5  (x_67 : Int32) (x_70 : Int32) (x_73 : Int32) (x_78 : Int32) (x_79 : Int32) H _ ls (by omega)  (by omega) (by have hb0 : (0 : Int) ≤ (st 0 0 37).toInt ∧ (st 0 0 37).toInt ≤ (300 : Int) := hB_st.1 0 0 37; omega) (sW.go hv5_2 (by omega) (by omega) (pJa_t (by omega)) ex_67 (ex_66.trans ((congrFun (congrFun (congrFun est_1 19) 0) (y5_4.toNatClampNeg)).trans (congrFun (congrFun (gU_k (by decide)) 0) (y5_4.toNatClampNeg))))) (sW.zero hv5_3 (by omega) (by omega) (pJr_f (by omega)) ex_70) (sW.zero hv5_4 (by omega) (by omega) (pJk_f (by omega)) ex_73) (sW.zero hv5_5 (by omega) (by omega) (pJk_f (by omega)) ex_78) hM hS (lv_sub hl [0, 1, 2, 3, 4, 6, 7, 8, 9, 10, 11] rfl)
                          · have ic_72 := gz_eqn (rfl : x_71.toInt = x_71.toInt) (by decide : (0 : Int32).toInt = 0) c_72
                            refine lv_iload hx hb dX10_judge_164 (lv_at hl 2 rfl) ?_
                            refine lv_if_eq (tgt := 179) hx hb dX10_judge_166 (by decide) (fun _ => ?_) (fun h9 => absurd (by decide) h9)
                            refine lv_iconst (v := 0) hx hb dX10_judge_179 (by decide) ?_
                            refine lv_iadd hx hb dX10_judge_180 ?_
                            refine lv_topi (fun x_80 ex_80 => ?_)
                            refine lv_istore (lv' := [(8, .int x_80), (7, .int x_70), (6, .int x_67), (11, .int 0), (10, .int y5_4), (9, .int y5_3), (0, .ref (ad 0 0)), (1, .int x), (2, .int y), (3, .int w), (4, .int v), (5, .int t)]) hx hb dX10_judge_181 hl (by decide) rfl (fun ls hl => ?_)
                            refine lv_iload hx hb dX10_judge_183 (lv_at hl 5 rfl) ?_
                            refine lv_aload_n hx hb dX10_judge_185 rfl (lv_at hl 6 rfl) ?_
                            refine gs_get (C := RX10) (T := TX10) (N := 59) hx hb hts inX10 hown hK hM 0 0 35 (by decide) rfl rfl (by decide) (hts _ gm_936) (fun _ h9 => h9) rfl dX10_judge_186 ?_
                            refine lv_iload hx hb dX10_judge_189 (lv_at hl 4 rfl) ?_
                            refine gs_iald hx hb hK hM 20 0 (by decide) rfl (vp_in_iff.mpr ⟨by omega, by omega⟩) dX10_judge_191 ?_
                            refine lv_topi (fun x_81 ex_81 => ?_)
                            have qx_81 : x_81.toInt = (st_1 20 0 (y5_4.toNatClampNeg)).toInt := congrArg Int32.toInt ex_81
                            have rx_81 : x_81.toInt = ((st 20 0 (y5_4.toNatClampNeg)) : Int32).toInt := by rw [ex_81]; exact congrArg Int32.toInt (((congrFun (congrFun (congrFun est_1 20) 0) (y5_4.toNatClampNeg)).trans (congrFun (congrFun (gU_k (by decide)) 0) (y5_4.toNatClampNeg))))
                            refine lv_iconst (v := 1) hx hb dX10_judge_192 (by decide) ?_
                            refine lv_icmp_ne (tgt := 211) hx hb dX10_judge_193 (by decide) (fun c_82 => ?_) (fun c_82 => ?_)
                            · have ic_82 := gz_ne (rfl : x_81.toInt = x_81.toInt) (by decide : (1 : Int32).toInt = 1) c_82
                              refine lv_iconst (v := 0) hx hb dX10_judge_211 (by decide) ?_
                              refine lv_iadd hx hb dX10_judge_212 ?_
                              refine lv_topi (fun x_83 ex_83 => ?_)
                              refine lv_istore (lv' := [(9, .int x_83), (8, .int x_80), (7, .int x_70), (6, .int x_67), (11, .int 0), (10, .int y5_4), (0, .ref (ad 0 0)), (1, .int x), (2, .int y), (3, .int w), (4, .int v), (5, .int t)]) hx hb dX10_judge_213 hl (by decide) rfl (fun ls hl => ?_)
                              obtain ⟨x_84, ex_84⟩ : ∃ y : Int32, y = y5_4 + 1 := ⟨_, rfl⟩
                              try have tx_84 : x_84.toInt = y5_4.toInt + 1 := by rw [ex_84]; exact gz_addP (x := y5_4.toInt) (y := 1) rfl (by decide) (by omega) (by omega)
                              refine lv_iinc (v := (x_84)) (lv' := [(10, .int x_84), (9, .int x_83), (8, .int x_80), (7, .int x_70), (6, .int x_67), (11, .int 0), (0, .ref (ad 0 0)), (1, .int x), (2, .int y), (3, .int w), (4, .int v), (5, .int t)]) hx hb dX10_judge_215 hl (k := 5) rfl (by rw [ex_84]; rfl) (by decide) rfl (fun ls hl => ?_)
                              refine lv_goto (tgt := 40) hx hb dX10_judge_218 (by decide) ?_
                              exact ih_5  (x_67 : Int32) (x_70 : Int32) (x_80 : Int32) (x_83 : Int32) (x_84 : Int32) H _ ls (by omega)  (by omega) (by have hb0 : (0 : Int) ≤ (st 0 0 37).toInt ∧ (st 0 0 37).toInt ≤ (300 : Int) := hB_st.1 0 0 37; omega) (sW.go hv5_2 (by omega) (by omega) (pJa_t (by omega)) ex_67 (ex_66.trans ((congrFun (congrFun (congrFun est_1 19) 0) (y5_4.toNatClampNeg)).trans (congrFun (congrFun (gU_k (by decide)) 0) (y5_4.toNatClampNeg))))) (sW.zero hv5_3 (by omega) (by omega) (pJr_f (by omega)) ex_70) (sW.zero hv5_4 (by omega) (by omega) (pJk_f (by omega)) ex_80) (sW.zero hv5_5 (by omega) (by omega) (pJk_f (by omega)) ex_83) hM hS (lv_sub hl [0, 1, 2, 3, 4, 6, 7, 8, 9, 10, 11] rfl)
                            · have ic_82 := gz_eqn (rfl : x_81.toInt = x_81.toInt) (by decide : (1 : Int32).toInt = 1) c_82
                              refine lv_iload hx hb dX10_judge_196 (lv_at hl 3 rfl) ?_
                              refine lv_if_eq (tgt := 211) hx hb dX10_judge_198 (by decide) (fun _ => ?_) (fun h9 => absurd (by decide) h9)
                              refine lv_iconst (v := 0) hx hb dX10_judge_211 (by decide) ?_
                              refine lv_iadd hx hb dX10_judge_212 ?_
                              refine lv_topi (fun x_85 ex_85 => ?_)
                              refine lv_istore (lv' := [(9, .int x_85), (8, .int x_80), (7, .int x_70), (6, .int x_67), (11, .int 0), (10, .int y5_4), (0, .ref (ad 0 0)), (1, .int x), (2, .int y), (3, .int w), (4, .int v), (5, .int t)]) hx hb dX10_judge_213 hl (by decide) rfl (fun ls hl => ?_)
                              obtain ⟨x_86, ex_86⟩ : ∃ y : Int32, y = y5_4 + 1 := ⟨_, rfl⟩
                              try have tx_86 : x_86.toInt = y5_4.toInt + 1 := by rw [ex_86]; exact gz_addP (x := y5_4.toInt) (y := 1) rfl (by decide) (by omega) (by omega)
                              refine lv_iinc (v := (x_86)) (lv' := [(10, .int x_86), (9, .int x_85), (8, .int x_80), (7, .int x_70), (6, .int x_67), (11, .int 0), (0, .ref (ad 0 0)), (1, .int x), (2, .int y), (3, .int w), (4, .int v), (5, .int t)]) hx hb dX10_judge_215 hl (k := 5) rfl (by rw [ex_86]; rfl) (by decide) rfl (fun ls hl => ?_)
                              refine lv_goto (tgt := 40) hx hb dX10_judge_218 (by decide) ?_
                              exact ih_5  (x_67 : Int32) (x_70 : Int32) (x_80 : Int32) (x_85 : Int32) (x_86 : Int32) H _ ls (by omega)  (by omega) (by have hb0 : (0 : Int) ≤ (st 0 0 37).toInt ∧ (st 0 0 37).toInt ≤ (300 : Int) := hB_st.1 0 0 37; omega) (sW.go hv5_2 (by omega) (by omega) (pJa_t (by omega)) ex_67 (ex_66.trans ((congrFun (congrFun (congrFun est_1 19) 0) (y5_4.toNatClampNeg)).trans (congrFun (congrFun (gU_k (by decide)) 0) (y5_4.toNatClampNeg))))) (sW.zero hv5_3 (by omega) (by omega) (pJr_f (by omega)) ex_70) (sW.zero hv5_4 (by omega) (by omega) (pJk_f (by omega)) ex_80) (sW.zero hv5_5 (by omega) (by omega) (pJk_f (by omega)) ex_85) hM hS (lv_sub hl [0, 1, 2, 3, 4, 6, 7, 8, 9, 10, 11] rfl)
                        · have ic_69 := gz_eqn (rfl : x_68.toInt = x_68.toInt) (by decide : (0 : Int32).toInt = 0) c_69
                          refine lv_aload_n hx hb dX10_judge_138 rfl (lv_at hl 6 rfl) ?_
                          refine gs_get (C := RX10) (T := TX10) (N := 59) hx hb hts inX10 hown hK hM 0 0 34 (by decide) rfl rfl (by decide) (hts _ gm_935) (fun _ h9 => h9) rfl dX10_judge_139 ?_
                          refine lv_iload hx hb dX10_judge_142 (lv_at hl 2 rfl) ?_
                          refine gs_iald hx hb hK hM 19 0 (by decide) rfl (vp_in_iff.mpr ⟨by omega, by omega⟩) dX10_judge_144 ?_
                          refine lv_topi (fun x_87 ex_87 => ?_)
                          have qx_87 : x_87.toInt = (st_1 19 0 (y5_4.toNatClampNeg)).toInt := congrArg Int32.toInt ex_87
                          have rx_87 : x_87.toInt = ((st 19 0 (y5_4.toNatClampNeg)) : Int32).toInt := by rw [ex_87]; exact congrArg Int32.toInt (((congrFun (congrFun (congrFun est_1 19) 0) (y5_4.toNatClampNeg)).trans (congrFun (congrFun (gU_k (by decide)) 0) (y5_4.toNatClampNeg))))
                          refine lv_goto (tgt := 149) hx hb dX10_judge_145 (by decide) ?_
                          refine lv_iadd hx hb dX10_judge_149 ?_
                          refine lv_topi (fun x_88 ex_88 => ?_)
                          refine lv_istore (lv' := [(7, .int x_88), (6, .int x_67), (11, .int 0), (10, .int y5_4), (9, .int y5_3), (8, .int y5_2), (0, .ref (ad 0 0)), (1, .int x), (2, .int y), (3, .int w), (4, .int v), (5, .int t)]) hx hb dX10_judge_150 hl (by decide) rfl (fun ls hl => ?_)
                          refine lv_iload hx hb dX10_judge_152 (lv_at hl 5 rfl) ?_
                          refine lv_aload_n hx hb dX10_judge_154 rfl (lv_at hl 6 rfl) ?_
                          refine gs_get (C := RX10) (T := TX10) (N := 59) hx hb hts inX10 hown hK hM 0 0 35 (by decide) rfl rfl (by decide) (hts _ gm_936) (fun _ h9 => h9) rfl dX10_judge_155 ?_
                          refine lv_iload hx hb dX10_judge_158 (lv_at hl 3 rfl) ?_
                          refine gs_iald hx hb hK hM 20 0 (by decide) rfl (vp_in_iff.mpr ⟨by omega, by omega⟩) dX10_judge_160 ?_
                          refine lv_topi (fun x_89 ex_89 => ?_)
                          have qx_89 : x_89.toInt = (st_1 20 0 (y5_4.toNatClampNeg)).toInt := congrArg Int32.toInt ex_89
                          have rx_89 : x_89.toInt = ((st 20 0 (y5_4.toNatClampNeg)) : Int32).toInt := by rw [ex_89]; exact congrArg Int32.toInt (((congrFun (congrFun (congrFun est_1 20) 0) (y5_4.toNatClampNeg)).trans (congrFun (congrFun (gU_k (by decide)) 0) (y5_4.toNatClampNeg))))
                          refine lv_if_ne (tgt := 179) hx hb dX10_judge_161 (by decide) (fun c_90 => ?_) (fun c_90 => ?_)
                          · have ic_90 := gz_ne (rfl : x_89.toInt = x_89.toInt) (by decide : (0 : Int32).toInt = 0) c_90
                            refine lv_iconst (v := 0) hx hb dX10_judge_179 (by decide) ?_
                            refine lv_iadd hx hb dX10_judge_180 ?_
                            refine lv_topi (fun x_91 ex_91 => ?_)
                            refine lv_istore (lv' := [(8, .int x_91), (7, .int x_88), (6, .int x_67), (11, .int 0), (10, .int y5_4), (9, .int y5_3), (0, .ref (ad 0 0)), (1, .int x), (2, .int y), (3, .int w), (4, .int v), (5, .int t)]) hx hb dX10_judge_181 hl (by decide) rfl (fun ls hl => ?_)
                            refine lv_iload hx hb dX10_judge_183 (lv_at hl 5 rfl) ?_
                            refine lv_aload_n hx hb dX10_judge_185 rfl (lv_at hl 6 rfl) ?_
                            refine gs_get (C := RX10) (T := TX10) (N := 59) hx hb hts inX10 hown hK hM 0 0 35 (by decide) rfl rfl (by decide) (hts _ gm_936) (fun _ h9 => h9) rfl dX10_judge_186 ?_
                            refine lv_iload hx hb dX10_judge_189 (lv_at hl 4 rfl) ?_
                            refine gs_iald hx hb hK hM 20 0 (by decide) rfl (vp_in_iff.mpr ⟨by omega, by omega⟩) dX10_judge_191 ?_
                            refine lv_topi (fun x_92 ex_92 => ?_)
                            have qx_92 : x_92.toInt = (st_1 20 0 (y5_4.toNatClampNeg)).toInt := congrArg Int32.toInt ex_92
                            have rx_92 : x_92.toInt = ((st 20 0 (y5_4.toNatClampNeg)) : Int32).toInt := by rw [ex_92]; exact congrArg Int32.toInt (((congrFun (congrFun (congrFun est_1 20) 0) (y5_4.toNatClampNeg)).trans (congrFun (congrFun (gU_k (by decide)) 0) (y5_4.toNatClampNeg))))
                            refine lv_iconst (v := 1) hx hb dX10_judge_192 (by decide) ?_
                            refine lv_icmp_ne (tgt := 211) hx hb dX10_judge_193 (by decide) (fun c_93 => ?_) (fun c_93 => ?_)
                            · have ic_93 := gz_ne (rfl : x_92.toInt = x_92.toInt) (by decide : (1 : Int32).toInt = 1) c_93
                              refine lv_iconst (v := 0) hx hb dX10_judge_211 (by decide) ?_
                              refine lv_iadd hx hb dX10_judge_212 ?_
                              refine lv_topi (fun x_94 ex_94 => ?_)
                              refine lv_istore (lv' := [(9, .int x_94), (8, .int x_91), (7, .int x_88), (6, .int x_67), (11, .int 0), (10, .int y5_4), (0, .ref (ad 0 0)), (1, .int x), (2, .int y), (3, .int w), (4, .int v), (5, .int t)]) hx hb dX10_judge_213 hl (by decide) rfl (fun ls hl => ?_)
                              obtain ⟨x_95, ex_95⟩ : ∃ y : Int32, y = y5_4 + 1 := ⟨_, rfl⟩
                              try have tx_95 : x_95.toInt = y5_4.toInt + 1 := by rw [ex_95]; exact gz_addP (x := y5_4.toInt) (y := 1) rfl (by decide) (by omega) (by omega)
                              refine lv_iinc (v := (x_95)) (lv' := [(10, .int x_95), (9, .int x_94), (8, .int x_91), (7, .int x_88), (6, .int x_67), (11, .int 0), (0, .ref (ad 0 0)), (1, .int x), (2, .int y), (3, .int w), (4, .int v), (5, .int t)]) hx hb dX10_judge_215 hl (k := 5) rfl (by rw [ex_95]; rfl) (by decide) rfl (fun ls hl => ?_)
                              refine lv_goto (tgt := 40) hx hb dX10_judge_218 (by decide) ?_
                              exact ih_5  (x_67 : Int32) (x_88 : Int32) (x_91 : Int32) (x_94 : Int32) (x_95 : Int32) H _ ls (by omega)  (by omega) (by have hb0 : (0 : Int) ≤ (st 0 0 37).toInt ∧ (st 0 0 37).toInt ≤ (300 : Int) := hB_st.1 0 0 37; omega) (sW.go hv5_2 (by omega) (by omega) (pJa_t (by omega)) ex_67 (ex_66.trans ((congrFun (congrFun (congrFun est_1 19) 0) (y5_4.toNatClampNeg)).trans (congrFun (congrFun (gU_k (by decide)) 0) (y5_4.toNatClampNeg))))) (sW.go hv5_3 (by omega) (by omega) (pJr_t (by omega)) ex_88 (ex_87.trans ((congrFun (congrFun (congrFun est_1 19) 0) (y5_4.toNatClampNeg)).trans (congrFun (congrFun (gU_k (by decide)) 0) (y5_4.toNatClampNeg))))) (sW.zero hv5_4 (by omega) (by omega) (pJk_f (by omega)) ex_91) (sW.zero hv5_5 (by omega) (by omega) (pJk_f (by omega)) ex_94) hM hS (lv_sub hl [0, 1, 2, 3, 4, 6, 7, 8, 9, 10, 11] rfl)
                            · have ic_93 := gz_eqn (rfl : x_92.toInt = x_92.toInt) (by decide : (1 : Int32).toInt = 1) c_93
                              refine lv_iload hx hb dX10_judge_196 (lv_at hl 3 rfl) ?_
                              refine lv_if_eq (tgt := 211) hx hb dX10_judge_198 (by decide) (fun _ => ?_) (fun h9 => absurd (by decide) h9)
                              refine lv_iconst (v := 0) hx hb dX10_judge_211 (by decide) ?_
                              refine lv_iadd hx hb dX10_judge_212 ?_
                              refine lv_topi (fun x_96 ex_96 => ?_)
                              refine lv_istore (lv' := [(9, .int x_96), (8, .int x_91), (7, .int x_88), (6, .int x_67), (11, .int 0), (10, .int y5_4), (0, .ref (ad 0 0)), (1, .int x), (2, .int y), (3, .int w), (4, .int v), (5, .int t)]) hx hb dX10_judge_213 hl (by decide) rfl (fun ls hl => ?_)
                              obtain ⟨x_97, ex_97⟩ : ∃ y : Int32, y = y5_4 + 1 := ⟨_, rfl⟩
                              try have tx_97 : x_97.toInt = y5_4.toInt + 1 := by rw [ex_97]; exact gz_addP (x := y5_4.toInt) (y := 1) rfl (by decide) (by omega) (by omega)
                              refine lv_iinc (v := (x_97)) (lv' := [(10, .int x_97), (9, .int x_96), (8, .int x_91), (7, .int x_88), (6, .int x_67), (11, .int 0), (0, .ref (ad 0 0)), (1, .int x), (2, .int y), (3, .int w), (4, .int v), (5, .int t)]) hx hb dX10_judge_215 hl (k := 5) rfl (by rw [ex_97]; rfl) (by decide) rfl (fun ls hl => ?_)
                              refine lv_goto (tgt := 40) hx hb dX10_judge_218 (by decide) ?_
                              exact ih_5  (x_67 : Int32) (x_88 : Int32) (x_91 : Int32) (x_96 : Int32) (x_97 : Int32) H _ ls (by omega)  (by omega) (by have hb0 : (0 : Int) ≤ (st 0 0 37).toInt ∧ (st 0 0 37).toInt ≤ (300 : Int) := hB_st.1 0 0 37; omega) (sW.go hv5_2 (by omega) (by omega) (pJa_t (by omega)) ex_67 (ex_66.trans ((congrFun (congrFun (congrFun est_1 19) 0) (y5_4.toNatClampNeg)).trans (congrFun (congrFun (gU_k (by decide)) 0) (y5_4.toNatClampNeg))))) (sW.go hv5_3 (by omega) (by omega) (pJr_t (by omega)) ex_88 (ex_87.trans ((congrFun (congrFun (congrFun est_1 19) 0) (y5_4.toNatClampNeg)).trans (congrFun (congrFun (gU_k (by decide)) 0) (y5_4.toNatClampNeg))))) (sW.zero hv5_4 (by omega) (by omega) (pJk_f (by omega)) ex_91) (sW.zero hv5_5 (by omega) (by omega) (pJk_f (by omega)) ex_96) hM hS (lv_sub hl [0, 1, 2, 3, 4, 6, 7, 8, 9, 10, 11] rfl)
                          · have ic_90 := gz_eqn (rfl : x_89.toInt = x_89.toInt) (by decide : (0 : Int32).toInt = 0) c_90
                            refine lv_iload hx hb dX10_judge_164 (lv_at hl 2 rfl) ?_
                            refine lv_if_eq (tgt := 179) hx hb dX10_judge_166 (by decide) (fun _ => ?_) (fun h9 => absurd (by decide) h9)
                            refine lv_iconst (v := 0) hx hb dX10_judge_179 (by decide) ?_
                            refine lv_iadd hx hb dX10_judge_180 ?_
                            refine lv_topi (fun x_98 ex_98 => ?_)
                            refine lv_istore (lv' := [(8, .int x_98), (7, .int x_88), (6, .int x_67), (11, .int 0), (10, .int y5_4), (9, .int y5_3), (0, .ref (ad 0 0)), (1, .int x), (2, .int y), (3, .int w), (4, .int v), (5, .int t)]) hx hb dX10_judge_181 hl (by decide) rfl (fun ls hl => ?_)
                            refine lv_iload hx hb dX10_judge_183 (lv_at hl 5 rfl) ?_
                            refine lv_aload_n hx hb dX10_judge_185 rfl (lv_at hl 6 rfl) ?_
                            refine gs_get (C := RX10) (T := TX10) (N := 59) hx hb hts inX10 hown hK hM 0 0 35 (by decide) rfl rfl (by decide) (hts _ gm_936) (fun _ h9 => h9) rfl dX10_judge_186 ?_
                            refine lv_iload hx hb dX10_judge_189 (lv_at hl 4 rfl) ?_
                            refine gs_iald hx hb hK hM 20 0 (by decide) rfl (vp_in_iff.mpr ⟨by omega, by omega⟩) dX10_judge_191 ?_
                            refine lv_topi (fun x_99 ex_99 => ?_)
                            have qx_99 : x_99.toInt = (st_1 20 0 (y5_4.toNatClampNeg)).toInt := congrArg Int32.toInt ex_99
                            have rx_99 : x_99.toInt = ((st 20 0 (y5_4.toNatClampNeg)) : Int32).toInt := by rw [ex_99]; exact congrArg Int32.toInt (((congrFun (congrFun (congrFun est_1 20) 0) (y5_4.toNatClampNeg)).trans (congrFun (congrFun (gU_k (by decide)) 0) (y5_4.toNatClampNeg))))
                            refine lv_iconst (v := 1) hx hb dX10_judge_192 (by decide) ?_
                            refine lv_icmp_ne (tgt := 211) hx hb dX10_judge_193 (by decide) (fun c_100 => ?_) (fun c_100 => ?_)
                            · have ic_100 := gz_ne (rfl : x_99.toInt = x_99.toInt) (by decide : (1 : Int32).toInt = 1) c_100
                              refine lv_iconst (v := 0) hx hb dX10_judge_211 (by decide) ?_
                              refine lv_iadd hx hb dX10_judge_212 ?_
                              refine lv_topi (fun x_101 ex_101 => ?_)
                              refine lv_istore (lv' := [(9, .int x_101), (8, .int x_98), (7, .int x_88), (6, .int x_67), (11, .int 0), (10, .int y5_4), (0, .ref (ad 0 0)), (1, .int x), (2, .int y), (3, .int w), (4, .int v), (5, .int t)]) hx hb dX10_judge_213 hl (by decide) rfl (fun ls hl => ?_)
                              obtain ⟨x_102, ex_102⟩ : ∃ y : Int32, y = y5_4 + 1 := ⟨_, rfl⟩
                              try have tx_102 : x_102.toInt = y5_4.toInt + 1 := by rw [ex_102]; exact gz_addP (x := y5_4.toInt) (y := 1) rfl (by decide) (by omega) (by omega)
                              refine lv_iinc (v := (x_102)) (lv' := [(10, .int x_102), (9, .int x_101), (8, .int x_98), (7, .int x_88), (6, .int x_67), (11, .int 0), (0, .ref (ad 0 0)), (1, .int x), (2, .int y), (3, .int w), (4, .int v), (5, .int t)]) hx hb dX10_judge_215 hl (k := 5) rfl (by rw [ex_102]; rfl) (by decide) rfl (fun ls hl => ?_)
                              refine lv_goto (tgt := 40) hx hb dX10_judge_218 (by decide) ?_
                              exact ih_5  (x_67 : Int32) (x_88 : Int32) (x_98 : Int32) (x_101 : Int32) (x_102 : Int32) H _ ls (by omega)  (by omega) (by have hb0 : (0 : Int) ≤ (st 0 0 37).toInt ∧ (st 0 0 37).toInt ≤ (300 : Int) := hB_st.1 0 0 37; omega) (sW.go hv5_2 (by omega) (by omega) (pJa_t (by omega)) ex_67 (ex_66.trans ((congrFun (congrFun (congrFun est_1 19) 0) (y5_4.toNatClampNeg)).trans (congrFun (congrFun (gU_k (by decide)) 0) (y5_4.toNatClampNeg))))) (sW.go hv5_3 (by omega) (by omega) (pJr_t (by omega)) ex_88 (ex_87.trans ((congrFun (congrFun (congrFun est_1 19) 0) (y5_4.toNatClampNeg)).trans (congrFun (congrFun (gU_k (by decide)) 0) (y5_4.toNatClampNeg))))) (sW.zero hv5_4 (by omega) (by omega) (pJk_f (by omega)) ex_98) (sW.zero hv5_5 (by omega) (by omega) (pJk_f (by omega)) ex_101) hM hS (lv_sub hl [0, 1, 2, 3, 4, 6, 7, 8, 9, 10, 11] rfl)
                            · have ic_100 := gz_eqn (rfl : x_99.toInt = x_99.toInt) (by decide : (1 : Int32).toInt = 1) c_100
                              refine lv_iload hx hb dX10_judge_196 (lv_at hl 3 rfl) ?_
                              refine lv_if_eq (tgt := 211) hx hb dX10_judge_198 (by decide) (fun _ => ?_) (fun h9 => absurd (by decide) h9)
                              refine lv_iconst (v := 0) hx hb dX10_judge_211 (by decide) ?_
                              refine lv_iadd hx hb dX10_judge_212 ?_
                              refine lv_topi (fun x_103 ex_103 => ?_)
                              refine lv_istore (lv' := [(9, .int x_103), (8, .int x_98), (7, .int x_88), (6, .int x_67), (11, .int 0), (10, .int y5_4), (0, .ref (ad 0 0)), (1, .int x), (2, .int y), (3, .int w), (4, .int v), (5, .int t)]) hx hb dX10_judge_213 hl (by decide) rfl (fun ls hl => ?_)
                              obtain ⟨x_104, ex_104⟩ : ∃ y : Int32, y = y5_4 + 1 := ⟨_, rfl⟩
                              try have tx_104 : x_104.toInt = y5_4.toInt + 1 := by rw [ex_104]; exact gz_addP (x := y5_4.toInt) (y := 1) rfl (by decide) (by omega) (by omega)
                              refine lv_iinc (v := (x_104)) (lv' := [(10, .int x_104), (9, .int x_103), (8, .int x_98), (7, .int x_88), (6, .int x_67), (11, .int 0), (0, .ref (ad 0 0)), (1, .int x), (2, .int y), (3, .int w), (4, .int v), (5, .int t)]) hx hb dX10_judge_215 hl (k := 5) rfl (by rw [ex_104]; rfl) (by decide) rfl (fun ls hl => ?_)
                              refine lv_goto (tgt := 40) hx hb dX10_judge_218 (by decide) ?_
                              exact ih_5  (x_67 : Int32) (x_88 : Int32) (x_98 : Int32) (x_103 : Int32) (x_104 : Int32) H _ ls (by omega)  (by omega) (by have hb0 : (0 : Int) ≤ (st 0 0 37).toInt ∧ (st 0 0 37).toInt ≤ (300 : Int) := hB_st.1 0 0 37; omega) (sW.go hv5_2 (by omega) (by omega) (pJa_t (by omega)) ex_67 (ex_66.trans ((congrFun (congrFun (congrFun est_1 19) 0) (y5_4.toNatClampNeg)).trans (congrFun (congrFun (gU_k (by decide)) 0) (y5_4.toNatClampNeg))))) (sW.go hv5_3 (by omega) (by omega) (pJr_t (by omega)) ex_88 (ex_87.trans ((congrFun (congrFun (congrFun est_1 19) 0) (y5_4.toNatClampNeg)).trans (congrFun (congrFun (gU_k (by decide)) 0) (y5_4.toNatClampNeg))))) (sW.zero hv5_4 (by omega) (by omega) (pJk_f (by omega)) ex_98) (sW.zero hv5_5 (by omega) (by omega) (pJk_f (by omega)) ex_103) hM hS (lv_sub hl [0, 1, 2, 3, 4, 6, 7, 8, 9, 10, 11] rfl)
                      · have ic_65 := gz_nlt (rfl : v.toInt = v.toInt) (rfl : x_64.toInt = x_64.toInt) c_65
                        refine lv_iconst (v := 1) hx hb dX10_judge_107 (by decide) ?_
                        refine lv_goto (tgt := 112) hx hb dX10_judge_108 (by decide) ?_
                        refine lv_istore (lv' := [(11, .int 1), (10, .int y5_4), (9, .int y5_3), (8, .int y5_2), (7, .int y5_1), (6, .int y5_0), (0, .ref (ad 0 0)), (1, .int x), (2, .int y), (3, .int w), (4, .int v), (5, .int t)]) hx hb dX10_judge_112 hl (by decide) rfl (fun ls hl => ?_)
                        refine lv_iload hx hb dX10_judge_114 (lv_at hl 5 rfl) ?_
                        refine lv_aload_n hx hb dX10_judge_116 rfl (lv_at hl 6 rfl) ?_
                        refine gs_get (C := RX10) (T := TX10) (N := 59) hx hb hts inX10 hown hK hM 0 0 34 (by decide) rfl rfl (by decide) (hts _ gm_935) (fun _ h9 => h9) rfl dX10_judge_117 ?_
                        refine lv_iload hx hb dX10_judge_120 (lv_at hl 1 rfl) ?_
                        refine gs_iald hx hb hK hM 19 0 (by decide) rfl (vp_in_iff.mpr ⟨by omega, by omega⟩) dX10_judge_122 ?_
                        refine lv_topi (fun x_105 ex_105 => ?_)
                        have qx_105 : x_105.toInt = (st_1 19 0 (y5_4.toNatClampNeg)).toInt := congrArg Int32.toInt ex_105
                        have rx_105 : x_105.toInt = ((st 19 0 (y5_4.toNatClampNeg)) : Int32).toInt := by rw [ex_105]; exact congrArg Int32.toInt (((congrFun (congrFun (congrFun est_1 19) 0) (y5_4.toNatClampNeg)).trans (congrFun (congrFun (gU_k (by decide)) 0) (y5_4.toNatClampNeg))))
                        refine lv_iadd hx hb dX10_judge_123 ?_
                        refine lv_topi (fun x_106 ex_106 => ?_)
                        refine lv_istore (lv' := [(6, .int x_106), (11, .int 1), (10, .int y5_4), (9, .int y5_3), (8, .int y5_2), (7, .int y5_1), (0, .ref (ad 0 0)), (1, .int x), (2, .int y), (3, .int w), (4, .int v), (5, .int t)]) hx hb dX10_judge_124 hl (by decide) rfl (fun ls hl => ?_)
                        refine lv_iload hx hb dX10_judge_126 (lv_at hl 5 rfl) ?_
                        refine lv_aload_n hx hb dX10_judge_128 rfl (lv_at hl 6 rfl) ?_
                        refine gs_get (C := RX10) (T := TX10) (N := 59) hx hb hts inX10 hown hK hM 0 0 35 (by decide) rfl rfl (by decide) (hts _ gm_936) (fun _ h9 => h9) rfl dX10_judge_129 ?_
                        refine lv_iload hx hb dX10_judge_132 (lv_at hl 2 rfl) ?_
                        refine gs_iald hx hb hK hM 20 0 (by decide) rfl (vp_in_iff.mpr ⟨by omega, by omega⟩) dX10_judge_134 ?_
                        refine lv_topi (fun x_107 ex_107 => ?_)
                        have qx_107 : x_107.toInt = (st_1 20 0 (y5_4.toNatClampNeg)).toInt := congrArg Int32.toInt ex_107
                        have rx_107 : x_107.toInt = ((st 20 0 (y5_4.toNatClampNeg)) : Int32).toInt := by rw [ex_107]; exact congrArg Int32.toInt (((congrFun (congrFun (congrFun est_1 20) 0) (y5_4.toNatClampNeg)).trans (congrFun (congrFun (gU_k (by decide)) 0) (y5_4.toNatClampNeg))))
                        refine lv_if_ne (tgt := 148) hx hb dX10_judge_135 (by decide) (fun c_108 => ?_) (fun c_108 => ?_)
                        · have ic_108 := gz_ne (rfl : x_107.toInt = x_107.toInt) (by decide : (0 : Int32).toInt = 0) c_108
                          refine lv_iconst (v := 0) hx hb dX10_judge_148 (by decide) ?_
                          refine lv_iadd hx hb dX10_judge_149 ?_
                          refine lv_topi (fun x_109 ex_109 => ?_)
                          refine lv_istore (lv' := [(7, .int x_109), (6, .int x_106), (11, .int 1), (10, .int y5_4), (9, .int y5_3), (8, .int y5_2), (0, .ref (ad 0 0)), (1, .int x), (2, .int y), (3, .int w), (4, .int v), (5, .int t)]) hx hb dX10_judge_150 hl (by decide) rfl (fun ls hl => ?_)
                          refine lv_iload hx hb dX10_judge_152 (lv_at hl 5 rfl) ?_
                          refine lv_aload_n hx hb dX10_judge_154 rfl (lv_at hl 6 rfl) ?_
                          refine gs_get (C := RX10) (T := TX10) (N := 59) hx hb hts inX10 hown hK hM 0 0 35 (by decide) rfl rfl (by decide) (hts _ gm_936) (fun _ h9 => h9) rfl dX10_judge_155 ?_
                          refine lv_iload hx hb dX10_judge_158 (lv_at hl 3 rfl) ?_
                          refine gs_iald hx hb hK hM 20 0 (by decide) rfl (vp_in_iff.mpr ⟨by omega, by omega⟩) dX10_judge_160 ?_
                          refine lv_topi (fun x_110 ex_110 => ?_)
                          have qx_110 : x_110.toInt = (st_1 20 0 (y5_4.toNatClampNeg)).toInt := congrArg Int32.toInt ex_110
                          have rx_110 : x_110.toInt = ((st 20 0 (y5_4.toNatClampNeg)) : Int32).toInt := by rw [ex_110]; exact congrArg Int32.toInt (((congrFun (congrFun (congrFun est_1 20) 0) (y5_4.toNatClampNeg)).trans (congrFun (congrFun (gU_k (by decide)) 0) (y5_4.toNatClampNeg))))
                          refine lv_if_ne (tgt := 179) hx hb dX10_judge_161 (by decide) (fun c_111 => ?_) (fun c_111 => ?_)
                          · have ic_111 := gz_ne (rfl : x_110.toInt = x_110.toInt) (by decide : (0 : Int32).toInt = 0) c_111
                            refine lv_iconst (v := 0) hx hb dX10_judge_179 (by decide) ?_
                            refine lv_iadd hx hb dX10_judge_180 ?_
                            refine lv_topi (fun x_112 ex_112 => ?_)
                            refine lv_istore (lv' := [(8, .int x_112), (7, .int x_109), (6, .int x_106), (11, .int 1), (10, .int y5_4), (9, .int y5_3), (0, .ref (ad 0 0)), (1, .int x), (2, .int y), (3, .int w), (4, .int v), (5, .int t)]) hx hb dX10_judge_181 hl (by decide) rfl (fun ls hl => ?_)
                            refine lv_iload hx hb dX10_judge_183 (lv_at hl 5 rfl) ?_
                            refine lv_aload_n hx hb dX10_judge_185 rfl (lv_at hl 6 rfl) ?_
                            refine gs_get (C := RX10) (T := TX10) (N := 59) hx hb hts inX10 hown hK hM 0 0 35 (by decide) rfl rfl (by decide) (hts _ gm_936) (fun _ h9 => h9) rfl dX10_judge_186 ?_
                            refine lv_iload hx hb dX10_judge_189 (lv_at hl 4 rfl) ?_
                            refine gs_iald hx hb hK hM 20 0 (by decide) rfl (vp_in_iff.mpr ⟨by omega, by omega⟩) dX10_judge_191 ?_
                            refine lv_topi (fun x_113 ex_113 => ?_)
                            have qx_113 : x_113.toInt = (st_1 20 0 (y5_4.toNatClampNeg)).toInt := congrArg Int32.toInt ex_113
                            have rx_113 : x_113.toInt = ((st 20 0 (y5_4.toNatClampNeg)) : Int32).toInt := by rw [ex_113]; exact congrArg Int32.toInt (((congrFun (congrFun (congrFun est_1 20) 0) (y5_4.toNatClampNeg)).trans (congrFun (congrFun (gU_k (by decide)) 0) (y5_4.toNatClampNeg))))
                            refine lv_iconst (v := 1) hx hb dX10_judge_192 (by decide) ?_
                            refine lv_icmp_ne (tgt := 211) hx hb dX10_judge_193 (by decide) (fun c_114 => ?_) (fun c_114 => ?_)
                            · have ic_114 := gz_ne (rfl : x_113.toInt = x_113.toInt) (by decide : (1 : Int32).toInt = 1) c_114
                              refine lv_iconst (v := 0) hx hb dX10_judge_211 (by decide) ?_
                              refine lv_iadd hx hb dX10_judge_212 ?_
                              refine lv_topi (fun x_115 ex_115 => ?_)
                              refine lv_istore (lv' := [(9, .int x_115), (8, .int x_112), (7, .int x_109), (6, .int x_106), (11, .int 1), (10, .int y5_4), (0, .ref (ad 0 0)), (1, .int x), (2, .int y), (3, .int w), (4, .int v), (5, .int t)]) hx hb dX10_judge_213 hl (by decide) rfl (fun ls hl => ?_)
                              obtain ⟨x_116, ex_116⟩ : ∃ y : Int32, y = y5_4 + 1 := ⟨_, rfl⟩
                              try have tx_116 : x_116.toInt = y5_4.toInt + 1 := by rw [ex_116]; exact gz_addP (x := y5_4.toInt) (y := 1) rfl (by decide) (by omega) (by omega)
                              refine lv_iinc (v := (x_116)) (lv' := [(10, .int x_116), (9, .int x_115), (8, .int x_112), (7, .int x_109), (6, .int x_106), (11, .int 1), (0, .ref (ad 0 0)), (1, .int x), (2, .int y), (3, .int w), (4, .int v), (5, .int t)]) hx hb dX10_judge_215 hl (k := 5) rfl (by rw [ex_116]; rfl) (by decide) rfl (fun ls hl => ?_)
                              refine lv_goto (tgt := 40) hx hb dX10_judge_218 (by decide) ?_
                              exact ih_5  (x_106 : Int32) (x_109 : Int32) (x_112 : Int32) (x_115 : Int32) (x_116 : Int32) H _ ls (by omega)  (by omega) (by have hb0 : (0 : Int) ≤ (st 0 0 37).toInt ∧ (st 0 0 37).toInt ≤ (300 : Int) := hB_st.1 0 0 37; omega) (sW.go hv5_2 (by omega) (by omega) (pJa_t (by omega)) ex_106 (ex_105.trans ((congrFun (congrFun (congrFun est_1 19) 0) (y5_4.toNatClampNeg)).trans (congrFun (congrFun (gU_k (by decide)) 0) (y5_4.toNatClampNeg))))) (sW.zero hv5_3 (by omega) (by omega) (pJr_f (by omega)) ex_109) (sW.zero hv5_4 (by omega) (by omega) (pJk_f (by omega)) ex_112) (sW.zero hv5_5 (by omega) (by omega) (pJk_f (by omega)) ex_115) hM hS (lv_sub hl [0, 1, 2, 3, 4, 6, 7, 8, 9, 10, 11] rfl)
                            · have ic_114 := gz_eqn (rfl : x_113.toInt = x_113.toInt) (by decide : (1 : Int32).toInt = 1) c_114
                              refine lv_iload hx hb dX10_judge_196 (lv_at hl 3 rfl) ?_
                              refine lv_if_eq (tgt := 211) hx hb dX10_judge_198 (by decide) (fun h9 => absurd h9 (by decide)) (fun _ => ?_)
                              refine lv_aload_n hx hb dX10_judge_201 rfl (lv_at hl 6 rfl) ?_
                              refine gs_get (C := RX10) (T := TX10) (N := 59) hx hb hts inX10 hown hK hM 0 0 34 (by decide) rfl rfl (by decide) (hts _ gm_935) (fun _ h9 => h9) rfl dX10_judge_202 ?_
                              refine lv_iload hx hb dX10_judge_205 (lv_at hl 4 rfl) ?_
                              refine gs_iald hx hb hK hM 19 0 (by decide) rfl (vp_in_iff.mpr ⟨by omega, by omega⟩) dX10_judge_207 ?_
                              refine lv_topi (fun x_117 ex_117 => ?_)
                              have qx_117 : x_117.toInt = (st_1 19 0 (y5_4.toNatClampNeg)).toInt := congrArg Int32.toInt ex_117
                              have rx_117 : x_117.toInt = ((st 19 0 (y5_4.toNatClampNeg)) : Int32).toInt := by rw [ex_117]; exact congrArg Int32.toInt (((congrFun (congrFun (congrFun est_1 19) 0) (y5_4.toNatClampNeg)).trans (congrFun (congrFun (gU_k (by decide)) 0) (y5_4.toNatClampNeg))))
                              refine lv_goto (tgt := 212) hx hb dX10_judge_208 (by decide) ?_
                              refine lv_iadd hx hb dX10_judge_212 ?_
                              refine lv_topi (fun x_118 ex_118 => ?_)
                              refine lv_istore (lv' := [(9, .int x_118), (8, .int x_112), (7, .int x_109), (6, .int x_106), (11, .int 1), (10, .int y5_4), (0, .ref (ad 0 0)), (1, .int x), (2, .int y), (3, .int w), (4, .int v), (5, .int t)]) hx hb dX10_judge_213 hl (by decide) rfl (fun ls hl => ?_)
                              obtain ⟨x_119, ex_119⟩ : ∃ y : Int32, y = y5_4 + 1 := ⟨_, rfl⟩
                              try have tx_119 : x_119.toInt = y5_4.toInt + 1 := by rw [ex_119]; exact gz_addP (x := y5_4.toInt) (y := 1) rfl (by decide) (by omega) (by omega)
                              refine lv_iinc (v := (x_119)) (lv' := [(10, .int x_119), (9, .int x_118), (8, .int x_112), (7, .int x_109), (6, .int x_106), (11, .int 1), (0, .ref (ad 0 0)), (1, .int x), (2, .int y), (3, .int w), (4, .int v), (5, .int t)]) hx hb dX10_judge_215 hl (k := 5) rfl (by rw [ex_119]; rfl) (by decide) rfl (fun ls hl => ?_)
                              refine lv_goto (tgt := 40) hx hb dX10_judge_218 (by decide) ?_
                              exact ih_5  (x_106 : Int32) (x_109 : Int32) (x_112 : Int32) (x_118 : Int32) (x_119 : Int32) H _ ls (by omega)  (by omega) (by have hb0 : (0 : Int) ≤ (st 0 0 37).toInt ∧ (st 0 0 37).toInt ≤ (300 : Int) := hB_st.1 0 0 37; omega) (sW.go hv5_2 (by omega) (by omega) (pJa_t (by omega)) ex_106 (ex_105.trans ((congrFun (congrFun (congrFun est_1 19) 0) (y5_4.toNatClampNeg)).trans (congrFun (congrFun (gU_k (by decide)) 0) (y5_4.toNatClampNeg))))) (sW.zero hv5_3 (by omega) (by omega) (pJr_f (by omega)) ex_109) (sW.zero hv5_4 (by omega) (by omega) (pJk_f (by omega)) ex_112) (sW.go hv5_5 (by omega) (by omega) (pJk_t (by omega)) ex_118 (ex_117.trans ((congrFun (congrFun (congrFun est_1 19) 0) (y5_4.toNatClampNeg)).trans (congrFun (congrFun (gU_k (by decide)) 0) (y5_4.toNatClampNeg))))) hM hS (lv_sub hl [0, 1, 2, 3, 4, 6, 7, 8, 9, 10, 11] rfl)
                          · have ic_111 := gz_eqn (rfl : x_110.toInt = x_110.toInt) (by decide : (0 : Int32).toInt = 0) c_111
                            refine lv_iload hx hb dX10_judge_164 (lv_at hl 2 rfl) ?_
                            refine lv_if_eq (tgt := 179) hx hb dX10_judge_166 (by decide) (fun h9 => absurd h9 (by decide)) (fun _ => ?_)
                            refine lv_aload_n hx hb dX10_judge_169 rfl (lv_at hl 6 rfl) ?_
                            refine gs_get (C := RX10) (T := TX10) (N := 59) hx hb hts inX10 hown hK hM 0 0 34 (by decide) rfl rfl (by decide) (hts _ gm_935) (fun _ h9 => h9) rfl dX10_judge_170 ?_
                            refine lv_iload hx hb dX10_judge_173 (lv_at hl 3 rfl) ?_
                            refine gs_iald hx hb hK hM 19 0 (by decide) rfl (vp_in_iff.mpr ⟨by omega, by omega⟩) dX10_judge_175 ?_
                            refine lv_topi (fun x_120 ex_120 => ?_)
                            have qx_120 : x_120.toInt = (st_1 19 0 (y5_4.toNatClampNeg)).toInt := congrArg Int32.toInt ex_120
                            have rx_120 : x_120.toInt = ((st 19 0 (y5_4.toNatClampNeg)) : Int32).toInt := by rw [ex_120]; exact congrArg Int32.toInt (((congrFun (congrFun (congrFun est_1 19) 0) (y5_4.toNatClampNeg)).trans (congrFun (congrFun (gU_k (by decide)) 0) (y5_4.toNatClampNeg))))
                            refine lv_goto (tgt := 180) hx hb dX10_judge_176 (by decide) ?_
                            refine lv_iadd hx hb dX10_judge_180 ?_
                            refine lv_topi (fun x_121 ex_121 => ?_)
                            refine lv_istore (lv' := [(8, .int x_121), (7, .int x_109), (6, .int x_106), (11, .int 1), (10, .int y5_4), (9, .int y5_3), (0, .ref (ad 0 0)), (1, .int x), (2, .int y), (3, .int w), (4, .int v), (5, .int t)]) hx hb dX10_judge_181 hl (by decide) rfl (fun ls hl => ?_)
                            refine lv_iload hx hb dX10_judge_183 (lv_at hl 5 rfl) ?_
                            refine lv_aload_n hx hb dX10_judge_185 rfl (lv_at hl 6 rfl) ?_
                            refine gs_get (C := RX10) (T := TX10) (N := 59) hx hb hts inX10 hown hK hM 0 0 35 (by decide) rfl rfl (by decide) (hts _ gm_936) (fun _ h9 => h9) rfl dX10_judge_186 ?_
                            refine lv_iload hx hb dX10_judge_189 (lv_at hl 4 rfl) ?_
                            refine gs_iald hx hb hK hM 20 0 (by decide) rfl (vp_in_iff.mpr ⟨by omega, by omega⟩) dX10_judge_191 ?_
                            refine lv_topi (fun x_122 ex_122 => ?_)
                            have qx_122 : x_122.toInt = (st_1 20 0 (y5_4.toNatClampNeg)).toInt := congrArg Int32.toInt ex_122
                            have rx_122 : x_122.toInt = ((st 20 0 (y5_4.toNatClampNeg)) : Int32).toInt := by rw [ex_122]; exact congrArg Int32.toInt (((congrFun (congrFun (congrFun est_1 20) 0) (y5_4.toNatClampNeg)).trans (congrFun (congrFun (gU_k (by decide)) 0) (y5_4.toNatClampNeg))))
                            refine lv_iconst (v := 1) hx hb dX10_judge_192 (by decide) ?_
                            refine lv_icmp_ne (tgt := 211) hx hb dX10_judge_193 (by decide) (fun c_123 => ?_) (fun c_123 => ?_)
                            · have ic_123 := gz_ne (rfl : x_122.toInt = x_122.toInt) (by decide : (1 : Int32).toInt = 1) c_123
                              refine lv_iconst (v := 0) hx hb dX10_judge_211 (by decide) ?_
                              refine lv_iadd hx hb dX10_judge_212 ?_
                              refine lv_topi (fun x_124 ex_124 => ?_)
                              refine lv_istore (lv' := [(9, .int x_124), (8, .int x_121), (7, .int x_109), (6, .int x_106), (11, .int 1), (10, .int y5_4), (0, .ref (ad 0 0)), (1, .int x), (2, .int y), (3, .int w), (4, .int v), (5, .int t)]) hx hb dX10_judge_213 hl (by decide) rfl (fun ls hl => ?_)
                              obtain ⟨x_125, ex_125⟩ : ∃ y : Int32, y = y5_4 + 1 := ⟨_, rfl⟩
                              try have tx_125 : x_125.toInt = y5_4.toInt + 1 := by rw [ex_125]; exact gz_addP (x := y5_4.toInt) (y := 1) rfl (by decide) (by omega) (by omega)
                              refine lv_iinc (v := (x_125)) (lv' := [(10, .int x_125), (9, .int x_124), (8, .int x_121), (7, .int x_109), (6, .int x_106), (11, .int 1), (0, .ref (ad 0 0)), (1, .int x), (2, .int y), (3, .int w), (4, .int v), (5, .int t)]) hx hb dX10_judge_215 hl (k := 5) rfl (by rw [ex_125]; rfl) (by decide) rfl (fun ls hl => ?_)
                              refine lv_goto (tgt := 40) hx hb dX10_judge_218 (by decide) ?_
                              exact ih_5  (x_106 : Int32) (x_109 : Int32) (x_121 : Int32) (x_124 : Int32) (x_125 : Int32) H _ ls (by omega)  (by omega) (by have hb0 : (0 : Int) ≤ (st 0 0 37).toInt ∧ (st 0 0 37).toInt ≤ (300 : Int) := hB_st.1 0 0 37; omega) (sW.go hv5_2 (by omega) (by omega) (pJa_t (by omega)) ex_106 (ex_105.trans ((congrFun (congrFun (congrFun est_1 19) 0) (y5_4.toNatClampNeg)).trans (congrFun (congrFun (gU_k (by decide)) 0) (y5_4.toNatClampNeg))))) (sW.zero hv5_3 (by omega) (by omega) (pJr_f (by omega)) ex_109) (sW.go hv5_4 (by omega) (by omega) (pJk_t (by omega)) ex_121 (ex_120.trans ((congrFun (congrFun (congrFun est_1 19) 0) (y5_4.toNatClampNeg)).trans (congrFun (congrFun (gU_k (by decide)) 0) (y5_4.toNatClampNeg))))) (sW.zero hv5_5 (by omega) (by omega) (pJk_f (by omega)) ex_124) hM hS (lv_sub hl [0, 1, 2, 3, 4, 6, 7, 8, 9, 10, 11] rfl)
                            · have ic_123 := gz_eqn (rfl : x_122.toInt = x_122.toInt) (by decide : (1 : Int32).toInt = 1) c_123
                              refine lv_iload hx hb dX10_judge_196 (lv_at hl 3 rfl) ?_
                              refine lv_if_eq (tgt := 211) hx hb dX10_judge_198 (by decide) (fun h9 => absurd h9 (by decide)) (fun _ => ?_)
                              refine lv_aload_n hx hb dX10_judge_201 rfl (lv_at hl 6 rfl) ?_
                              refine gs_get (C := RX10) (T := TX10) (N := 59) hx hb hts inX10 hown hK hM 0 0 34 (by decide) rfl rfl (by decide) (hts _ gm_935) (fun _ h9 => h9) rfl dX10_judge_202 ?_
                              refine lv_iload hx hb dX10_judge_205 (lv_at hl 4 rfl) ?_
                              refine gs_iald hx hb hK hM 19 0 (by decide) rfl (vp_in_iff.mpr ⟨by omega, by omega⟩) dX10_judge_207 ?_
                              refine lv_topi (fun x_126 ex_126 => ?_)
                              have qx_126 : x_126.toInt = (st_1 19 0 (y5_4.toNatClampNeg)).toInt := congrArg Int32.toInt ex_126
                              have rx_126 : x_126.toInt = ((st 19 0 (y5_4.toNatClampNeg)) : Int32).toInt := by rw [ex_126]; exact congrArg Int32.toInt (((congrFun (congrFun (congrFun est_1 19) 0) (y5_4.toNatClampNeg)).trans (congrFun (congrFun (gU_k (by decide)) 0) (y5_4.toNatClampNeg))))
                              refine lv_goto (tgt := 212) hx hb dX10_judge_208 (by decide) ?_
                              refine lv_iadd hx hb dX10_judge_212 ?_
                              refine lv_topi (fun x_127 ex_127 => ?_)
                              refine lv_istore (lv' := [(9, .int x_127), (8, .int x_121), (7, .int x_109), (6, .int x_106), (11, .int 1), (10, .int y5_4), (0, .ref (ad 0 0)), (1, .int x), (2, .int y), (3, .int w), (4, .int v), (5, .int t)]) hx hb dX10_judge_213 hl (by decide) rfl (fun ls hl => ?_)
                              obtain ⟨x_128, ex_128⟩ : ∃ y : Int32, y = y5_4 + 1 := ⟨_, rfl⟩
                              try have tx_128 : x_128.toInt = y5_4.toInt + 1 := by rw [ex_128]; exact gz_addP (x := y5_4.toInt) (y := 1) rfl (by decide) (by omega) (by omega)
                              refine lv_iinc (v := (x_128)) (lv' := [(10, .int x_128), (9, .int x_127), (8, .int x_121), (7, .int x_109), (6, .int x_106), (11, .int 1), (0, .ref (ad 0 0)), (1, .int x), (2, .int y), (3, .int w), (4, .int v), (5, .int t)]) hx hb dX10_judge_215 hl (k := 5) rfl (by rw [ex_128]; rfl) (by decide) rfl (fun ls hl => ?_)
                              refine lv_goto (tgt := 40) hx hb dX10_judge_218 (by decide) ?_
                              exact ih_5  (x_106 : Int32) (x_109 : Int32) (x_121 : Int32) (x_127 : Int32) (x_128 : Int32) H _ ls (by omega)  (by omega) (by have hb0 : (0 : Int) ≤ (st 0 0 37).toInt ∧ (st 0 0 37).toInt ≤ (300 : Int) := hB_st.1 0 0 37; omega) (sW.go hv5_2 (by omega) (by omega) (pJa_t (by omega)) ex_106 (ex_105.trans ((congrFun (congrFun (congrFun est_1 19) 0) (y5_4.toNatClampNeg)).trans (congrFun (congrFun (gU_k (by decide)) 0) (y5_4.toNatClampNeg))))) (sW.zero hv5_3 (by omega) (by omega) (pJr_f (by omega)) ex_109) (sW.go hv5_4 (by omega) (by omega) (pJk_t (by omega)) ex_121 (ex_120.trans ((congrFun (congrFun (congrFun est_1 19) 0) (y5_4.toNatClampNeg)).trans (congrFun (congrFun (gU_k (by decide)) 0) (y5_4.toNatClampNeg))))) (sW.go hv5_5 (by omega) (by omega) (pJk_t (by omega)) ex_127 (ex_126.trans ((congrFun (congrFun (congrFun est_1 19) 0) (y5_4.toNatClampNeg)).trans (congrFun (congrFun (gU_k (by decide)) 0) (y5_4.toNatClampNeg))))) hM hS (lv_sub hl [0, 1, 2, 3, 4, 6, 7, 8, 9, 10, 11] rfl)
                        · have ic_108 := gz_eqn (rfl : x_107.toInt = x_107.toInt) (by decide : (0 : Int32).toInt = 0) c_108
                          refine lv_aload_n hx hb dX10_judge_138 rfl (lv_at hl 6 rfl) ?_
                          refine gs_get (C := RX10) (T := TX10) (N := 59) hx hb hts inX10 hown hK hM 0 0 34 (by decide) rfl rfl (by decide) (hts _ gm_935) (fun _ h9 => h9) rfl dX10_judge_139 ?_
                          refine lv_iload hx hb dX10_judge_142 (lv_at hl 2 rfl) ?_
                          refine gs_iald hx hb hK hM 19 0 (by decide) rfl (vp_in_iff.mpr ⟨by omega, by omega⟩) dX10_judge_144 ?_
                          refine lv_topi (fun x_129 ex_129 => ?_)
                          have qx_129 : x_129.toInt = (st_1 19 0 (y5_4.toNatClampNeg)).toInt := congrArg Int32.toInt ex_129
                          have rx_129 : x_129.toInt = ((st 19 0 (y5_4.toNatClampNeg)) : Int32).toInt := by rw [ex_129]; exact congrArg Int32.toInt (((congrFun (congrFun (congrFun est_1 19) 0) (y5_4.toNatClampNeg)).trans (congrFun (congrFun (gU_k (by decide)) 0) (y5_4.toNatClampNeg))))
                          refine lv_goto (tgt := 149) hx hb dX10_judge_145 (by decide) ?_
                          refine lv_iadd hx hb dX10_judge_149 ?_
                          refine lv_topi (fun x_130 ex_130 => ?_)
                          refine lv_istore (lv' := [(7, .int x_130), (6, .int x_106), (11, .int 1), (10, .int y5_4), (9, .int y5_3), (8, .int y5_2), (0, .ref (ad 0 0)), (1, .int x), (2, .int y), (3, .int w), (4, .int v), (5, .int t)]) hx hb dX10_judge_150 hl (by decide) rfl (fun ls hl => ?_)
                          refine lv_iload hx hb dX10_judge_152 (lv_at hl 5 rfl) ?_
                          refine lv_aload_n hx hb dX10_judge_154 rfl (lv_at hl 6 rfl) ?_
                          refine gs_get (C := RX10) (T := TX10) (N := 59) hx hb hts inX10 hown hK hM 0 0 35 (by decide) rfl rfl (by decide) (hts _ gm_936) (fun _ h9 => h9) rfl dX10_judge_155 ?_
                          refine lv_iload hx hb dX10_judge_158 (lv_at hl 3 rfl) ?_
                          refine gs_iald hx hb hK hM 20 0 (by decide) rfl (vp_in_iff.mpr ⟨by omega, by omega⟩) dX10_judge_160 ?_
                          refine lv_topi (fun x_131 ex_131 => ?_)
                          have qx_131 : x_131.toInt = (st_1 20 0 (y5_4.toNatClampNeg)).toInt := congrArg Int32.toInt ex_131
                          have rx_131 : x_131.toInt = ((st 20 0 (y5_4.toNatClampNeg)) : Int32).toInt := by rw [ex_131]; exact congrArg Int32.toInt (((congrFun (congrFun (congrFun est_1 20) 0) (y5_4.toNatClampNeg)).trans (congrFun (congrFun (gU_k (by decide)) 0) (y5_4.toNatClampNeg))))
                          refine lv_if_ne (tgt := 179) hx hb dX10_judge_161 (by decide) (fun c_132 => ?_) (fun c_132 => ?_)
                          · have ic_132 := gz_ne (rfl : x_131.toInt = x_131.toInt) (by decide : (0 : Int32).toInt = 0) c_132
                            refine lv_iconst (v := 0) hx hb dX10_judge_179 (by decide) ?_
                            refine lv_iadd hx hb dX10_judge_180 ?_
                            refine lv_topi (fun x_133 ex_133 => ?_)
                            refine lv_istore (lv' := [(8, .int x_133), (7, .int x_130), (6, .int x_106), (11, .int 1), (10, .int y5_4), (9, .int y5_3), (0, .ref (ad 0 0)), (1, .int x), (2, .int y), (3, .int w), (4, .int v), (5, .int t)]) hx hb dX10_judge_181 hl (by decide) rfl (fun ls hl => ?_)
                            refine lv_iload hx hb dX10_judge_183 (lv_at hl 5 rfl) ?_
                            refine lv_aload_n hx hb dX10_judge_185 rfl (lv_at hl 6 rfl) ?_
                            refine gs_get (C := RX10) (T := TX10) (N := 59) hx hb hts inX10 hown hK hM 0 0 35 (by decide) rfl rfl (by decide) (hts _ gm_936) (fun _ h9 => h9) rfl dX10_judge_186 ?_
                            refine lv_iload hx hb dX10_judge_189 (lv_at hl 4 rfl) ?_
                            refine gs_iald hx hb hK hM 20 0 (by decide) rfl (vp_in_iff.mpr ⟨by omega, by omega⟩) dX10_judge_191 ?_
                            refine lv_topi (fun x_134 ex_134 => ?_)
                            have qx_134 : x_134.toInt = (st_1 20 0 (y5_4.toNatClampNeg)).toInt := congrArg Int32.toInt ex_134
                            have rx_134 : x_134.toInt = ((st 20 0 (y5_4.toNatClampNeg)) : Int32).toInt := by rw [ex_134]; exact congrArg Int32.toInt (((congrFun (congrFun (congrFun est_1 20) 0) (y5_4.toNatClampNeg)).trans (congrFun (congrFun (gU_k (by decide)) 0) (y5_4.toNatClampNeg))))
                            refine lv_iconst (v := 1) hx hb dX10_judge_192 (by decide) ?_
                            refine lv_icmp_ne (tgt := 211) hx hb dX10_judge_193 (by decide) (fun c_135 => ?_) (fun c_135 => ?_)
                            · have ic_135 := gz_ne (rfl : x_134.toInt = x_134.toInt) (by decide : (1 : Int32).toInt = 1) c_135
                              refine lv_iconst (v := 0) hx hb dX10_judge_211 (by decide) ?_
                              refine lv_iadd hx hb dX10_judge_212 ?_
                              refine lv_topi (fun x_136 ex_136 => ?_)
                              refine lv_istore (lv' := [(9, .int x_136), (8, .int x_133), (7, .int x_130), (6, .int x_106), (11, .int 1), (10, .int y5_4), (0, .ref (ad 0 0)), (1, .int x), (2, .int y), (3, .int w), (4, .int v), (5, .int t)]) hx hb dX10_judge_213 hl (by decide) rfl (fun ls hl => ?_)
                              obtain ⟨x_137, ex_137⟩ : ∃ y : Int32, y = y5_4 + 1 := ⟨_, rfl⟩
                              try have tx_137 : x_137.toInt = y5_4.toInt + 1 := by rw [ex_137]; exact gz_addP (x := y5_4.toInt) (y := 1) rfl (by decide) (by omega) (by omega)
                              refine lv_iinc (v := (x_137)) (lv' := [(10, .int x_137), (9, .int x_136), (8, .int x_133), (7, .int x_130), (6, .int x_106), (11, .int 1), (0, .ref (ad 0 0)), (1, .int x), (2, .int y), (3, .int w), (4, .int v), (5, .int t)]) hx hb dX10_judge_215 hl (k := 5) rfl (by rw [ex_137]; rfl) (by decide) rfl (fun ls hl => ?_)
                              refine lv_goto (tgt := 40) hx hb dX10_judge_218 (by decide) ?_
                              exact ih_5  (x_106 : Int32) (x_130 : Int32) (x_133 : Int32) (x_136 : Int32) (x_137 : Int32) H _ ls (by omega)  (by omega) (by have hb0 : (0 : Int) ≤ (st 0 0 37).toInt ∧ (st 0 0 37).toInt ≤ (300 : Int) := hB_st.1 0 0 37; omega) (sW.go hv5_2 (by omega) (by omega) (pJa_t (by omega)) ex_106 (ex_105.trans ((congrFun (congrFun (congrFun est_1 19) 0) (y5_4.toNatClampNeg)).trans (congrFun (congrFun (gU_k (by decide)) 0) (y5_4.toNatClampNeg))))) (sW.go hv5_3 (by omega) (by omega) (pJr_t (by omega)) ex_130 (ex_129.trans ((congrFun (congrFun (congrFun est_1 19) 0) (y5_4.toNatClampNeg)).trans (congrFun (congrFun (gU_k (by decide)) 0) (y5_4.toNatClampNeg))))) (sW.zero hv5_4 (by omega) (by omega) (pJk_f (by omega)) ex_133) (sW.zero hv5_5 (by omega) (by omega) (pJk_f (by omega)) ex_136) hM hS (lv_sub hl [0, 1, 2, 3, 4, 6, 7, 8, 9, 10, 11] rfl)
                            · have ic_135 := gz_eqn (rfl : x_134.toInt = x_134.toInt) (by decide : (1 : Int32).toInt = 1) c_135
                              refine lv_iload hx hb dX10_judge_196 (lv_at hl 3 rfl) ?_
                              refine lv_if_eq (tgt := 211) hx hb dX10_judge_198 (by decide) (fun h9 => absurd h9 (by decide)) (fun _ => ?_)
                              refine lv_aload_n hx hb dX10_judge_201 rfl (lv_at hl 6 rfl) ?_
                              refine gs_get (C := RX10) (T := TX10) (N := 59) hx hb hts inX10 hown hK hM 0 0 34 (by decide) rfl rfl (by decide) (hts _ gm_935) (fun _ h9 => h9) rfl dX10_judge_202 ?_
                              refine lv_iload hx hb dX10_judge_205 (lv_at hl 4 rfl) ?_
                              refine gs_iald hx hb hK hM 19 0 (by decide) rfl (vp_in_iff.mpr ⟨by omega, by omega⟩) dX10_judge_207 ?_
                              refine lv_topi (fun x_138 ex_138 => ?_)
                              have qx_138 : x_138.toInt = (st_1 19 0 (y5_4.toNatClampNeg)).toInt := congrArg Int32.toInt ex_138
                              have rx_138 : x_138.toInt = ((st 19 0 (y5_4.toNatClampNeg)) : Int32).toInt := by rw [ex_138]; exact congrArg Int32.toInt (((congrFun (congrFun (congrFun est_1 19) 0) (y5_4.toNatClampNeg)).trans (congrFun (congrFun (gU_k (by decide)) 0) (y5_4.toNatClampNeg))))
                              refine lv_goto (tgt := 212) hx hb dX10_judge_208 (by decide) ?_
                              refine lv_iadd hx hb dX10_judge_212 ?_
                              refine lv_topi (fun x_139 ex_139 => ?_)
                              refine lv_istore (lv' := [(9, .int x_139), (8, .int x_133), (7, .int x_130), (6, .int x_106), (11, .int 1), (10, .int y5_4), (0, .ref (ad 0 0)), (1, .int x), (2, .int y), (3, .int w), (4, .int v), (5, .int t)]) hx hb dX10_judge_213 hl (by decide) rfl (fun ls hl => ?_)
                              obtain ⟨x_140, ex_140⟩ : ∃ y : Int32, y = y5_4 + 1 := ⟨_, rfl⟩
                              try have tx_140 : x_140.toInt = y5_4.toInt + 1 := by rw [ex_140]; exact gz_addP (x := y5_4.toInt) (y := 1) rfl (by decide) (by omega) (by omega)
                              refine lv_iinc (v := (x_140)) (lv' := [(10, .int x_140), (9, .int x_139), (8, .int x_133), (7, .int x_130), (6, .int x_106), (11, .int 1), (0, .ref (ad 0 0)), (1, .int x), (2, .int y), (3, .int w), (4, .int v), (5, .int t)]) hx hb dX10_judge_215 hl (k := 5) rfl (by rw [ex_140]; rfl) (by decide) rfl (fun ls hl => ?_)
                              refine lv_goto (tgt := 40) hx hb dX10_judge_218 (by decide) ?_
                              exact ih_5  (x_106 : Int32) (x_130 : Int32) (x_133 : Int32) (x_139 : Int32) (x_140 : Int32) H _ ls (by omega)  (by omega) (by have hb0 : (0 : Int) ≤ (st 0 0 37).toInt ∧ (st 0 0 37).toInt ≤ (300 : Int) := hB_st.1 0 0 37; omega) (sW.go hv5_2 (by omega) (by omega) (pJa_t (by omega)) ex_106 (ex_105.trans ((congrFun (congrFun (congrFun est_1 19) 0) (y5_4.toNatClampNeg)).trans (congrFun (congrFun (gU_k (by decide)) 0) (y5_4.toNatClampNeg))))) (sW.go hv5_3 (by omega) (by omega) (pJr_t (by omega)) ex_130 (ex_129.trans ((congrFun (congrFun (congrFun est_1 19) 0) (y5_4.toNatClampNeg)).trans (congrFun (congrFun (gU_k (by decide)) 0) (y5_4.toNatClampNeg))))) (sW.zero hv5_4 (by omega) (by omega) (pJk_f (by omega)) ex_133) (sW.go hv5_5 (by omega) (by omega) (pJk_t (by omega)) ex_139 (ex_138.trans ((congrFun (congrFun (congrFun est_1 19) 0) (y5_4.toNatClampNeg)).trans (congrFun (congrFun (gU_k (by decide)) 0) (y5_4.toNatClampNeg))))) hM hS (lv_sub hl [0, 1, 2, 3, 4, 6, 7, 8, 9, 10, 11] rfl)
                          · have ic_132 := gz_eqn (rfl : x_131.toInt = x_131.toInt) (by decide : (0 : Int32).toInt = 0) c_132
                            refine lv_iload hx hb dX10_judge_164 (lv_at hl 2 rfl) ?_
                            refine lv_if_eq (tgt := 179) hx hb dX10_judge_166 (by decide) (fun h9 => absurd h9 (by decide)) (fun _ => ?_)
                            refine lv_aload_n hx hb dX10_judge_169 rfl (lv_at hl 6 rfl) ?_
                            refine gs_get (C := RX10) (T := TX10) (N := 59) hx hb hts inX10 hown hK hM 0 0 34 (by decide) rfl rfl (by decide) (hts _ gm_935) (fun _ h9 => h9) rfl dX10_judge_170 ?_
                            refine lv_iload hx hb dX10_judge_173 (lv_at hl 3 rfl) ?_
                            refine gs_iald hx hb hK hM 19 0 (by decide) rfl (vp_in_iff.mpr ⟨by omega, by omega⟩) dX10_judge_175 ?_
                            refine lv_topi (fun x_141 ex_141 => ?_)
                            have qx_141 : x_141.toInt = (st_1 19 0 (y5_4.toNatClampNeg)).toInt := congrArg Int32.toInt ex_141
                            have rx_141 : x_141.toInt = ((st 19 0 (y5_4.toNatClampNeg)) : Int32).toInt := by rw [ex_141]; exact congrArg Int32.toInt (((congrFun (congrFun (congrFun est_1 19) 0) (y5_4.toNatClampNeg)).trans (congrFun (congrFun (gU_k (by decide)) 0) (y5_4.toNatClampNeg))))
                            refine lv_goto (tgt := 180) hx hb dX10_judge_176 (by decide) ?_
                            refine lv_iadd hx hb dX10_judge_180 ?_
                            refine lv_topi (fun x_142 ex_142 => ?_)
                            refine lv_istore (lv' := [(8, .int x_142), (7, .int x_130), (6, .int x_106), (11, .int 1), (10, .int y5_4), (9, .int y5_3), (0, .ref (ad 0 0)), (1, .int x), (2, .int y), (3, .int w), (4, .int v), (5, .int t)]) hx hb dX10_judge_181 hl (by decide) rfl (fun ls hl => ?_)
                            refine lv_iload hx hb dX10_judge_183 (lv_at hl 5 rfl) ?_
                            refine lv_aload_n hx hb dX10_judge_185 rfl (lv_at hl 6 rfl) ?_
                            refine gs_get (C := RX10) (T := TX10) (N := 59) hx hb hts inX10 hown hK hM 0 0 35 (by decide) rfl rfl (by decide) (hts _ gm_936) (fun _ h9 => h9) rfl dX10_judge_186 ?_
                            refine lv_iload hx hb dX10_judge_189 (lv_at hl 4 rfl) ?_
                            refine gs_iald hx hb hK hM 20 0 (by decide) rfl (vp_in_iff.mpr ⟨by omega, by omega⟩) dX10_judge_191 ?_
                            refine lv_topi (fun x_143 ex_143 => ?_)
                            have qx_143 : x_143.toInt = (st_1 20 0 (y5_4.toNatClampNeg)).toInt := congrArg Int32.toInt ex_143
                            have rx_143 : x_143.toInt = ((st 20 0 (y5_4.toNatClampNeg)) : Int32).toInt := by rw [ex_143]; exact congrArg Int32.toInt (((congrFun (congrFun (congrFun est_1 20) 0) (y5_4.toNatClampNeg)).trans (congrFun (congrFun (gU_k (by decide)) 0) (y5_4.toNatClampNeg))))
                            refine lv_iconst (v := 1) hx hb dX10_judge_192 (by decide) ?_
                            refine lv_icmp_ne (tgt := 211) hx hb dX10_judge_193 (by decide) (fun c_144 => ?_) (fun c_144 => ?_)
                            · have ic_144 := gz_ne (rfl : x_143.toInt = x_143.toInt) (by decide : (1 : Int32).toInt = 1) c_144
                              refine lv_iconst (v := 0) hx hb dX10_judge_211 (by decide) ?_
                              refine lv_iadd hx hb dX10_judge_212 ?_
                              refine lv_topi (fun x_145 ex_145 => ?_)
                              refine lv_istore (lv' := [(9, .int x_145), (8, .int x_142), (7, .int x_130), (6, .int x_106), (11, .int 1), (10, .int y5_4), (0, .ref (ad 0 0)), (1, .int x), (2, .int y), (3, .int w), (4, .int v), (5, .int t)]) hx hb dX10_judge_213 hl (by decide) rfl (fun ls hl => ?_)
                              obtain ⟨x_146, ex_146⟩ : ∃ y : Int32, y = y5_4 + 1 := ⟨_, rfl⟩
                              try have tx_146 : x_146.toInt = y5_4.toInt + 1 := by rw [ex_146]; exact gz_addP (x := y5_4.toInt) (y := 1) rfl (by decide) (by omega) (by omega)
                              refine lv_iinc (v := (x_146)) (lv' := [(10, .int x_146), (9, .int x_145), (8, .int x_142), (7, .int x_130), (6, .int x_106), (11, .int 1), (0, .ref (ad 0 0)), (1, .int x), (2, .int y), (3, .int w), (4, .int v), (5, .int t)]) hx hb dX10_judge_215 hl (k := 5) rfl (by rw [ex_146]; rfl) (by decide) rfl (fun ls hl => ?_)
                              refine lv_goto (tgt := 40) hx hb dX10_judge_218 (by decide) ?_
                              exact ih_5  (x_106 : Int32) (x_130 : Int32) (x_142 : Int32) (x_145 : Int32) (x_146 : Int32) H _ ls (by omega)  (by omega) (by have hb0 : (0 : Int) ≤ (st 0 0 37).toInt ∧ (st 0 0 37).toInt ≤ (300 : Int) := hB_st.1 0 0 37; omega) (sW.go hv5_2 (by omega) (by omega) (pJa_t (by omega)) ex_106 (ex_105.trans ((congrFun (congrFun (congrFun est_1 19) 0) (y5_4.toNatClampNeg)).trans (congrFun (congrFun (gU_k (by decide)) 0) (y5_4.toNatClampNeg))))) (sW.go hv5_3 (by omega) (by omega) (pJr_t (by omega)) ex_130 (ex_129.trans ((congrFun (congrFun (congrFun est_1 19) 0) (y5_4.toNatClampNeg)).trans (congrFun (congrFun (gU_k (by decide)) 0) (y5_4.toNatClampNeg))))) (sW.go hv5_4 (by omega) (by omega) (pJk_t (by omega)) ex_142 (ex_141.trans ((congrFun (congrFun (congrFun est_1 19) 0) (y5_4.toNatClampNeg)).trans (congrFun (congrFun (gU_k (by decide)) 0) (y5_4.toNatClampNeg))))) (sW.zero hv5_5 (by omega) (by omega) (pJk_f (by omega)) ex_145) hM hS (lv_sub hl [0, 1, 2, 3, 4, 6, 7, 8, 9, 10, 11] rfl)
                            · have ic_144 := gz_eqn (rfl : x_143.toInt = x_143.toInt) (by decide : (1 : Int32).toInt = 1) c_144
                              refine lv_iload hx hb dX10_judge_196 (lv_at hl 3 rfl) ?_
                              refine lv_if_eq (tgt := 211) hx hb dX10_judge_198 (by decide) (fun h9 => absurd h9 (by decide)) (fun _ => ?_)
                              refine lv_aload_n hx hb dX10_judge_201 rfl (lv_at hl 6 rfl) ?_
                              refine gs_get (C := RX10) (T := TX10) (N := 59) hx hb hts inX10 hown hK hM 0 0 34 (by decide) rfl rfl (by decide) (hts _ gm_935) (fun _ h9 => h9) rfl dX10_judge_202 ?_
                              refine lv_iload hx hb dX10_judge_205 (lv_at hl 4 rfl) ?_
                              refine gs_iald hx hb hK hM 19 0 (by decide) rfl (vp_in_iff.mpr ⟨by omega, by omega⟩) dX10_judge_207 ?_
                              refine lv_topi (fun x_147 ex_147 => ?_)
                              have qx_147 : x_147.toInt = (st_1 19 0 (y5_4.toNatClampNeg)).toInt := congrArg Int32.toInt ex_147
                              have rx_147 : x_147.toInt = ((st 19 0 (y5_4.toNatClampNeg)) : Int32).toInt := by rw [ex_147]; exact congrArg Int32.toInt (((congrFun (congrFun (congrFun est_1 19) 0) (y5_4.toNatClampNeg)).trans (congrFun (congrFun (gU_k (by decide)) 0) (y5_4.toNatClampNeg))))
                              refine lv_goto (tgt := 212) hx hb dX10_judge_208 (by decide) ?_
                              refine lv_iadd hx hb dX10_judge_212 ?_
                              refine lv_topi (fun x_148 ex_148 => ?_)
                              refine lv_istore (lv' := [(9, .int x_148), (8, .int x_142), (7, .int x_130), (6, .int x_106), (11, .int 1), (10, .int y5_4), (0, .ref (ad 0 0)), (1, .int x), (2, .int y), (3, .int w), (4, .int v), (5, .int t)]) hx hb dX10_judge_213 hl (by decide) rfl (fun ls hl => ?_)
                              obtain ⟨x_149, ex_149⟩ : ∃ y : Int32, y = y5_4 + 1 := ⟨_, rfl⟩
                              try have tx_149 : x_149.toInt = y5_4.toInt + 1 := by rw [ex_149]; exact gz_addP (x := y5_4.toInt) (y := 1) rfl (by decide) (by omega) (by omega)
                              refine lv_iinc (v := (x_149)) (lv' := [(10, .int x_149), (9, .int x_148), (8, .int x_142), (7, .int x_130), (6, .int x_106), (11, .int 1), (0, .ref (ad 0 0)), (1, .int x), (2, .int y), (3, .int w), (4, .int v), (5, .int t)]) hx hb dX10_judge_215 hl (k := 5) rfl (by rw [ex_149]; rfl) (by decide) rfl (fun ls hl => ?_)
                              refine lv_goto (tgt := 40) hx hb dX10_judge_218 (by decide) ?_
                              exact ih_5  (x_106 : Int32) (x_130 : Int32) (x_142 : Int32) (x_148 : Int32) (x_149 : Int32) H _ ls (by omega)  (by omega) (by have hb0 : (0 : Int) ≤ (st 0 0 37).toInt ∧ (st 0 0 37).toInt ≤ (300 : Int) := hB_st.1 0 0 37; omega) (sW.go hv5_2 (by omega) (by omega) (pJa_t (by omega)) ex_106 (ex_105.trans ((congrFun (congrFun (congrFun est_1 19) 0) (y5_4.toNatClampNeg)).trans (congrFun (congrFun (gU_k (by decide)) 0) (y5_4.toNatClampNeg))))) (sW.go hv5_3 (by omega) (by omega) (pJr_t (by omega)) ex_130 (ex_129.trans ((congrFun (congrFun (congrFun est_1 19) 0) (y5_4.toNatClampNeg)).trans (congrFun (congrFun (gU_k (by decide)) 0) (y5_4.toNatClampNeg))))) (sW.go hv5_4 (by omega) (by omega) (pJk_t (by omega)) ex_142 (ex_141.trans ((congrFun (congrFun (congrFun est_1 19) 0) (y5_4.toNatClampNeg)).trans (congrFun (congrFun (gU_k (by decide)) 0) (y5_4.toNatClampNeg))))) (sW.go hv5_5 (by omega) (by omega) (pJk_t (by omega)) ex_148 (ex_147.trans ((congrFun (congrFun (congrFun est_1 19) 0) (y5_4.toNatClampNeg)).trans (congrFun (congrFun (gU_k (by decide)) 0) (y5_4.toNatClampNeg))))) hM hS (lv_sub hl [0, 1, 2, 3, 4, 6, 7, 8, 9, 10, 11] rfl)
                  · have ic_22 := gz_nle (rfl : x_21.toInt = x_21.toInt) (rfl : w.toInt = w.toInt) c_22
                    have lc_22 := gi_hi x_21
                    refine lv_goto (tgt := 215) hx hb dX10_judge_82 (by decide) ?_
                    obtain ⟨x_150, ex_150⟩ : ∃ y : Int32, y = y5_4 + 1 := ⟨_, rfl⟩
                    try have tx_150 : x_150.toInt = y5_4.toInt + 1 := by rw [ex_150]; exact gz_addP (x := y5_4.toInt) (y := 1) rfl (by decide) (by omega) (by omega)
                    refine lv_iinc (v := (x_150)) (lv' := [(10, .int x_150), (9, .int y5_3), (8, .int y5_2), (7, .int y5_1), (6, .int y5_0), (0, .ref (ad 0 0)), (1, .int x), (2, .int y), (3, .int w), (4, .int v), (5, .int t)]) hx hb dX10_judge_215 hl (k := 0) rfl (by rw [ex_150]; rfl) (by decide) rfl (fun ls hl => ?_)
                    refine lv_goto (tgt := 40) hx hb dX10_judge_218 (by decide) ?_
                    exact ih_5  (y5_0 : Int32) (y5_1 : Int32) (y5_2 : Int32) (y5_3 : Int32) (x_150 : Int32) H _ ls (by omega)  (by omega) (by have hb0 : (0 : Int) ≤ (st 0 0 37).toInt ∧ (st 0 0 37).toInt ≤ (300 : Int) := hB_st.1 0 0 37; omega) (sW.skip hv5_2 (by omega) (by omega) (pJa_f (by omega))) (sW.skip hv5_3 (by omega) (by omega) (pJr_f (by omega))) (sW.skip hv5_4 (by omega) (by omega) (pJk_f (by omega))) (sW.skip hv5_5 (by omega) (by omega) (pJk_f (by omega))) hM hS (lv_sub hl [0, 1, 2, 3, 4, 5, 6, 7, 8, 9, 10] rfl)
        exact lp5 ((300 - ((0 : Int32) : Int32).toInt).toNat + 1)  ((0 : Int32) : Int32) ((0 : Int32) : Int32) ((0 : Int32) : Int32) ((0 : Int32) : Int32) ((0 : Int32) : Int32) H _ ls (Nat.lt_succ_self _)  (by have hl0 : (0 : Int32).toInt = 0 := (by decide); have hl1 : (0 : Int32).toInt = 0 := (by decide); have hl2 : (0 : Int32).toInt = 0 := (by decide); have hl3 : (0 : Int32).toInt = 0 := (by decide); have hl4 : (0 : Int32).toInt = 0 := (by decide); omega) (by have hl0 : (0 : Int32).toInt = 0 := (by decide); have hl1 : (0 : Int32).toInt = 0 := (by decide); have hl2 : (0 : Int32).toInt = 0 := (by decide); have hl3 : (0 : Int32).toInt = 0 := (by decide); have hl4 : (0 : Int32).toInt = 0 := (by decide); have hb5 : (0 : Int) ≤ (st 0 0 37).toInt ∧ (st 0 0 37).toInt ≤ (300 : Int) := hB_st.1 0 0 37; omega) (sW.new (by decide)) (sW.new (by decide)) (sW.new (by decide)) (sW.new (by decide)) hM hS (lv_sub hl [0, 1, 2, 3, 4, 5, 6, 7, 8, 9, 10] rfl)
      · have ic_4 := gz_nle (rfl : t.toInt = t.toInt) (by decide : (3 : Int32).toInt = 3) c_4
        refine lv_iconst (v := (-1)) hx hb dX10_judge_23 (by decide) ?_
        rw [← hQe]
        exact gs_iret hx hb hr hlocks hM hS rfl ⟨hB_st_1, (Or.inr ⟨by omega, by decide⟩), (frM.up est_1)⟩ (by exact Nat.le_refl _) (by exact Nat.le_refl _) dX10_judge_24
  · skip
    refine lv_if_eq (tgt := 23) hx hb dX10_judge_9 (by decide) (fun _ => ?_) (fun h9 => absurd (by decide) h9)
    refine lv_iconst (v := (-1)) hx hb dX10_judge_23 (by decide) ?_
    rw [← hQe]
    exact gs_iret hx hb hr hlocks hM hS rfl ⟨hB_st_1, (Or.inr ⟨by omega, by decide⟩), (frM.up est_1)⟩ (by exact Nat.le_refl _) (by exact Nat.le_refl _) dX10_judge_24
