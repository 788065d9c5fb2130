theorem gm_944 : (Jvm.Cond.fieldLink "WellCourtModel" (106 : Nat) "WellCourtModel" "sThere" "[I") ∈ gz_T := gz_at 944 (by decide +kernel) rfl
theorem dX10_goes_0 : decode cX10_goes 0 = .ok (.iload_n 1, 1) := by decide +kernel
theorem dX10_goes_1 : decode cX10_goes 1 = .ok (.iconst 1, 1) := by decide +kernel
theorem dX10_goes_2 : decode cX10_goes 2 = .ok (.iadd, 1) := by decide +kernel
theorem dX10_goes_3 : decode cX10_goes 3 = .ok (.istore 5, 2) := by decide +kernel
theorem dX10_goes_5 : decode cX10_goes 5 = .ok (.iconst 0, 1) := by decide +kernel
theorem dX10_goes_6 : decode cX10_goes 6 = .ok (.istore 6, 2) := by decide +kernel
theorem dX10_goes_8 : decode cX10_goes 8 = .ok (.iload 6, 2) := by decide +kernel
theorem dX10_goes_10 : decode cX10_goes 10 = .ok (.bipush 6, 2) := by decide +kernel
theorem dX10_goes_12 : decode cX10_goes 12 = .ok (.if_icmp .ge 84, 3) := by decide +kernel
theorem dX10_goes_15 : decode cX10_goes 15 = .ok (.aload_n 0, 1) := by decide +kernel
theorem dX10_goes_16 : decode cX10_goes 16 = .ok (.getfield 100, 3) := by decide +kernel
theorem dX10_goes_19 : decode cX10_goes 19 = .ok (.bipush 6, 2) := by decide +kernel
theorem dX10_goes_21 : decode cX10_goes 21 = .ok (.iload 5, 2) := by decide +kernel
theorem dX10_goes_23 : decode cX10_goes 23 = .ok (.imul, 1) := by decide +kernel
theorem dX10_goes_24 : decode cX10_goes 24 = .ok (.iload 6, 2) := by decide +kernel
theorem dX10_goes_26 : decode cX10_goes 26 = .ok (.iadd, 1) := by decide +kernel
theorem dX10_goes_27 : decode cX10_goes 27 = .ok (.aload_n 0, 1) := by decide +kernel
theorem dX10_goes_28 : decode cX10_goes 28 = .ok (.getfield 100, 3) := by decide +kernel
theorem dX10_goes_31 : decode cX10_goes 31 = .ok (.bipush 6, 2) := by decide +kernel
theorem dX10_goes_33 : decode cX10_goes 33 = .ok (.iload_n 1, 1) := by decide +kernel
theorem dX10_goes_34 : decode cX10_goes 34 = .ok (.imul, 1) := by decide +kernel
theorem dX10_goes_35 : decode cX10_goes 35 = .ok (.iload 6, 2) := by decide +kernel
theorem dX10_goes_37 : decode cX10_goes 37 = .ok (.iadd, 1) := by decide +kernel
theorem dX10_goes_38 : decode cX10_goes 38 = .ok (.iaload, 1) := by decide +kernel
theorem dX10_goes_39 : decode cX10_goes 39 = .ok (.iastore, 1) := by decide +kernel
theorem dX10_goes_40 : decode cX10_goes 40 = .ok (.aload_n 0, 1) := by decide +kernel
theorem dX10_goes_41 : decode cX10_goes 41 = .ok (.getfield 118, 3) := by decide +kernel
theorem dX10_goes_44 : decode cX10_goes 44 = .ok (.bipush 6, 2) := by decide +kernel
theorem dX10_goes_46 : decode cX10_goes 46 = .ok (.iload 5, 2) := by decide +kernel
theorem dX10_goes_48 : decode cX10_goes 48 = .ok (.imul, 1) := by decide +kernel
theorem dX10_goes_49 : decode cX10_goes 49 = .ok (.iload 6, 2) := by decide +kernel
theorem dX10_goes_51 : decode cX10_goes 51 = .ok (.iadd, 1) := by decide +kernel
theorem dX10_goes_52 : decode cX10_goes 52 = .ok (.aload_n 0, 1) := by decide +kernel
theorem dX10_goes_53 : decode cX10_goes 53 = .ok (.getfield 118, 3) := by decide +kernel
theorem dX10_goes_56 : decode cX10_goes 56 = .ok (.bipush 6, 2) := by decide +kernel
theorem dX10_goes_58 : decode cX10_goes 58 = .ok (.iload_n 1, 1) := by decide +kernel
theorem dX10_goes_59 : decode cX10_goes 59 = .ok (.imul, 1) := by decide +kernel
theorem dX10_goes_60 : decode cX10_goes 60 = .ok (.iload 6, 2) := by decide +kernel
theorem dX10_goes_62 : decode cX10_goes 62 = .ok (.iadd, 1) := by decide +kernel
theorem dX10_goes_63 : decode cX10_goes 63 = .ok (.iaload, 1) := by decide +kernel
theorem dX10_goes_64 : decode cX10_goes 64 = .ok (.iastore, 1) := by decide +kernel
theorem dX10_goes_65 : decode cX10_goes 65 = .ok (.aload_n 0, 1) := by decide +kernel
theorem dX10_goes_66 : decode cX10_goes 66 = .ok (.getfield 121, 3) := by decide +kernel
theorem dX10_goes_69 : decode cX10_goes 69 = .ok (.bipush 6, 2) := by decide +kernel
theorem dX10_goes_71 : decode cX10_goes 71 = .ok (.iload 5, 2) := by decide +kernel
theorem dX10_goes_73 : decode cX10_goes 73 = .ok (.imul, 1) := by decide +kernel
theorem dX10_goes_74 : decode cX10_goes 74 = .ok (.iload 6, 2) := by decide +kernel
theorem dX10_goes_76 : decode cX10_goes 76 = .ok (.iadd, 1) := by decide +kernel
theorem dX10_goes_77 : decode cX10_goes 77 = .ok (.aload_n 0, 1) := by decide +kernel
theorem dX10_goes_78 : decode cX10_goes 78 = .ok (.getfield 121, 3) := by decide +kernel
theorem dX10_goes_81 : decode cX10_goes 81 = .ok (.bipush 6, 2) := by decide +kernel
theorem dX10_goes_83 : decode cX10_goes 83 = .ok (.iload_n 1, 1) := by decide +kernel
theorem dX10_goes_84 : decode cX10_goes 84 = .ok (.imul, 1) := by decide +kernel
theorem dX10_goes_85 : decode cX10_goes 85 = .ok (.iload 6, 2) := by decide +kernel
theorem dX10_goes_87 : decode cX10_goes 87 = .ok (.iadd, 1) := by decide +kernel
theorem dX10_goes_88 : decode cX10_goes 88 = .ok (.iaload, 1) := by decide +kernel
theorem dX10_goes_89 : decode cX10_goes 89 = .ok (.iastore, 1) := by decide +kernel
theorem dX10_goes_90 : decode cX10_goes 90 = .ok (.iinc 6 1, 3) := by decide +kernel
theorem dX10_goes_93 : decode cX10_goes 93 = .ok (.goto (-85), 3) := by decide +kernel
theorem dX10_goes_96 : decode cX10_goes 96 = .ok (.iconst 0, 1) := by decide +kernel
theorem dX10_goes_97 : decode cX10_goes 97 = .ok (.istore 6, 2) := by decide +kernel
theorem dX10_goes_99 : decode cX10_goes 99 = .ok (.iload 6, 2) := by decide +kernel
theorem dX10_goes_101 : decode cX10_goes 101 = .ok (.iconst 4, 1) := by decide +kernel
theorem dX10_goes_102 : decode cX10_goes 102 = .ok (.if_icmp .ge 78, 3) := by decide +kernel
theorem dX10_goes_105 : decode cX10_goes 105 = .ok (.aload_n 0, 1) := by decide +kernel
theorem dX10_goes_106 : decode cX10_goes 106 = .ok (.getfield 103, 3) := by decide +kernel
theorem dX10_goes_109 : decode cX10_goes 109 = .ok (.iconst 4, 1) := by decide +kernel
theorem dX10_goes_110 : decode cX10_goes 110 = .ok (.iload 5, 2) := by decide +kernel
theorem dX10_goes_112 : decode cX10_goes 112 = .ok (.imul, 1) := by decide +kernel
theorem dX10_goes_113 : decode cX10_goes 113 = .ok (.iload 6, 2) := by decide +kernel
theorem dX10_goes_115 : decode cX10_goes 115 = .ok (.iadd, 1) := by decide +kernel
theorem dX10_goes_116 : decode cX10_goes 116 = .ok (.aload_n 0, 1) := by decide +kernel
theorem dX10_goes_117 : decode cX10_goes 117 = .ok (.getfield 103, 3) := by decide +kernel
theorem dX10_goes_120 : decode cX10_goes 120 = .ok (.iconst 4, 1) := by decide +kernel
theorem dX10_goes_121 : decode cX10_goes 121 = .ok (.iload_n 1, 1) := by decide +kernel
theorem dX10_goes_122 : decode cX10_goes 122 = .ok (.imul, 1) := by decide +kernel
theorem dX10_goes_123 : decode cX10_goes 123 = .ok (.iload 6, 2) := by decide +kernel
theorem dX10_goes_125 : decode cX10_goes 125 = .ok (.iadd, 1) := by decide +kernel
theorem dX10_goes_126 : decode cX10_goes 126 = .ok (.iaload, 1) := by decide +kernel
theorem dX10_goes_127 : decode cX10_goes 127 = .ok (.iastore, 1) := by decide +kernel
theorem dX10_goes_128 : decode cX10_goes 128 = .ok (.aload_n 0, 1) := by decide +kernel
theorem dX10_goes_129 : decode cX10_goes 129 = .ok (.getfield 106, 3) := by decide +kernel
theorem dX10_goes_132 : decode cX10_goes 132 = .ok (.iconst 4, 1) := by decide +kernel
theorem dX10_goes_133 : decode cX10_goes 133 = .ok (.iload 5, 2) := by decide +kernel
theorem dX10_goes_135 : decode cX10_goes 135 = .ok (.imul, 1) := by decide +kernel
theorem dX10_goes_136 : decode cX10_goes 136 = .ok (.iload 6, 2) := by decide +kernel
theorem dX10_goes_138 : decode cX10_goes 138 = .ok (.iadd, 1) := by decide +kernel
theorem dX10_goes_139 : decode cX10_goes 139 = .ok (.aload_n 0, 1) := by decide +kernel
theorem dX10_goes_140 : decode cX10_goes 140 = .ok (.getfield 106, 3) := by decide +kernel
theorem dX10_goes_143 : decode cX10_goes 143 = .ok (.iconst 4, 1) := by decide +kernel
theorem dX10_goes_144 : decode cX10_goes 144 = .ok (.iload_n 1, 1) := by decide +kernel
theorem dX10_goes_145 : decode cX10_goes 145 = .ok (.imul, 1) := by decide +kernel
theorem dX10_goes_146 : decode cX10_goes 146 = .ok (.iload 6, 2) := by decide +kernel
theorem dX10_goes_148 : decode cX10_goes 148 = .ok (.iadd, 1) := by decide +kernel
theorem dX10_goes_149 : decode cX10_goes 149 = .ok (.iaload, 1) := by decide +kernel
theorem dX10_goes_150 : decode cX10_goes 150 = .ok (.iastore, 1) := by decide +kernel
theorem dX10_goes_151 : decode cX10_goes 151 = .ok (.aload_n 0, 1) := by decide +kernel
theorem dX10_goes_152 : decode cX10_goes 152 = .ok (.getfield 109, 3) := by decide +kernel
theorem dX10_goes_155 : decode cX10_goes 155 = .ok (.iconst 4, 1) := by decide +kernel
theorem dX10_goes_156 : decode cX10_goes 156 = .ok (.iload 5, 2) := by decide +kernel
theorem dX10_goes_158 : decode cX10_goes 158 = .ok (.imul, 1) := by decide +kernel
theorem dX10_goes_159 : decode cX10_goes 159 = .ok (.iload 6, 2) := by decide +kernel
theorem dX10_goes_161 : decode cX10_goes 161 = .ok (.iadd, 1) := by decide +kernel
theorem dX10_goes_162 : decode cX10_goes 162 = .ok (.aload_n 0, 1) := by decide +kernel
theorem dX10_goes_163 : decode cX10_goes 163 = .ok (.getfield 109, 3) := by decide +kernel
theorem dX10_goes_166 : decode cX10_goes 166 = .ok (.iconst 4, 1) := by decide +kernel
theorem dX10_goes_167 : decode cX10_goes 167 = .ok (.iload_n 1, 1) := by decide +kernel
theorem dX10_goes_168 : decode cX10_goes 168 = .ok (.imul, 1) := by decide +kernel
theorem dX10_goes_169 : decode cX10_goes 169 = .ok (.iload 6, 2) := by decide +kernel
theorem dX10_goes_171 : decode cX10_goes 171 = .ok (.iadd, 1) := by decide +kernel
theorem dX10_goes_172 : decode cX10_goes 172 = .ok (.iaload, 1) := by decide +kernel
theorem dX10_goes_173 : decode cX10_goes 173 = .ok (.iastore, 1) := by decide +kernel
theorem dX10_goes_174 : decode cX10_goes 174 = .ok (.iinc 6 1, 3) := by decide +kernel
theorem dX10_goes_177 : decode cX10_goes 177 = .ok (.goto (-78), 3) := by decide +kernel
theorem dX10_goes_180 : decode cX10_goes 180 = .ok (.aload_n 0, 1) := by decide +kernel
theorem dX10_goes_181 : decode cX10_goes 181 = .ok (.getfield 103, 3) := by decide +kernel
theorem dX10_goes_184 : decode cX10_goes 184 = .ok (.iconst 4, 1) := by decide +kernel
theorem dX10_goes_185 : decode cX10_goes 185 = .ok (.iload_n 1, 1) := by decide +kernel
theorem dX10_goes_186 : decode cX10_goes 186 = .ok (.imul, 1) := by decide +kernel
theorem dX10_goes_187 : decode cX10_goes 187 = .ok (.iload_n 2, 1) := by decide +kernel
theorem dX10_goes_188 : decode cX10_goes 188 = .ok (.iadd, 1) := by decide +kernel
theorem dX10_goes_189 : decode cX10_goes 189 = .ok (.iaload, 1) := by decide +kernel
theorem dX10_goes_190 : decode cX10_goes 190 = .ok (.istore 6, 2) := by decide +kernel
theorem dX10_goes_192 : decode cX10_goes 192 = .ok (.iload_n 3, 1) := by decide +kernel
theorem dX10_goes_193 : decode cX10_goes 193 = .ok (.ifCond .ne 41, 3) := by decide +kernel
theorem dX10_goes_196 : decode cX10_goes 196 = .ok (.aload_n 0, 1) := by decide +kernel
theorem dX10_goes_197 : decode cX10_goes 197 = .ok (.getfield 100, 3) := by decide +kernel
theorem dX10_goes_200 : decode cX10_goes 200 = .ok (.bipush 6, 2) := by decide +kernel
theorem dX10_goes_202 : decode cX10_goes 202 = .ok (.iload 5, 2) := by decide +kernel
theorem dX10_goes_204 : decode cX10_goes 204 = .ok (.imul, 1) := by decide +kernel
theorem dX10_goes_205 : decode cX10_goes 205 = .ok (.iload 6, 2) := by decide +kernel
theorem dX10_goes_207 : decode cX10_goes 207 = .ok (.iadd, 1) := by decide +kernel
theorem dX10_goes_208 : decode cX10_goes 208 = .ok (.dup2, 1) := by decide +kernel
theorem dX10_goes_209 : decode cX10_goes 209 = .ok (.iaload, 1) := by decide +kernel
theorem dX10_goes_210 : decode cX10_goes 210 = .ok (.aload_n 0, 1) := by decide +kernel
theorem dX10_goes_211 : decode cX10_goes 211 = .ok (.getfield 85, 3) := by decide +kernel
theorem dX10_goes_214 : decode cX10_goes 214 = .ok (.iload_n 2, 1) := by decide +kernel
theorem dX10_goes_215 : decode cX10_goes 215 = .ok (.iaload, 1) := by decide +kernel
theorem dX10_goes_216 : decode cX10_goes 216 = .ok (.isub, 1) := by decide +kernel
theorem dX10_goes_217 : decode cX10_goes 217 = .ok (.iastore, 1) := by decide +kernel
theorem dX10_goes_218 : decode cX10_goes 218 = .ok (.aload_n 0, 1) := by decide +kernel
theorem dX10_goes_219 : decode cX10_goes 219 = .ok (.getfield 109, 3) := by decide +kernel
theorem dX10_goes_222 : decode cX10_goes 222 = .ok (.iconst 4, 1) := by decide +kernel
theorem dX10_goes_223 : decode cX10_goes 223 = .ok (.iload 5, 2) := by decide +kernel
theorem dX10_goes_225 : decode cX10_goes 225 = .ok (.imul, 1) := by decide +kernel
theorem dX10_goes_226 : decode cX10_goes 226 = .ok (.iload_n 2, 1) := by decide +kernel
theorem dX10_goes_227 : decode cX10_goes 227 = .ok (.iadd, 1) := by decide +kernel
theorem dX10_goes_228 : decode cX10_goes 228 = .ok (.iload 4, 2) := by decide +kernel
theorem dX10_goes_230 : decode cX10_goes 230 = .ok (.iastore, 1) := by decide +kernel
theorem dX10_goes_231 : decode cX10_goes 231 = .ok (.goto 56, 3) := by decide +kernel
theorem dX10_goes_234 : decode cX10_goes 234 = .ok (.iload_n 3, 1) := by decide +kernel
theorem dX10_goes_235 : decode cX10_goes 235 = .ok (.iconst 1, 1) := by decide +kernel
theorem dX10_goes_236 : decode cX10_goes 236 = .ok (.if_icmp .le 51, 3) := by decide +kernel
theorem dX10_goes_239 : decode cX10_goes 239 = .ok (.iload_n 3, 1) := by decide +kernel
theorem dX10_goes_240 : decode cX10_goes 240 = .ok (.bipush 9, 2) := by decide +kernel
theorem dX10_goes_242 : decode cX10_goes 242 = .ok (.if_icmp .ge 45, 3) := by decide +kernel
theorem dX10_goes_245 : decode cX10_goes 245 = .ok (.aload_n 0, 1) := by decide +kernel
theorem dX10_goes_246 : decode cX10_goes 246 = .ok (.getfield 103, 3) := by decide +kernel
theorem dX10_goes_249 : decode cX10_goes 249 = .ok (.iconst 4, 1) := by decide +kernel
theorem dX10_goes_250 : decode cX10_goes 250 = .ok (.iload 5, 2) := by decide +kernel
theorem dX10_goes_252 : decode cX10_goes 252 = .ok (.imul, 1) := by decide +kernel
theorem dX10_goes_253 : decode cX10_goes 253 = .ok (.iload_n 2, 1) := by decide +kernel
theorem dX10_goes_254 : decode cX10_goes 254 = .ok (.iadd, 1) := by decide +kernel
theorem dX10_goes_255 : decode cX10_goes 255 = .ok (.iload_n 3, 1) := by decide +kernel
theorem dX10_goes_256 : decode cX10_goes 256 = .ok (.iconst 2, 1) := by decide +kernel
theorem dX10_goes_257 : decode cX10_goes 257 = .ok (.isub, 1) := by decide +kernel
theorem dX10_goes_258 : decode cX10_goes 258 = .ok (.iastore, 1) := by decide +kernel
theorem dX10_goes_259 : decode cX10_goes 259 = .ok (.aload_n 0, 1) := by decide +kernel
theorem dX10_goes_260 : decode cX10_goes 260 = .ok (.getfield 106, 3) := by decide +kernel
theorem dX10_goes_263 : decode cX10_goes 263 = .ok (.iconst 4, 1) := by decide +kernel
theorem dX10_goes_264 : decode cX10_goes 264 = .ok (.iload 5, 2) := by decide +kernel
theorem dX10_goes_266 : decode cX10_goes 266 = .ok (.imul, 1) := by decide +kernel
theorem dX10_goes_267 : decode cX10_goes 267 = .ok (.iload_n 2, 1) := by decide +kernel
theorem dX10_goes_268 : decode cX10_goes 268 = .ok (.iadd, 1) := by decide +kernel
theorem dX10_goes_269 : decode cX10_goes 269 = .ok (.iload 4, 2) := by decide +kernel
theorem dX10_goes_271 : decode cX10_goes 271 = .ok (.aload_n 0, 1) := by decide +kernel
theorem dX10_goes_272 : decode cX10_goes 272 = .ok (.getfield 97, 3) := by decide +kernel
theorem dX10_goes_275 : decode cX10_goes 275 = .ok (.bipush 6, 2) := by decide +kernel
theorem dX10_goes_277 : decode cX10_goes 277 = .ok (.iload 6, 2) := by decide +kernel
theorem dX10_goes_279 : decode cX10_goes 279 = .ok (.imul, 1) := by decide +kernel
theorem dX10_goes_280 : decode cX10_goes 280 = .ok (.iload_n 3, 1) := by decide +kernel
theorem dX10_goes_281 : decode cX10_goes 281 = .ok (.iadd, 1) := by decide +kernel
theorem dX10_goes_282 : decode cX10_goes 282 = .ok (.iconst 2, 1) := by decide +kernel
theorem dX10_goes_283 : decode cX10_goes 283 = .ok (.isub, 1) := by decide +kernel
theorem dX10_goes_284 : decode cX10_goes 284 = .ok (.iaload, 1) := by decide +kernel
theorem dX10_goes_285 : decode cX10_goes 285 = .ok (.iadd, 1) := by decide +kernel
theorem dX10_goes_286 : decode cX10_goes 286 = .ok (.iastore, 1) := by decide +kernel
theorem dX10_goes_287 : decode cX10_goes 287 = .ok (.return_, 1) := by decide +kernel
set_option maxHeartbeats 4000000 in
set_option maxRecDepth 100000 in
/-- WellCourtModel.goes -/
theorem m_goes (l : Launch) (G : va_G) (cy : Nat → ClassId) (sK sV : Nat → Nat) (ad : Nat → Nat → Nat) (sz : Nat) (st : gS) (hB : gBd bM st) (x : Int32) (y : Int32) (w : Int32) (v : Int32) (Xx : Int) (Xy : Int) (Xw : Int) (Xv : Int) (kx : x.toInt = Xx) (ky : y.toInt = Xy) (kw : w.toInt = Xw) (kv : v.toInt = Xv) (hx0 : 0 ≤ Xx) (hx1 : Xx ≤ 55) (hy0 : 0 ≤ Xy) (hy1 : Xy ≤ 3) (hw0 : Xw = 9 ∨ (0 ≤ Xw ∧ Xw ≤ 7)) : gsMv l yX10_goes cX10_goes 7 ({ frames := 0, cells := 0, slots := 0, locals := 0 } : Room) G cy sK sV (shM cy ad) cnM ad sz [.ref (ad 0 0), .int x, .int y, .int w, .int v] st (fun (u : gS) => gBN bM kM [2900, 3000, 3100, 3200, 3500, 3600] st u ∧ ((gsM st u x.toNatClampNeg y.toNatClampNeg Xw v))) := by
  refine gs_start (fun A => gsQv G (shM cy ad) cnM ad _ A) (by decide) (Nat.le_of_ble_eq_true rfl) ?_
  intro p e s m below meth c A ls H hx hb hr hml hlocks hown hts hK hov hE hI hM hm hS hA hl
  have hl : lv_has ls 7 [(0, .ref (ad 0 0)), (1, .int x), (2, .int y), (3, .int w), (4, .int v)] := hl
  have hB_st : gBN bM kM [2900, 3000, 3100, 3200, 3500, 3600] st st := gBN.rf hB
  generalize hQe : MQ below _ _ s _ _ A = Q
  refine lv_iload_n hx hb dX10_goes_0 rfl (lv_at hl 1 rfl) ?_
  refine lv_iconst (v := 1) hx hb dX10_goes_1 (by decide) ?_
  refine lv_iadd hx hb dX10_goes_2 ?_
  refine lv_topi (fun x_1 ex_1 => ?_)
  try have tx_1 : x_1.toInt = x.toInt + 1 := by rw [ex_1]; exact gz_addP (x := x.toInt) (y := 1) rfl (by decide) (by omega) (by omega)
  refine lv_istore (lv' := [(5, .int x_1), (0, .ref (ad 0 0)), (1, .int x), (2, .int y), (3, .int w), (4, .int v)]) hx hb dX10_goes_3 hl (by decide) rfl (fun ls hl => ?_)
  refine lv_iconst (v := 0) hx hb dX10_goes_5 (by decide) ?_
  refine lv_istore (lv' := [(6, .int 0), (5, .int x_1), (0, .ref (ad 0 0)), (1, .int x), (2, .int y), (3, .int w), (4, .int v)]) hx hb dX10_goes_6 hl (by decide) rfl (fun ls hl => ?_)
  have lp2 : ∀ (n2 : Nat) (sv2 : gS) (y2_0 : Int32) (H : Heap) (locs : List Loc) (ls : Array Slot), (6 - y2_0.toInt).toNat < n2 → gBN bM kM [2900, 3000, 3100, 3200, 3500, 3600] st sv2 → (0 ≤ y2_0.toInt) → (y2_0.toInt ≤ 6) → (cpM 6 (st 29 0) (sv2 29 0) x.toNatClampNeg y2_0.toInt) → (cpM 6 (st 35 0) (sv2 35 0) x.toNatClampNeg y2_0.toInt) → (cpM 6 (st 36 0) (sv2 36 0) x.toNatClampNeg y2_0.toInt) → (sv2 30 0 = st 30 0) → (sv2 31 0 = st 31 0) → (sv2 32 0 = st 32 0) → gM G (shM cy ad) cnM ad sv2 H → va_S A s.heap H locs → lv_has ls 7 [(6, .int y2_0), (5, .int x_1), (0, .ref (ad 0 0)), (1, .int x), (2, .int y), (3, .int w), (4, .int v)] → W p l e ({ frames := 0, cells := 0, slots := 0, locals := 0 } : Room) s m [.ref (ad 0 0), .int x, .int y, .int w, .int v].toArray below meth c H locs 0 0 Q (F0 m 8 ls []) := by
    intro n2
    induction n2 with
    | zero => intro sv2 y2_0 H locs ls h9; exact absurd h9 (Nat.not_lt_zero _)
    | succ n2 ih_2 =>
      intro sv2 y2_0 H locs ls hme2 hB_sv2 hv2_0 hv2_1 hv2_2 hv2_3 hv2_4 hv2_5 hv2_6 hv2_7 hM hS hl
      refine lv_iload hx hb dX10_goes_8 (lv_at hl 0 rfl) ?_
      refine lv_bipush (v := 6) hx hb dX10_goes_10 (by decide) ?_
      refine lv_icmp_ge (tgt := 96) hx hb dX10_goes_12 (by decide) (fun c_3 => ?_) (fun c_3 => ?_)
      · have ic_3 := gz_le (by decide : (6 : Int32).toInt = 6) (rfl : y2_0.toInt = y2_0.toInt) c_3
        refine lv_iconst (v := 0) hx hb dX10_goes_96 (by decide) ?_
        refine lv_istore (lv' := [(6, .int 0), (5, .int x_1), (0, .ref (ad 0 0)), (1, .int x), (2, .int y), (3, .int w), (4, .int v)]) hx hb dX10_goes_97 hl (by decide) rfl (fun ls hl => ?_)
        have lp4 : ∀ (n4 : Nat) (sv4 : gS) (y4_0 : Int32) (H : Heap) (locs : List Loc) (ls : Array Slot), (4 - y4_0.toInt).toNat < n4 → gBN bM kM [2900, 3000, 3100, 3200, 3500, 3600] st sv4 → (0 ≤ y4_0.toInt) → (y4_0.toInt ≤ 4) → (cpM 4 (st 30 0) (sv4 30 0) x.toNatClampNeg y4_0.toInt) → (cpM 4 (st 31 0) (sv4 31 0) x.toNatClampNeg y4_0.toInt) → (cpM 4 (st 32 0) (sv4 32 0) x.toNatClampNeg y4_0.toInt) → (cpM 6 (st 29 0) (sv4 29 0) x.toNatClampNeg 6) → (cpM 6 (st 35 0) (sv4 35 0) x.toNatClampNeg 6) → (cpM 6 (st 36 0) (sv4 36 0) x.toNatClampNeg 6) → gM G (shM cy ad) cnM ad sv4 H → va_S A s.heap H locs → lv_has ls 7 [(6, .int y4_0), (5, .int x_1), (0, .ref (ad 0 0)), (1, .int x), (2, .int y), (3, .int w), (4, .int v)] → W p l e ({ frames := 0, cells := 0, slots := 0, locals := 0 } : Room) s m [.ref (ad 0 0), .int x, .int y, .int w, .int v].toArray below meth c H locs 0 0 Q (F0 m 99 ls []) := by
          intro n4
          induction n4 with
          | zero => intro sv4 y4_0 H locs ls h9; exact absurd h9 (Nat.not_lt_zero _)
          | succ n4 ih_4 =>
            intro sv4 y4_0 H locs ls hme4 hB_sv4 hv4_0 hv4_1 hv4_2 hv4_3 hv4_4 hv4_5 hv4_6 hv4_7 hM hS hl
            refine lv_iload hx hb dX10_goes_99 (lv_at hl 0 rfl) ?_
            refine lv_iconst (v := 4) hx hb dX10_goes_101 (by decide) ?_
            refine lv_icmp_ge (tgt := 180) hx hb dX10_goes_102 (by decide) (fun c_5 => ?_) (fun c_5 => ?_)
            · have ic_5 := gz_le (by decide : (4 : Int32).toInt = 4) (rfl : y4_0.toInt = y4_0.toInt) c_5
              refine lv_aload_n hx hb dX10_goes_180 rfl (lv_at hl 2 rfl) ?_
              refine gs_get (C := RX10) (T := TX10) (N := 59) hx hb hts inX10 hown hK hM 0 0 46 (by decide) rfl rfl (by decide) (hts _ gm_943) (fun _ h9 => h9) rfl dX10_goes_181 ?_
              refine lv_iconst (v := 4) hx hb dX10_goes_184 (by decide) ?_
              refine lv_iload_n hx hb dX10_goes_185 rfl (lv_at hl 3 rfl) ?_
              refine lv_imul hx hb dX10_goes_186 ?_
              refine lv_topi (fun x_6 ex_6 => ?_)
              try have tx_6 : x_6.toInt = 4 * x.toInt := by rw [ex_6]; exact gz_mulI (x := 4) (y := x.toInt) (by decide) rfl (by omega) (by omega)
              refine lv_iload_n hx hb dX10_goes_187 rfl (lv_at hl 4 rfl) ?_
              refine lv_iadd hx hb dX10_goes_188 ?_
              refine lv_topi (fun x_7 ex_7 => ?_)
              try have tx_7 : x_7.toInt = x_6.toInt + y.toInt := by rw [ex_7]; exact gz_addI (x := x_6.toInt) (y := y.toInt) rfl rfl (by omega) (by omega)
              refine gs_iald hx hb hK hM 30 0 (by decide) rfl (vp_in_iff.mpr ⟨by omega, by omega⟩) dX10_goes_189 ?_
              refine lv_topi (fun x_8 ex_8 => ?_)
              have qx_8 : x_8.toInt = (sv4 30 0 (x_7.toNatClampNeg)).toInt := congrArg Int32.toInt ex_8
              have bx_8 : (0 : Int) ≤ x_8.toInt ∧ x_8.toInt ≤ (5 : Int) := by rw [qx_8]; exact hB_sv4.1 30 0 (x_7.toNatClampNeg)
              have hp9 : x_8 = st 30 0 (4 * x.toNatClampNeg + y.toNatClampNeg) := (by have c_x_7 := gs_cl (x := x_7) (by omega); have c_x := gs_cl (x := x) (by omega); have c_y := gs_cl (x := y) (by omega); have h9 : x_8 = sv4 30 0 x_7.toNatClampNeg := ex_8; rw [show x_7.toNatClampNeg = 4 * x.toNatClampNeg + y.toNatClampNeg by omega] at h9; exact h9.trans (hv4_2.2 _ (by omega)))
              have c_p := gs_cl (x := x_8) (by omega)
              refine lv_istore (lv' := [(6, .int x_8), (5, .int x_1), (0, .ref (ad 0 0)), (1, .int x), (2, .int y), (3, .int w), (4, .int v)]) hx hb dX10_goes_190 hl (by decide) rfl (fun ls hl => ?_)
              refine lv_iload_n hx hb dX10_goes_192 rfl (lv_at hl 5 rfl) ?_
              refine lv_if_ne (tgt := 234) hx hb dX10_goes_193 (by decide) (fun c_9 => ?_) (fun c_9 => ?_)
              · have ic_9 := gz_ne (rfl : w.toInt = w.toInt) (by decide : (0 : Int32).toInt = 0) c_9
                refine lv_iload_n hx hb dX10_goes_234 rfl (lv_at hl 5 rfl) ?_
                refine lv_iconst (v := 1) hx hb dX10_goes_235 (by decide) ?_
                refine lv_icmp_le (tgt := 287) hx hb dX10_goes_236 (by decide) (fun c_10 => ?_) (fun c_10 => ?_)
                · have ic_10 := gz_le (rfl : w.toInt = w.toInt) (by decide : (1 : Int32).toInt = 1) c_10
                  rw [← hQe]
                  exact gs_vret hx hb hr hlocks hM hS ⟨hB_sv4, (gsM.mk1 hv4_5 hv4_6 hv4_7 (show cpM 4 (st 30 0) (sv4 30 0) x.toNatClampNeg 4 from (by rw [show (4 : Int) = y4_0.toInt by omega]; exact hv4_2)) (show cpM 4 (st 31 0) (sv4 31 0) x.toNatClampNeg 4 from (by rw [show (4 : Int) = y4_0.toInt by omega]; exact hv4_3)) (show cpM 4 (st 32 0) (sv4 32 0) x.toNatClampNeg 4 from (by rw [show (4 : Int) = y4_0.toInt by omega]; exact hv4_4)) (by omega))⟩ (by exact Nat.le_refl _) (by exact Nat.le_refl _) dX10_goes_287
                · have ic_10 := gz_nle (rfl : w.toInt = w.toInt) (by decide : (1 : Int32).toInt = 1) c_10
                  refine lv_iload_n hx hb dX10_goes_239 rfl (lv_at hl 5 rfl) ?_
                  refine lv_bipush (v := 9) hx hb dX10_goes_240 (by decide) ?_
                  refine lv_icmp_ge (tgt := 287) hx hb dX10_goes_242 (by decide) (fun c_11 => ?_) (fun c_11 => ?_)
                  · have ic_11 := gz_le (by decide : (9 : Int32).toInt = 9) (rfl : w.toInt = w.toInt) c_11
                    rw [← hQe]
                    exact gs_vret hx hb hr hlocks hM hS ⟨hB_sv4, (gsM.mk1 hv4_5 hv4_6 hv4_7 (show cpM 4 (st 30 0) (sv4 30 0) x.toNatClampNeg 4 from (by rw [show (4 : Int) = y4_0.toInt by omega]; exact hv4_2)) (show cpM 4 (st 31 0) (sv4 31 0) x.toNatClampNeg 4 from (by rw [show (4 : Int) = y4_0.toInt by omega]; exact hv4_3)) (show cpM 4 (st 32 0) (sv4 32 0) x.toNatClampNeg 4 from (by rw [show (4 : Int) = y4_0.toInt by omega]; exact hv4_4)) (by omega))⟩ (by exact Nat.le_refl _) (by exact Nat.le_refl _) dX10_goes_287
                  · have ic_11 := gz_nle (by decide : (9 : Int32).toInt = 9) (rfl : w.toInt = w.toInt) c_11
                    refine lv_aload_n hx hb dX10_goes_245 rfl (lv_at hl 2 rfl) ?_
                    refine gs_get (C := RX10) (T := TX10) (N := 59) hx hb hts inX10 hown hK hM 0 0 46 (by decide) rfl rfl (by decide) (hts _ gm_943) (fun _ h9 => h9) rfl dX10_goes_246 ?_
                    refine lv_iconst (v := 4) hx hb dX10_goes_249 (by decide) ?_
                    refine lv_iload hx hb dX10_goes_250 (lv_at hl 1 rfl) ?_
                    refine lv_imul hx hb dX10_goes_252 ?_
                    refine lv_topi (fun x_12 ex_12 => ?_)
                    try have tx_12 : x_12.toInt = 4 * x_1.toInt := by rw [ex_12]; exact gz_mulI (x := 4) (y := x_1.toInt) (by decide) rfl (by omega) (by omega)
                    refine lv_iload_n hx hb dX10_goes_253 rfl (lv_at hl 4 rfl) ?_
                    refine lv_iadd hx hb dX10_goes_254 ?_
                    refine lv_topi (fun x_13 ex_13 => ?_)
                    try have tx_13 : x_13.toInt = x_12.toInt + y.toInt := by rw [ex_13]; exact gz_addI (x := x_12.toInt) (y := y.toInt) rfl rfl (by omega) (by omega)
                    refine lv_iload_n hx hb dX10_goes_255 rfl (lv_at hl 5 rfl) ?_
                    refine lv_iconst (v := 2) hx hb dX10_goes_256 (by decide) ?_
                    refine lv_isub hx hb dX10_goes_257 ?_
                    refine lv_topi (fun x_14 ex_14 => ?_)
                    try have tx_14 : x_14.toInt = w.toInt - 2 := by rw [ex_14]; exact gz_subP (x := w.toInt) (y := 2) rfl (by decide) (by omega) (by omega)
                    refine gs_iast hx hb hK hI hm hM hS 30 0 (by decide) (fun _ => rfl) (vp_in_iff.mpr ⟨by omega, by omega⟩) dX10_goes_258 (fun st_15 H locs est_15 hM hS => ?_)
                    have hB_st_15 : gBN bM kM [2900, 3000, 3100, 3200, 3500, 3600] st st_15 := by rw [est_15]; exact hB_sv4.up (show (3000 : Nat) ∈ _ from by decide) (show (0 : Int) ≤ x_14.toInt from by omega) (show x_14.toInt ≤ (5 : Int) from by omega)
                    refine lv_aload_n hx hb dX10_goes_259 rfl (lv_at hl 2 rfl) ?_
                    refine gs_get (C := RX10) (T := TX10) (N := 59) hx hb hts inX10 hown hK hM 0 0 47 (by decide) rfl rfl (by decide) (hts _ gm_944) (fun _ h9 => h9) rfl dX10_goes_260 ?_
                    refine lv_iconst (v := 4) hx hb dX10_goes_263 (by decide) ?_
                    refine lv_iload hx hb dX10_goes_264 (lv_at hl 1 rfl) ?_
                    refine lv_imul hx hb dX10_goes_266 ?_
                    refine lv_topi (fun x_16 ex_16 => ?_)
                    try have tx_16 : x_16.toInt = 4 * x_1.toInt := by rw [ex_16]; exact gz_mulI (x := 4) (y := x_1.toInt) (by decide) rfl (by omega) (by omega)
                    refine lv_iload_n hx hb dX10_goes_267 rfl (lv_at hl 4 rfl) ?_
                    refine lv_iadd hx hb dX10_goes_268 ?_
                    refine lv_topi (fun x_17 ex_17 => ?_)
                    try have tx_17 : x_17.toInt = x_16.toInt + y.toInt := by rw [ex_17]; exact gz_addI (x := x_16.toInt) (y := y.toInt) rfl rfl (by omega) (by omega)
                    refine lv_iload hx hb dX10_goes_269 (lv_at hl 6 rfl) ?_
                    refine lv_aload_n hx hb dX10_goes_271 rfl (lv_at hl 2 rfl) ?_
                    refine gs_get (C := RX10) (T := TX10) (N := 59) hx hb hts inX10 hown hK hM 0 0 44 (by decide) rfl rfl (by decide) (hts _ gm_941) (fun _ h9 => h9) rfl dX10_goes_272 ?_
                    refine lv_bipush (v := 6) hx hb dX10_goes_275 (by decide) ?_
                    refine lv_iload hx hb dX10_goes_277 (lv_at hl 0 rfl) ?_
                    refine lv_imul hx hb dX10_goes_279 ?_
                    refine lv_topi (fun x_18 ex_18 => ?_)
                    try have tx_18 : x_18.toInt = 6 * x_8.toInt := by rw [ex_18]; exact gz_mulI (x := 6) (y := x_8.toInt) (by decide) rfl (by omega) (by omega)
                    refine lv_iload_n hx hb dX10_goes_280 rfl (lv_at hl 5 rfl) ?_
                    refine lv_iadd hx hb dX10_goes_281 ?_
                    refine lv_topi (fun x_19 ex_19 => ?_)
                    try have tx_19 : x_19.toInt = x_18.toInt + w.toInt := by rw [ex_19]; exact gz_addI (x := x_18.toInt) (y := w.toInt) rfl rfl (by omega) (by omega)
                    refine lv_iconst (v := 2) hx hb dX10_goes_282 (by decide) ?_
                    refine lv_isub hx hb dX10_goes_283 ?_
                    refine lv_topi (fun x_20 ex_20 => ?_)
                    try have tx_20 : x_20.toInt = x_19.toInt - 2 := by rw [ex_20]; exact gz_subP (x := x_19.toInt) (y := 2) rfl (by decide) (by omega) (by omega)
                    refine gs_iald hx hb hK hM 28 0 (by decide) rfl (vp_in_iff.mpr ⟨by omega, by omega⟩) dX10_goes_284 ?_
                    refine lv_topi (fun x_21 ex_21 => ?_)
                    have qx_21 : x_21.toInt = (st_15 28 0 (x_20.toNatClampNeg)).toInt := congrArg Int32.toInt ex_21
                    have rx_21 : x_21.toInt = ((st 28 0 (x_20.toNatClampNeg)) : Int32).toInt := by rw [ex_21]; exact congrArg Int32.toInt ((((congrFun (congrFun (congrFun est_15 28) 0) (x_20.toNatClampNeg)).trans (congrFun (congrFun (gU_k (by decide)) 0) (x_20.toNatClampNeg))).trans (hB_sv4.2 28 0 (x_20.toNatClampNeg) (show (2800 : Nat) ∉ _ from by decide))))
                    refine lv_iadd hx hb dX10_goes_285 ?_
                    refine lv_topi (fun x_22 ex_22 => ?_)
                    refine gs_iast hx hb hK hI hm hM hS 31 0 (by decide) (fun _ => rfl) (vp_in_iff.mpr ⟨by omega, by omega⟩) dX10_goes_286 (fun st_23 H locs est_23 hM hS => ?_)
                    have hB_st_23 : gBN bM kM [2900, 3000, 3100, 3200, 3500, 3600] st st_23 := by rw [est_23]; exact hB_st_15.up (show (3100 : Nat) ∈ _ from by decide) (gi_lo _) (gi_hi _)
                    rw [← hQe]
                    exact gs_vret hx hb hr hlocks hM hS ⟨hB_st_23, (gsM.mk2 (m := sv4) (pv := x_14) (tv := x_22) (by rw [show st_23 29 0 = sv4 29 0 from (((congrFun (congrFun est_23 29) 0).trans (congrFun (gU_k (by decide)) 0)).trans ((congrFun (congrFun est_15 29) 0).trans (congrFun (gU_k (by decide)) 0)))]; exact hv4_5) (by rw [show st_23 35 0 = sv4 35 0 from (((congrFun (congrFun est_23 35) 0).trans (congrFun (gU_k (by decide)) 0)).trans ((congrFun (congrFun est_15 35) 0).trans (congrFun (gU_k (by decide)) 0)))]; exact hv4_6) (by rw [show st_23 36 0 = sv4 36 0 from (((congrFun (congrFun est_23 36) 0).trans (congrFun (gU_k (by decide)) 0)).trans ((congrFun (congrFun est_15 36) 0).trans (congrFun (gU_k (by decide)) 0)))]; exact hv4_7) (show cpM 4 (st 30 0) (sv4 30 0) x.toNatClampNeg 4 from (by rw [show (4 : Int) = y4_0.toInt by omega]; exact hv4_2)) (show cpM 4 (st 31 0) (sv4 31 0) x.toNatClampNeg 4 from (by rw [show (4 : Int) = y4_0.toInt by omega]; exact hv4_3)) (by rw [show st_23 32 0 = sv4 32 0 from (((congrFun (congrFun est_23 32) 0).trans (congrFun (gU_k (by decide)) 0)).trans ((congrFun (congrFun est_15 32) 0).trans (congrFun (gU_k (by decide)) 0)))]; exact (show cpM 4 (st 32 0) (sv4 32 0) x.toNatClampNeg 4 from (by rw [show (4 : Int) = y4_0.toInt by omega]; exact hv4_4))) ⟨by omega, by omega⟩ (by have := gs_cl (x := y) (by omega); omega) (by have c_x_13 := gs_cl (x := x_13) (by omega); have c_x := gs_cl (x := x) (by omega); have c_y := gs_cl (x := y) (by omega); rw [show st_23 30 0 = (upd (sv4 30 0) (x_13.toNatClampNeg) (x_14 : Int32)) from ((congrFun (congrFun est_23 30) 0).trans ((congrFun (gU_k (by decide)) 0).trans ((congrFun (congrFun est_15 30) 0).trans ((gU_at _ _ _ _ _).trans (congrArg (fun f9 => upd f9 (x_13.toNatClampNeg) (x_14 : Int32)) rfl))))), show x_13.toNatClampNeg = 4 * (x.toNatClampNeg + 1) + y.toNatClampNeg by omega]) (by omega) (by have c_x_17 := gs_cl (x := x_17) (by omega); have c_x := gs_cl (x := x) (by omega); have c_y := gs_cl (x := y) (by omega); rw [show st_23 31 0 = (upd (sv4 31 0) (x_17.toNatClampNeg) (x_22 : Int32)) from ((congrFun (congrFun est_23 31) 0).trans ((gU_at _ _ _ _ _).trans (congrArg (fun f9 => upd f9 (x_17.toNatClampNeg) (x_22 : Int32)) ((congrFun (congrFun est_15 31) 0).trans ((congrFun (gU_k (by decide)) 0).trans rfl))))), show x_17.toNatClampNeg = 4 * (x.toNatClampNeg + 1) + y.toNatClampNeg by omega]) (by have c_x_20 := gs_cl (x := x_20) (by omega); have h9 := (ex_21.trans (((congrFun (congrFun (congrFun est_15 28) 0) (x_20.toNatClampNeg)).trans (congrFun (congrFun (gU_k (by decide)) 0) (x_20.toNatClampNeg))).trans (hB_sv4.2 28 0 (x_20.toNatClampNeg) (show (2800 : Nat) ∉ _ from by decide)))); rw [show x_20.toNatClampNeg = 6 * x_8.toNatClampNeg + (Xw - 2).toNat by omega, hp9] at h9; rw [ex_22, h9]))⟩ (by exact Nat.le_refl _) (by exact Nat.le_refl _) dX10_goes_287
              · have ic_9 := gz_eqn (rfl : w.toInt = w.toInt) (by decide : (0 : Int32).toInt = 0) c_9
                refine lv_aload_n hx hb dX10_goes_196 rfl (lv_at hl 2 rfl) ?_
                refine gs_get (C := RX10) (T := TX10) (N := 59) hx hb hts inX10 hown hK hM 0 0 45 (by decide) rfl rfl (by decide) (hts _ gm_942) (fun _ h9 => h9) rfl dX10_goes_197 ?_
                refine lv_bipush (v := 6) hx hb dX10_goes_200 (by decide) ?_
                refine lv_iload hx hb dX10_goes_202 (lv_at hl 1 rfl) ?_
                refine lv_imul hx hb dX10_goes_204 ?_
                refine lv_topi (fun x_24 ex_24 => ?_)
                try have tx_24 : x_24.toInt = 6 * x_1.toInt := by rw [ex_24]; exact gz_mulI (x := 6) (y := x_1.toInt) (by decide) rfl (by omega) (by omega)
                refine lv_iload hx hb dX10_goes_205 (lv_at hl 0 rfl) ?_
                refine lv_iadd hx hb dX10_goes_207 ?_
                refine lv_topi (fun x_25 ex_25 => ?_)
                try have tx_25 : x_25.toInt = x_24.toInt + x_8.toInt := by rw [ex_25]; exact gz_addI (x := x_24.toInt) (y := x_8.toInt) rfl rfl (by omega) (by omega)
                refine lv_dup2_11 hx hb dX10_goes_208 rfl rfl ?_
                refine gs_iald hx hb hK hM 29 0 (by decide) rfl (vp_in_iff.mpr ⟨by omega, by omega⟩) dX10_goes_209 ?_
                refine lv_topi (fun x_26 ex_26 => ?_)
                have qx_26 : x_26.toInt = (sv4 29 0 (x_25.toNatClampNeg)).toInt := congrArg Int32.toInt ex_26
                refine lv_aload_n hx hb dX10_goes_210 rfl (lv_at hl 2 rfl) ?_
                refine gs_get (C := RX10) (T := TX10) (N := 59) hx hb hts inX10 hown hK hM 0 0 40 (by decide) rfl rfl (by decide) (hts _ gm_937) (fun _ h9 => h9) rfl dX10_goes_211 ?_
                refine lv_iload_n hx hb dX10_goes_214 rfl (lv_at hl 4 rfl) ?_
                refine gs_iald hx hb hK hM 24 0 (by decide) rfl (vp_in_iff.mpr ⟨by omega, by omega⟩) dX10_goes_215 ?_
                refine lv_topi (fun x_27 ex_27 => ?_)
                have qx_27 : x_27.toInt = (sv4 24 0 (y.toNatClampNeg)).toInt := congrArg Int32.toInt ex_27
                have rx_27 : x_27.toInt = ((st 24 0 (y.toNatClampNeg)) : Int32).toInt := by rw [ex_27]; exact congrArg Int32.toInt ((hB_sv4.2 24 0 (y.toNatClampNeg) (show (2400 : Nat) ∉ _ from by decide)))
                refine lv_isub hx hb dX10_goes_216 ?_
                refine lv_topi (fun x_28 ex_28 => ?_)
                refine gs_iast hx hb hK hI hm hM hS 29 0 (by decide) (fun _ => rfl) (vp_in_iff.mpr ⟨by omega, by omega⟩) dX10_goes_217 (fun st_29 H locs est_29 hM hS => ?_)
                have hB_st_29 : gBN bM kM [2900, 3000, 3100, 3200, 3500, 3600] st st_29 := by rw [est_29]; exact hB_sv4.up (show (2900 : Nat) ∈ _ from by decide) (gi_lo _) (gi_hi _)
                refine lv_aload_n hx hb dX10_goes_218 rfl (lv_at hl 2 rfl) ?_
                refine gs_get (C := RX10) (T := TX10) (N := 59) hx hb hts inX10 hown hK hM 0 0 48 (by decide) rfl rfl (by decide) (hts _ gm_945) (fun _ h9 => h9) rfl dX10_goes_219 ?_
                refine lv_iconst (v := 4) hx hb dX10_goes_222 (by decide) ?_
                refine lv_iload hx hb dX10_goes_223 (lv_at hl 1 rfl) ?_
                refine lv_imul hx hb dX10_goes_225 ?_
                refine lv_topi (fun x_30 ex_30 => ?_)
                try have tx_30 : x_30.toInt = 4 * x_1.toInt := by rw [ex_30]; exact gz_mulI (x := 4) (y := x_1.toInt) (by decide) rfl (by omega) (by omega)
                refine lv_iload_n hx hb dX10_goes_226 rfl (lv_at hl 4 rfl) ?_
                refine lv_iadd hx hb dX10_goes_227 ?_
                refine lv_topi (fun x_31 ex_31 => ?_)
                try have tx_31 : x_31.toInt = x_30.toInt + y.toInt := by rw [ex_31]; exact gz_addI (x := x_30.toInt) (y := y.toInt) rfl rfl (by omega) (by omega)
                refine lv_iload hx hb dX10_goes_228 (lv_at hl 6 rfl) ?_
                refine gs_iast hx hb hK hI hm hM hS 32 0 (by decide) (fun _ => rfl) (vp_in_iff.mpr ⟨by omega, by omega⟩) dX10_goes_230 (fun st_32 H locs est_32 hM hS => ?_)
                have hB_st_32 : gBN bM kM [2900, 3000, 3100, 3200, 3500, 3600] st st_32 := by rw [est_32]; exact hB_st_29.up (show (3200 : Nat) ∈ _ from by decide) (gi_lo _) (gi_hi _)
                refine lv_goto (tgt := 287) hx hb dX10_goes_231 (by decide) ?_
                rw [← hQe]
                exact gs_vret hx hb hr hlocks hM hS ⟨hB_st_32, (gsM.mk0 (m := sv4) (v := x_28) hv4_5 (by rw [show st_32 35 0 = sv4 35 0 from (((congrFun (congrFun est_32 35) 0).trans (congrFun (gU_k (by decide)) 0)).trans ((congrFun (congrFun est_29 35) 0).trans (congrFun (gU_k (by decide)) 0)))]; exact hv4_6) (by rw [show st_32 36 0 = sv4 36 0 from (((congrFun (congrFun est_32 36) 0).trans (congrFun (gU_k (by decide)) 0)).trans ((congrFun (congrFun est_29 36) 0).trans (congrFun (gU_k (by decide)) 0)))]; exact hv4_7) (by rw [show st_32 30 0 = sv4 30 0 from (((congrFun (congrFun est_32 30) 0).trans (congrFun (gU_k (by decide)) 0)).trans ((congrFun (congrFun est_29 30) 0).trans (congrFun (gU_k (by decide)) 0)))]; exact (show cpM 4 (st 30 0) (sv4 30 0) x.toNatClampNeg 4 from (by rw [show (4 : Int) = y4_0.toInt by omega]; exact hv4_2))) (by rw [show st_32 31 0 = sv4 31 0 from (((congrFun (congrFun est_32 31) 0).trans (congrFun (gU_k (by decide)) 0)).trans ((congrFun (congrFun est_29 31) 0).trans (congrFun (gU_k (by decide)) 0)))]; exact (show cpM 4 (st 31 0) (sv4 31 0) x.toNatClampNeg 4 from (by rw [show (4 : Int) = y4_0.toInt by omega]; exact hv4_3))) (show cpM 4 (st 32 0) (sv4 32 0) x.toNatClampNeg 4 from (by rw [show (4 : Int) = y4_0.toInt by omega]; exact hv4_4)) (by omega) (by rw [← hp9]; omega) (by have := gs_cl (x := y) (by omega); omega) (by have h9 : st_32 29 0 = upd (sv4 29 0) (6 * (x.toNatClampNeg + 1) + x_8.toNatClampNeg) x_28 := (by have c_x_25 := gs_cl (x := x_25) (by omega); have c_x := gs_cl (x := x) (by omega); have c_y := gs_cl (x := y) (by omega); rw [show st_32 29 0 = (upd (sv4 29 0) (x_25.toNatClampNeg) (x_28 : Int32)) from ((congrFun (congrFun est_32 29) 0).trans ((congrFun (gU_k (by decide)) 0).trans ((congrFun (congrFun est_29 29) 0).trans ((gU_at _ _ _ _ _).trans (congrArg (fun f9 => upd f9 (x_25.toNatClampNeg) (x_28 : Int32)) rfl))))), show x_25.toNatClampNeg = 6 * (x.toNatClampNeg + 1) + x_8.toNatClampNeg by omega]); rw [hp9] at h9; exact h9) (by have c_x_25 := gs_cl (x := x_25) (by omega); have c_x := gs_cl (x := x) (by omega); have h9 : x_26 = sv4 29 0 x_25.toNatClampNeg := ex_26; rw [show x_25.toNatClampNeg = 6 * (x.toNatClampNeg + 1) + x_8.toNatClampNeg by omega, hp9] at h9; rw [ex_28, h9, show x_27 = _ from (ex_27.trans (hB_sv4.2 24 0 (y.toNatClampNeg) (show (2400 : Nat) ∉ _ from by decide)))]) (by have c_x_31 := gs_cl (x := x_31) (by omega); have c_x := gs_cl (x := x) (by omega); have c_y := gs_cl (x := y) (by omega); rw [show st_32 32 0 = (upd (sv4 32 0) (x_31.toNatClampNeg) (v : Int32)) from ((congrFun (congrFun est_32 32) 0).trans ((gU_at _ _ _ _ _).trans (congrArg (fun f9 => upd f9 (x_31.toNatClampNeg) (v : Int32)) ((congrFun (congrFun est_29 32) 0).trans ((congrFun (gU_k (by decide)) 0).trans rfl))))), show x_31.toNatClampNeg = 4 * (x.toNatClampNeg + 1) + y.toNatClampNeg by omega]))⟩ (by exact Nat.le_refl _) (by exact Nat.le_refl _) dX10_goes_287
            · have ic_5 := gz_nle (by decide : (4 : Int32).toInt = 4) (rfl : y4_0.toInt = y4_0.toInt) c_5
              refine lv_aload_n hx hb dX10_goes_105 rfl (lv_at hl 2 rfl) ?_
              refine gs_get (C := RX10) (T := TX10) (N := 59) hx hb hts inX10 hown hK hM 0 0 46 (by decide) rfl rfl (by decide) (hts _ gm_943) (fun _ h9 => h9) rfl dX10_goes_106 ?_
              refine lv_iconst (v := 4) hx hb dX10_goes_109 (by decide) ?_
              refine lv_iload hx hb dX10_goes_110 (lv_at hl 1 rfl) ?_
              refine lv_imul hx hb dX10_goes_112 ?_
              refine lv_topi (fun x_33 ex_33 => ?_)
              try have tx_33 : x_33.toInt = 4 * x_1.toInt := by rw [ex_33]; exact gz_mulI (x := 4) (y := x_1.toInt) (by decide) rfl (by omega) (by omega)
              refine lv_iload hx hb dX10_goes_113 (lv_at hl 0 rfl) ?_
              refine lv_iadd hx hb dX10_goes_115 ?_
              refine lv_topi (fun x_34 ex_34 => ?_)
              try have tx_34 : x_34.toInt = x_33.toInt + y4_0.toInt := by rw [ex_34]; exact gz_addI (x := x_33.toInt) (y := y4_0.toInt) rfl rfl (by omega) (by omega)
              refine lv_aload_n hx hb dX10_goes_116 rfl (lv_at hl 2 rfl) ?_
              refine gs_get (C := RX10) (T := TX10) (N := 59) hx hb hts inX10 hown hK hM 0 0 46 (by decide) rfl rfl (by decide) (hts _ gm_943) (fun _ h9 => h9) rfl dX10_goes_117 ?_
              refine lv_iconst (v := 4) hx hb dX10_goes_120 (by decide) ?_
              refine lv_iload_n hx hb dX10_goes_121 rfl (lv_at hl 3 rfl) ?_
              refine lv_imul hx hb dX10_goes_122 ?_
              refine lv_topi (fun x_35 ex_35 => ?_)
              try have tx_35 : x_35.toInt = 4 * x.toInt := by rw [ex_35]; exact gz_mulI (x := 4) (y := x.toInt) (by decide) rfl (by omega) (by omega)
              refine lv_iload hx hb dX10_goes_123 (lv_at hl 0 rfl) ?_
              refine lv_iadd hx hb dX10_goes_125 ?_
              refine lv_topi (fun x_36 ex_36 => ?_)
              try have tx_36 : x_36.toInt = x_35.toInt + y4_0.toInt := by rw [ex_36]; exact gz_addI (x := x_35.toInt) (y := y4_0.toInt) rfl rfl (by omega) (by omega)
              refine gs_iald hx hb hK hM 30 0 (by decide) rfl (vp_in_iff.mpr ⟨by omega, by omega⟩) dX10_goes_126 ?_
              refine lv_topi (fun x_37 ex_37 => ?_)
              have qx_37 : x_37.toInt = (sv4 30 0 (x_36.toNatClampNeg)).toInt := congrArg Int32.toInt ex_37
              have bx_37 : (0 : Int) ≤ x_37.toInt ∧ x_37.toInt ≤ (5 : Int) := by rw [qx_37]; exact hB_sv4.1 30 0 (x_36.toNatClampNeg)
              refine gs_iast hx hb hK hI hm hM hS 30 0 (by decide) (fun _ => rfl) (vp_in_iff.mpr ⟨by omega, by omega⟩) dX10_goes_127 (fun st_38 H locs est_38 hM hS => ?_)
              have hB_st_38 : gBN bM kM [2900, 3000, 3100, 3200, 3500, 3600] st st_38 := by rw [est_38]; exact hB_sv4.up (show (3000 : Nat) ∈ _ from by decide) (show (0 : Int) ≤ x_37.toInt from by omega) (show x_37.toInt ≤ (5 : Int) from by omega)
              refine lv_aload_n hx hb dX10_goes_128 rfl (lv_at hl 2 rfl) ?_
              refine gs_get (C := RX10) (T := TX10) (N := 59) hx hb hts inX10 hown hK hM 0 0 47 (by decide) rfl rfl (by decide) (hts _ gm_944) (fun _ h9 => h9) rfl dX10_goes_129 ?_
              refine lv_iconst (v := 4) hx hb dX10_goes_132 (by decide) ?_
              refine lv_iload hx hb dX10_goes_133 (lv_at hl 1 rfl) ?_
              refine lv_imul hx hb dX10_goes_135 ?_
              refine lv_topi (fun x_39 ex_39 => ?_)
              try have tx_39 : x_39.toInt = 4 * x_1.toInt := by rw [ex_39]; exact gz_mulI (x := 4) (y := x_1.toInt) (by decide) rfl (by omega) (by omega)
              refine lv_iload hx hb dX10_goes_136 (lv_at hl 0 rfl) ?_
              refine lv_iadd hx hb dX10_goes_138 ?_
              refine lv_topi (fun x_40 ex_40 => ?_)
              try have tx_40 : x_40.toInt = x_39.toInt + y4_0.toInt := by rw [ex_40]; exact gz_addI (x := x_39.toInt) (y := y4_0.toInt) rfl rfl (by omega) (by omega)
              refine lv_aload_n hx hb dX10_goes_139 rfl (lv_at hl 2 rfl) ?_
              refine gs_get (C := RX10) (T := TX10) (N := 59) hx hb hts inX10 hown hK hM 0 0 47 (by decide) rfl rfl (by decide) (hts _ gm_944) (fun _ h9 => h9) rfl dX10_goes_140 ?_
              refine lv_iconst (v := 4) hx hb dX10_goes_143 (by decide) ?_
              refine lv_iload_n hx hb dX10_goes_144 rfl (lv_at hl 3 rfl) ?_
              refine lv_imul hx hb dX10_goes_145 ?_
              refine lv_topi (fun x_41 ex_41 => ?_)
              try have tx_41 : x_41.toInt = 4 * x.toInt := by rw [ex_41]; exact gz_mulI (x := 4) (y := x.toInt) (by decide) rfl (by omega) (by omega)
              refine lv_iload hx hb dX10_goes_146 (lv_at hl 0 rfl) ?_
              refine lv_iadd hx hb dX10_goes_148 ?_
              refine lv_topi (fun x_42 ex_42 => ?_)
              try have tx_42 : x_42.toInt = x_41.toInt + y4_0.toInt := by rw [ex_42]; exact gz_addI (x := x_41.toInt) (y := y4_0.toInt) rfl rfl (by omega) (by omega)
              refine gs_iald hx hb hK hM 31 0 (by decide) rfl (vp_in_iff.mpr ⟨by omega, by omega⟩) dX10_goes_149 ?_
              refine lv_topi (fun x_43 ex_43 => ?_)
              have qx_43 : x_43.toInt = (st_38 31 0 (x_42.toNatClampNeg)).toInt := congrArg Int32.toInt ex_43
              have rx_43 : x_43.toInt = ((sv4 31 0 (x_42.toNatClampNeg)) : Int32).toInt := by rw [ex_43]; exact congrArg Int32.toInt (((congrFun (congrFun (congrFun est_38 31) 0) (x_42.toNatClampNeg)).trans (congrFun (congrFun (gU_k (by decide)) 0) (x_42.toNatClampNeg))))
              refine gs_iast hx hb hK hI hm hM hS 31 0 (by decide) (fun _ => rfl) (vp_in_iff.mpr ⟨by omega, by omega⟩) dX10_goes_150 (fun st_44 H locs est_44 hM hS => ?_)
              have hB_st_44 : gBN bM kM [2900, 3000, 3100, 3200, 3500, 3600] st st_44 := by rw [est_44]; exact hB_st_38.up (show (3100 : Nat) ∈ _ from by decide) (gi_lo _) (gi_hi _)
              refine lv_aload_n hx hb dX10_goes_151 rfl (lv_at hl 2 rfl) ?_
              refine gs_get (C := RX10) (T := TX10) (N := 59) hx hb hts inX10 hown hK hM 0 0 48 (by decide) rfl rfl (by decide) (hts _ gm_945) (fun _ h9 => h9) rfl dX10_goes_152 ?_
              refine lv_iconst (v := 4) hx hb dX10_goes_155 (by decide) ?_
              refine lv_iload hx hb dX10_goes_156 (lv_at hl 1 rfl) ?_
              refine lv_imul hx hb dX10_goes_158 ?_
              refine lv_topi (fun x_45 ex_45 => ?_)
              try have tx_45 : x_45.toInt = 4 * x_1.toInt := by rw [ex_45]; exact gz_mulI (x := 4) (y := x_1.toInt) (by decide) rfl (by omega) (by omega)
              refine lv_iload hx hb dX10_goes_159 (lv_at hl 0 rfl) ?_
              refine lv_iadd hx hb dX10_goes_161 ?_
              refine lv_topi (fun x_46 ex_46 => ?_)
              try have tx_46 : x_46.toInt = x_45.toInt + y4_0.toInt := by rw [ex_46]; exact gz_addI (x := x_45.toInt) (y := y4_0.toInt) rfl rfl (by omega) (by omega)
              refine lv_aload_n hx hb dX10_goes_162 rfl (lv_at hl 2 rfl) ?_
              refine gs_get (C := RX10) (T := TX10) (N := 59) hx hb hts inX10 hown hK hM 0 0 48 (by decide) rfl rfl (by decide) (hts _ gm_945) (fun _ h9 => h9) rfl dX10_goes_163 ?_
              refine lv_iconst (v := 4) hx hb dX10_goes_166 (by decide) ?_
              refine lv_iload_n hx hb dX10_goes_167 rfl (lv_at hl 3 rfl) ?_
              refine lv_imul hx hb dX10_goes_168 ?_
              refine lv_topi (fun x_47 ex_47 => ?_)
              try have tx_47 : x_47.toInt = 4 * x.toInt := by rw [ex_47]; exact gz_mulI (x := 4) (y := x.toInt) (by decide) rfl (by omega) (by omega)
              refine lv_iload hx hb dX10_goes_169 (lv_at hl 0 rfl) ?_
              refine lv_iadd hx hb dX10_goes_171 ?_
              refine lv_topi (fun x_48 ex_48 => ?_)
              try have tx_48 : x_48.toInt = x_47.toInt + y4_0.toInt := by rw [ex_48]; exact gz_addI (x := x_47.toInt) (y := y4_0.toInt) rfl rfl (by omega) (by omega)
              refine gs_iald hx hb hK hM 32 0 (by decide) rfl (vp_in_iff.mpr ⟨by omega, by omega⟩) dX10_goes_172 ?_
              refine lv_topi (fun x_49 ex_49 => ?_)
              have qx_49 : x_49.toInt = (st_44 32 0 (x_48.toNatClampNeg)).toInt := congrArg Int32.toInt ex_49
              have rx_49 : x_49.toInt = ((sv4 32 0 (x_48.toNatClampNeg)) : Int32).toInt := by rw [ex_49]; exact congrArg Int32.toInt ((((congrFun (congrFun (congrFun est_44 32) 0) (x_48.toNatClampNeg)).trans (congrFun (congrFun (gU_k (by decide)) 0) (x_48.toNatClampNeg))).trans ((congrFun (congrFun (congrFun est_38 32) 0) (x_48.toNatClampNeg)).trans (congrFun (congrFun (gU_k (by decide)) 0) (x_48.toNatClampNeg)))))
              refine gs_iast hx hb hK hI hm hM hS 32 0 (by decide) (fun _ => rfl) (vp_in_iff.mpr ⟨by omega, by omega⟩) dX10_goes_173 (fun st_50 H locs est_50 hM hS => ?_)
              have hB_st_50 : gBN bM kM [2900, 3000, 3100, 3200, 3500, 3600] st st_50 := by rw [est_50]; exact hB_st_44.up (show (3200 : Nat) ∈ _ from by decide) (gi_lo _) (gi_hi _)
              obtain ⟨x_51, ex_51⟩ : ∃ y : Int32, y = y4_0 + 1 := ⟨_, rfl⟩
              try have tx_51 : x_51.toInt = y4_0.toInt + 1 := by rw [ex_51]; exact gz_addP (x := y4_0.toInt) (y := 1) rfl (by decide) (by omega) (by omega)
              refine lv_iinc (v := (x_51)) (lv' := [(6, .int x_51), (5, .int x_1), (0, .ref (ad 0 0)), (1, .int x), (2, .int y), (3, .int w), (4, .int v)]) hx hb dX10_goes_174 hl (k := 0) rfl (by rw [ex_51]; rfl) (by decide) rfl (fun ls hl => ?_)
              refine lv_goto (tgt := 99) hx hb dX10_goes_177 (by decide) ?_
              exact ih_4 st_50 (x_51 : Int32) H _ ls (by omega) hB_st_50 (by omega) (by omega) (cpM.step (v := x_37) (by decide) hv4_2 (by omega) (by omega) (by omega) (by have c_x_34 := gs_cl (x := x_34) (by omega); have c_x := gs_cl (x := x) (by omega); have c_y4_0 := gs_cl (x := y4_0) (by omega); rw [show st_50 30 0 = (upd (sv4 30 0) (x_34.toNatClampNeg) (x_37 : Int32)) from ((congrFun (congrFun est_50 30) 0).trans ((congrFun (gU_k (by decide)) 0).trans ((congrFun (congrFun est_44 30) 0).trans ((congrFun (gU_k (by decide)) 0).trans ((congrFun (congrFun est_38 30) 0).trans ((gU_at _ _ _ _ _).trans (congrArg (fun f9 => upd f9 (x_34.toNatClampNeg) (x_37 : Int32)) rfl))))))), show x_34.toNatClampNeg = 4 * (x.toNatClampNeg + 1) + y4_0.toNatClampNeg by omega]) (by have c_x_36 := gs_cl (x := x_36) (by omega); have c_x := gs_cl (x := x) (by omega); have c_y4_0 := gs_cl (x := y4_0) (by omega); have h9 := ex_37; rw [show x_36.toNatClampNeg = 4 * x.toNatClampNeg + y4_0.toNatClampNeg by omega] at h9; exact h9)) (cpM.step (v := x_43) (by decide) hv4_3 (by omega) (by omega) (by omega) (by have c_x_40 := gs_cl (x := x_40) (by omega); have c_x := gs_cl (x := x) (by omega); have c_y4_0 := gs_cl (x := y4_0) (by omega); rw [show st_50 31 0 = (upd (sv4 31 0) (x_40.toNatClampNeg) (x_43 : Int32)) from ((congrFun (congrFun est_50 31) 0).trans ((congrFun (gU_k (by decide)) 0).trans ((congrFun (congrFun est_44 31) 0).trans ((gU_at _ _ _ _ _).trans (congrArg (fun f9 => upd f9 (x_40.toNatClampNeg) (x_43 : Int32)) ((congrFun (congrFun est_38 31) 0).trans ((congrFun (gU_k (by decide)) 0).trans rfl))))))), show x_40.toNatClampNeg = 4 * (x.toNatClampNeg + 1) + y4_0.toNatClampNeg by omega]) (by have c_x_42 := gs_cl (x := x_42) (by omega); have c_x := gs_cl (x := x) (by omega); have c_y4_0 := gs_cl (x := y4_0) (by omega); have h9 := (ex_43.trans (congrFun ((congrFun (congrFun est_38 31) 0).trans (congrFun (gU_k (by decide)) 0)) _)); rw [show x_42.toNatClampNeg = 4 * x.toNatClampNeg + y4_0.toNatClampNeg by omega] at h9; exact h9)) (cpM.step (v := x_49) (by decide) hv4_4 (by omega) (by omega) (by omega) (by have c_x_46 := gs_cl (x := x_46) (by omega); have c_x := gs_cl (x := x) (by omega); have c_y4_0 := gs_cl (x := y4_0) (by omega); rw [show st_50 32 0 = (upd (sv4 32 0) (x_46.toNatClampNeg) (x_49 : Int32)) from ((congrFun (congrFun est_50 32) 0).trans ((gU_at _ _ _ _ _).trans (congrArg (fun f9 => upd f9 (x_46.toNatClampNeg) (x_49 : Int32)) ((congrFun (congrFun est_44 32) 0).trans ((congrFun (gU_k (by decide)) 0).trans ((congrFun (congrFun est_38 32) 0).trans ((congrFun (gU_k (by decide)) 0).trans rfl))))))), show x_46.toNatClampNeg = 4 * (x.toNatClampNeg + 1) + y4_0.toNatClampNeg by omega]) (by have c_x_48 := gs_cl (x := x_48) (by omega); have c_x := gs_cl (x := x) (by omega); have c_y4_0 := gs_cl (x := y4_0) (by omega); have h9 := (ex_49.trans (congrFun (((congrFun (congrFun est_44 32) 0).trans (congrFun (gU_k (by decide)) 0)).trans ((congrFun (congrFun est_38 32) 0).trans (congrFun (gU_k (by decide)) 0))) _)); rw [show x_48.toNatClampNeg = 4 * x.toNatClampNeg + y4_0.toNatClampNeg by omega] at h9; exact h9)) (by rw [show st_50 29 0 = sv4 29 0 from (((congrFun (congrFun est_50 29) 0).trans (congrFun (gU_k (by decide)) 0)).trans (((congrFun (congrFun est_44 29) 0).trans (congrFun (gU_k (by decide)) 0)).trans ((congrFun (congrFun est_38 29) 0).trans (congrFun (gU_k (by decide)) 0))))]; exact hv4_5) (by rw [show st_50 35 0 = sv4 35 0 from (((congrFun (congrFun est_50 35) 0).trans (congrFun (gU_k (by decide)) 0)).trans (((congrFun (congrFun est_44 35) 0).trans (congrFun (gU_k (by decide)) 0)).trans ((congrFun (congrFun est_38 35) 0).trans (congrFun (gU_k (by decide)) 0))))]; exact hv4_6) (by rw [show st_50 36 0 = sv4 36 0 from (((congrFun (congrFun est_50 36) 0).trans (congrFun (gU_k (by decide)) 0)).trans (((congrFun (congrFun est_44 36) 0).trans (congrFun (gU_k (by decide)) 0)).trans ((congrFun (congrFun est_38 36) 0).trans (congrFun (gU_k (by decide)) 0))))]; exact hv4_7) hM hS (lv_sub hl [0, 1, 2, 3, 4, 5, 6] rfl)
        exact lp4 ((4 - ((0 : Int32) : Int32).toInt).toNat + 1) sv2 ((0 : Int32) : Int32) H _ ls (Nat.lt_succ_self _) hB_sv2 (by have hl0 : (0 : Int32).toInt = 0 := (by decide); omega) (by have hl0 : (0 : Int32).toInt = 0 := (by decide); omega) (by rw [hv2_5]; exact cpM.nil (by decide)) (by rw [hv2_6]; exact cpM.nil (by decide)) (by rw [hv2_7]; exact cpM.nil (by decide)) (by rw [show (6 : Int) = y2_0.toInt by omega]; exact hv2_2) (by rw [show (6 : Int) = y2_0.toInt by omega]; exact hv2_3) (by rw [show (6 : Int) = y2_0.toInt by omega]; exact hv2_4) hM hS (lv_sub hl [0, 1, 2, 3, 4, 5, 6] rfl)
      · have ic_3 := gz_nle (by decide : (6 : Int32).toInt = 6) (rfl : y2_0.toInt = y2_0.toInt) c_3
        refine lv_aload_n hx hb dX10_goes_15 rfl (lv_at hl 2 rfl) ?_
        refine gs_get (C := RX10) (T := TX10) (N := 59) hx hb hts inX10 hown hK hM 0 0 45 (by decide) rfl rfl (by decide) (hts _ gm_942) (fun _ h9 => h9) rfl dX10_goes_16 ?_
        refine lv_bipush (v := 6) hx hb dX10_goes_19 (by decide) ?_
        refine lv_iload hx hb dX10_goes_21 (lv_at hl 1 rfl) ?_
        refine lv_imul hx hb dX10_goes_23 ?_
        refine lv_topi (fun x_52 ex_52 => ?_)
        try have tx_52 : x_52.toInt = 6 * x_1.toInt := by rw [ex_52]; exact gz_mulI (x := 6) (y := x_1.toInt) (by decide) rfl (by omega) (by omega)
        refine lv_iload hx hb dX10_goes_24 (lv_at hl 0 rfl) ?_
        refine lv_iadd hx hb dX10_goes_26 ?_
        refine lv_topi (fun x_53 ex_53 => ?_)
        try have tx_53 : x_53.toInt = x_52.toInt + y2_0.toInt := by rw [ex_53]; exact gz_addI (x := x_52.toInt) (y := y2_0.toInt) rfl rfl (by omega) (by omega)
        refine lv_aload_n hx hb dX10_goes_27 rfl (lv_at hl 2 rfl) ?_
        refine gs_get (C := RX10) (T := TX10) (N := 59) hx hb hts inX10 hown hK hM 0 0 45 (by decide) rfl rfl (by decide) (hts _ gm_942) (fun _ h9 => h9) rfl dX10_goes_28 ?_
        refine lv_bipush (v := 6) hx hb dX10_goes_31 (by decide) ?_
        refine lv_iload_n hx hb dX10_goes_33 rfl (lv_at hl 3 rfl) ?_
        refine lv_imul hx hb dX10_goes_34 ?_
        refine lv_topi (fun x_54 ex_54 => ?_)
        try have tx_54 : x_54.toInt = 6 * x.toInt := by rw [ex_54]; exact gz_mulI (x := 6) (y := x.toInt) (by decide) rfl (by omega) (by omega)
        refine lv_iload hx hb dX10_goes_35 (lv_at hl 0 rfl) ?_
        refine lv_iadd hx hb dX10_goes_37 ?_
        refine lv_topi (fun x_55 ex_55 => ?_)
        try have tx_55 : x_55.toInt = x_54.toInt + y2_0.toInt := by rw [ex_55]; exact gz_addI (x := x_54.toInt) (y := y2_0.toInt) rfl rfl (by omega) (by omega)
        refine gs_iald hx hb hK hM 29 0 (by decide) rfl (vp_in_iff.mpr ⟨by omega, by omega⟩) dX10_goes_38 ?_
        refine lv_topi (fun x_56 ex_56 => ?_)
        have qx_56 : x_56.toInt = (sv2 29 0 (x_55.toNatClampNeg)).toInt := congrArg Int32.toInt ex_56
        refine gs_iast hx hb hK hI hm hM hS 29 0 (by decide) (fun _ => rfl) (vp_in_iff.mpr ⟨by omega, by omega⟩) dX10_goes_39 (fun st_57 H locs est_57 hM hS => ?_)
        have hB_st_57 : gBN bM kM [2900, 3000, 3100, 3200, 3500, 3600] st st_57 := by rw [est_57]; exact hB_sv2.up (show (2900 : Nat) ∈ _ from by decide) (gi_lo _) (gi_hi _)
        refine lv_aload_n hx hb dX10_goes_40 rfl (lv_at hl 2 rfl) ?_
        refine gs_get (C := RX10) (T := TX10) (N := 59) hx hb hts inX10 hown hK hM 0 0 51 (by decide) rfl rfl (by decide) (hts _ gm_948) (fun _ h9 => h9) rfl dX10_goes_41 ?_
        refine lv_bipush (v := 6) hx hb dX10_goes_44 (by decide) ?_
        refine lv_iload hx hb dX10_goes_46 (lv_at hl 1 rfl) ?_
        refine lv_imul hx hb dX10_goes_48 ?_
        refine lv_topi (fun x_58 ex_58 => ?_)
        try have tx_58 : x_58.toInt = 6 * x_1.toInt := by rw [ex_58]; exact gz_mulI (x := 6) (y := x_1.toInt) (by decide) rfl (by omega) (by omega)
        refine lv_iload hx hb dX10_goes_49 (lv_at hl 0 rfl) ?_
        refine lv_iadd hx hb dX10_goes_51 ?_
        refine lv_topi (fun x_59 ex_59 => ?_)
        try have tx_59 : x_59.toInt = x_58.toInt + y2_0.toInt := by rw [ex_59]; exact gz_addI (x := x_58.toInt) (y := y2_0.toInt) rfl rfl (by omega) (by omega)
        refine lv_aload_n hx hb dX10_goes_52 rfl (lv_at hl 2 rfl) ?_
        refine gs_get (C := RX10) (T := TX10) (N := 59) hx hb hts inX10 hown hK hM 0 0 51 (by decide) rfl rfl (by decide) (hts _ gm_948) (fun _ h9 => h9) rfl dX10_goes_53 ?_
        refine lv_bipush (v := 6) hx hb dX10_goes_56 (by decide) ?_
        refine lv_iload_n hx hb dX10_goes_58 rfl (lv_at hl 3 rfl) ?_
        refine lv_imul hx hb dX10_goes_59 ?_
        refine lv_topi (fun x_60 ex_60 => ?_)
        try have tx_60 : x_60.toInt = 6 * x.toInt := by rw [ex_60]; exact gz_mulI (x := 6) (y := x.toInt) (by decide) rfl (by omega) (by omega)
        refine lv_iload hx hb dX10_goes_60 (lv_at hl 0 rfl) ?_
        refine lv_iadd hx hb dX10_goes_62 ?_
        refine lv_topi (fun x_61 ex_61 => ?_)
        try have tx_61 : x_61.toInt = x_60.toInt + y2_0.toInt := by rw [ex_61]; exact gz_addI (x := x_60.toInt) (y := y2_0.toInt) rfl rfl (by omega) (by omega)
        refine gs_iald hx hb hK hM 35 0 (by decide) rfl (vp_in_iff.mpr ⟨by omega, by omega⟩) dX10_goes_63 ?_
        refine lv_topi (fun x_62 ex_62 => ?_)
        have qx_62 : x_62.toInt = (st_57 35 0 (x_61.toNatClampNeg)).toInt := congrArg Int32.toInt ex_62
        have rx_62 : x_62.toInt = ((sv2 35 0 (x_61.toNatClampNeg)) : Int32).toInt := by rw [ex_62]; exact congrArg Int32.toInt (((congrFun (congrFun (congrFun est_57 35) 0) (x_61.toNatClampNeg)).trans (congrFun (congrFun (gU_k (by decide)) 0) (x_61.toNatClampNeg))))
        refine gs_iast hx hb hK hI hm hM hS 35 0 (by decide) (fun _ => rfl) (vp_in_iff.mpr ⟨by omega, by omega⟩) dX10_goes_64 (fun st_63 H locs est_63 hM hS => ?_)
        have hB_st_63 : gBN bM kM [2900, 3000, 3100, 3200, 3500, 3600] st st_63 := by rw [est_63]; exact hB_st_57.up (show (3500 : Nat) ∈ _ from by decide) (gi_lo _) (gi_hi _)
        refine lv_aload_n hx hb dX10_goes_65 rfl (lv_at hl 2 rfl) ?_
        refine gs_get (C := RX10) (T := TX10) (N := 59) hx hb hts inX10 hown hK hM 0 0 52 (by decide) rfl rfl (by decide) (hts _ gm_949) (fun _ h9 => h9) rfl dX10_goes_66 ?_
        refine lv_bipush (v := 6) hx hb dX10_goes_69 (by decide) ?_
        refine lv_iload hx hb dX10_goes_71 (lv_at hl 1 rfl) ?_
        refine lv_imul hx hb dX10_goes_73 ?_
        refine lv_topi (fun x_64 ex_64 => ?_)
        try have tx_64 : x_64.toInt = 6 * x_1.toInt := by rw [ex_64]; exact gz_mulI (x := 6) (y := x_1.toInt) (by decide) rfl (by omega) (by omega)
        refine lv_iload hx hb dX10_goes_74 (lv_at hl 0 rfl) ?_
        refine lv_iadd hx hb dX10_goes_76 ?_
        refine lv_topi (fun x_65 ex_65 => ?_)
        try have tx_65 : x_65.toInt = x_64.toInt + y2_0.toInt := by rw [ex_65]; exact gz_addI (x := x_64.toInt) (y := y2_0.toInt) rfl rfl (by omega) (by omega)
        refine lv_aload_n hx hb dX10_goes_77 rfl (lv_at hl 2 rfl) ?_
        refine gs_get (C := RX10) (T := TX10) (N := 59) hx hb hts inX10 hown hK hM 0 0 52 (by decide) rfl rfl (by decide) (hts _ gm_949) (fun _ h9 => h9) rfl dX10_goes_78 ?_
        refine lv_bipush (v := 6) hx hb dX10_goes_81 (by decide) ?_
        refine lv_iload_n hx hb dX10_goes_83 rfl (lv_at hl 3 rfl) ?_
        refine lv_imul hx hb dX10_goes_84 ?_
        refine lv_topi (fun x_66 ex_66 => ?_)
        try have tx_66 : x_66.toInt = 6 * x.toInt := by rw [ex_66]; exact gz_mulI (x := 6) (y := x.toInt) (by decide) rfl (by omega) (by omega)
        refine lv_iload hx hb dX10_goes_85 (lv_at hl 0 rfl) ?_
        refine lv_iadd hx hb dX10_goes_87 ?_
        refine lv_topi (fun x_67 ex_67 => ?_)
        try have tx_67 : x_67.toInt = x_66.toInt + y2_0.toInt := by rw [ex_67]; exact gz_addI (x := x_66.toInt) (y := y2_0.toInt) rfl rfl (by omega) (by omega)
        refine gs_iald hx hb hK hM 36 0 (by decide) rfl (vp_in_iff.mpr ⟨by omega, by omega⟩) dX10_goes_88 ?_
        refine lv_topi (fun x_68 ex_68 => ?_)
        have qx_68 : x_68.toInt = (st_63 36 0 (x_67.toNatClampNeg)).toInt := congrArg Int32.toInt ex_68
        have rx_68 : x_68.toInt = ((sv2 36 0 (x_67.toNatClampNeg)) : Int32).toInt := by rw [ex_68]; exact congrArg Int32.toInt ((((congrFun (congrFun (congrFun est_63 36) 0) (x_67.toNatClampNeg)).trans (congrFun (congrFun (gU_k (by decide)) 0) (x_67.toNatClampNeg))).trans ((congrFun (congrFun (congrFun est_57 36) 0) (x_67.toNatClampNeg)).trans (congrFun (congrFun (gU_k (by decide)) 0) (x_67.toNatClampNeg)))))
        refine gs_iast hx hb hK hI hm hM hS 36 0 (by decide) (fun _ => rfl) (vp_in_iff.mpr ⟨by omega, by omega⟩) dX10_goes_89 (fun st_69 H locs est_69 hM hS => ?_)
        have hB_st_69 : gBN bM kM [2900, 3000, 3100, 3200, 3500, 3600] st st_69 := by rw [est_69]; exact hB_st_63.up (show (3600 : Nat) ∈ _ from by decide) (gi_lo _) (gi_hi _)
        obtain ⟨x_70, ex_70⟩ : ∃ y : Int32, y = y2_0 + 1 := ⟨_, rfl⟩
        try have tx_70 : x_70.toInt = y2_0.toInt + 1 := by rw [ex_70]; exact gz_addP (x := y2_0.toInt) (y := 1) rfl (by decide) (by omega) (by omega)
        refine lv_iinc (v := (x_70)) (lv' := [(6, .int x_70), (5, .int x_1), (0, .ref (ad 0 0)), (1, .int x), (2, .int y), (3, .int w), (4, .int v)]) hx hb dX10_goes_90 hl (k := 0) rfl (by rw [ex_70]; rfl) (by decide) rfl (fun ls hl => ?_)
        refine lv_goto (tgt := 8) hx hb dX10_goes_93 (by decide) ?_
        exact ih_2 st_69 (x_70 : Int32) H _ ls (by omega) hB_st_69 (by omega) (by omega) (cpM.step (v := x_56) (by decide) hv2_2 (by omega) (by omega) (by omega) (by have c_x_53 := gs_cl (x := x_53) (by omega); have c_x := gs_cl (x := x) (by omega); have c_y2_0 := gs_cl (x := y2_0) (by omega); rw [show st_69 29 0 = (upd (sv2 29 0) (x_53.toNatClampNeg) (x_56 : Int32)) from ((congrFun (congrFun est_69 29) 0).trans ((congrFun (gU_k (by decide)) 0).trans ((congrFun (congrFun est_63 29) 0).trans ((congrFun (gU_k (by decide)) 0).trans ((congrFun (congrFun est_57 29) 0).trans ((gU_at _ _ _ _ _).trans (congrArg (fun f9 => upd f9 (x_53.toNatClampNeg) (x_56 : Int32)) rfl))))))), show x_53.toNatClampNeg = 6 * (x.toNatClampNeg + 1) + y2_0.toNatClampNeg by omega]) (by have c_x_55 := gs_cl (x := x_55) (by omega); have c_x := gs_cl (x := x) (by omega); have c_y2_0 := gs_cl (x := y2_0) (by omega); have h9 := ex_56; rw [show x_55.toNatClampNeg = 6 * x.toNatClampNeg + y2_0.toNatClampNeg by omega] at h9; exact h9)) (cpM.step (v := x_62) (by decide) hv2_3 (by omega) (by omega) (by omega) (by have c_x_59 := gs_cl (x := x_59) (by omega); have c_x := gs_cl (x := x) (by omega); have c_y2_0 := gs_cl (x := y2_0) (by omega); rw [show st_69 35 0 = (upd (sv2 35 0) (x_59.toNatClampNeg) (x_62 : Int32)) from ((congrFun (congrFun est_69 35) 0).trans ((congrFun (gU_k (by decide)) 0).trans ((congrFun (congrFun est_63 35) 0).trans ((gU_at _ _ _ _ _).trans (congrArg (fun f9 => upd f9 (x_59.toNatClampNeg) (x_62 : Int32)) ((congrFun (congrFun est_57 35) 0).trans ((congrFun (gU_k (by decide)) 0).trans rfl))))))), show x_59.toNatClampNeg = 6 * (x.toNatClampNeg + 1) + y2_0.toNatClampNeg by omega]) (by have c_x_61 := gs_cl (x := x_61) (by omega); have c_x := gs_cl (x := x) (by omega); have c_y2_0 := gs_cl (x := y2_0) (by omega); have h9 := (ex_62.trans (congrFun ((congrFun (congrFun est_57 35) 0).trans (congrFun (gU_k (by decide)) 0)) _)); rw [show x_61.toNatClampNeg = 6 * x.toNatClampNeg + y2_0.toNatClampNeg by omega] at h9; exact h9)) (cpM.step (v := x_68) (by decide) hv2_4 (by omega) (by omega) (by omega) (by have c_x_65 := gs_cl (x := x_65) (by omega); have c_x := gs_cl (x := x) (by omega); have c_y2_0 := gs_cl (x := y2_0) (by omega); rw [show st_69 36 0 = (upd (sv2 36 0) (x_65.toNatClampNeg) (x_68 : Int32)) from ((congrFun (congrFun est_69 36) 0).trans ((gU_at _ _ _ _ _).trans (congrArg (fun f9 => upd f9 (x_65.toNatClampNeg) (x_68 : Int32)) ((congrFun (congrFun est_63 36) 0).trans ((congrFun (gU_k (by decide)) 0).trans ((congrFun (congrFun est_57 36) 0).trans ((congrFun (gU_k (by decide)) 0).trans rfl))))))), show x_65.toNatClampNeg = 6 * (x.toNatClampNeg + 1) + y2_0.toNatClampNeg by omega]) (by have c_x_67 := gs_cl (x := x_67) (by omega); have c_x := gs_cl (x := x) (by omega); have c_y2_0 := gs_cl (x := y2_0) (by omega); have h9 := (ex_68.trans (congrFun (((congrFun (congrFun est_63 36) 0).trans (congrFun (gU_k (by decide)) 0)).trans ((congrFun (congrFun est_57 36) 0).trans (congrFun (gU_k (by decide)) 0))) _)); rw [show x_67.toNatClampNeg = 6 * x.toNatClampNeg + y2_0.toNatClampNeg by omega] at h9; exact h9)) ((((congrFun (congrFun est_69 30) 0).trans (congrFun (gU_k (by decide)) 0)).trans (((congrFun (congrFun est_63 30) 0).trans (congrFun (gU_k (by decide)) 0)).trans ((congrFun (congrFun est_57 30) 0).trans (congrFun (gU_k (by decide)) 0)))).trans hv2_5) ((((congrFun (congrFun est_69 31) 0).trans (congrFun (gU_k (by decide)) 0)).trans (((congrFun (congrFun est_63 31) 0).trans (congrFun (gU_k (by decide)) 0)).trans ((congrFun (congrFun est_57 31) 0).trans (congrFun (gU_k (by decide)) 0)))).trans hv2_6) ((((congrFun (congrFun est_69 32) 0).trans (congrFun (gU_k (by decide)) 0)).trans (((congrFun (congrFun est_63 32) 0).trans (congrFun (gU_k (by decide)) 0)).trans ((congrFun (congrFun est_57 32) 0).trans (congrFun (gU_k (by decide)) 0)))).trans hv2_7) hM hS (lv_sub hl [0, 1, 2, 3, 4, 5, 6] rfl)
  exact lp2 ((6 - ((0 : Int32) : Int32).toInt).toNat + 1) st ((0 : Int32) : Int32) H _ ls (Nat.lt_succ_self _) hB_st (by have hl0 : (0 : Int32).toInt = 0 := (by decide); omega) (by have hl0 : (0 : Int32).toInt = 0 := (by decide); omega) (cpM.nil (by decide)) (cpM.nil (by decide)) (cpM.nil (by decide)) rfl rfl rfl hM hS (lv_sub hl [0, 1, 2, 3, 4, 5, 6] rfl)
