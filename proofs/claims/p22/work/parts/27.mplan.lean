theorem gm_946 : (Jvm.Cond.fieldLink "WellCourtModel" (112 : Nat) "WellCourtModel" "next" "[I") ∈ gz_T := gz_at 946 (by decide +kernel) rfl
theorem gm_947 : (Jvm.Cond.fieldLink "WellCourtModel" (115 : Nat) "WellCourtModel" "chosen" "[I") ∈ gz_T := gz_at 947 (by decide +kernel) rfl
theorem gm_1272 : (Jvm.Cond.constant "WellCourtModel" (298 : Nat) (50000 : Int32)) ∈ gz_T := gz_at 1272 (by decide +kernel) rfl
theorem gm_1273 : (Jvm.Cond.methodLink "WellCourtModel" (305 : Nat) ({ cls := "WellCourtModel", name := "dawn", desc := "(II)V" } : Jvm.MethodName)) ∈ gz_T := gz_at 1273 (by decide +kernel) rfl
theorem gm_1275 : (Jvm.Cond.instanceMethod ({ cls := "WellCourtModel", name := "dawn", desc := "(II)V" } : Jvm.MethodName)) ∈ gz_T := gz_at 1275 (by decide +kernel) rfl
theorem gm_1276 : (Jvm.Cond.code ({ cls := "WellCourtModel", name := "dawn", desc := "(II)V" } : Jvm.MethodName) prog_12_method_49_code (6 : Nat) (Option.none : Option Jvm.ClassFile.FieldType)) ∈ gz_T := gz_at 1276 (by decide +kernel) rfl
theorem gm_1277 : (Jvm.Cond.methodLink "WellCourtModel" (312 : Nat) ({ cls := "WellCourtModel", name := "mayDo", desc := "(III)Z" } : Jvm.MethodName)) ∈ gz_T := gz_at 1277 (by decide +kernel) rfl
theorem gm_1279 : (Jvm.Cond.instanceMethod ({ cls := "WellCourtModel", name := "mayDo", desc := "(III)Z" } : Jvm.MethodName)) ∈ gz_T := gz_at 1279 (by decide +kernel) rfl
theorem gm_1280 : (Jvm.Cond.code ({ cls := "WellCourtModel", name := "mayDo", desc := "(III)Z" } : Jvm.MethodName) prog_12_method_50_code (5 : Nat) (Option.some Jvm.ClassFile.FieldType.boolean)) ∈ gz_T := gz_at 1280 (by decide +kernel) rfl
theorem gm_1281 : (Jvm.Cond.methodLink "WellCourtModel" (315 : Nat) ({ cls := "WellCourtModel", name := "goes", desc := "(IIII)V" } : Jvm.MethodName)) ∈ gz_T := gz_at 1281 (by decide +kernel) rfl
theorem gm_1283 : (Jvm.Cond.instanceMethod ({ cls := "WellCourtModel", name := "goes", desc := "(IIII)V" } : Jvm.MethodName)) ∈ gz_T := gz_at 1283 (by decide +kernel) rfl
theorem gm_1284 : (Jvm.Cond.code ({ cls := "WellCourtModel", name := "goes", desc := "(IIII)V" } : Jvm.MethodName) prog_12_method_51_code (7 : Nat) (Option.none : Option Jvm.ClassFile.FieldType)) ∈ gz_T := gz_at 1284 (by decide +kernel) rfl
theorem gm_1285 : (Jvm.Cond.methodLink "WellCourtModel" (319 : Nat) ({ cls := "WellCourtModel", name := "isGood", desc := "(II)Z" } : Jvm.MethodName)) ∈ gz_T := gz_at 1285 (by decide +kernel) rfl
theorem gm_1287 : (Jvm.Cond.instanceMethod ({ cls := "WellCourtModel", name := "isGood", desc := "(II)Z" } : Jvm.MethodName)) ∈ gz_T := gz_at 1287 (by decide +kernel) rfl
theorem gm_1288 : (Jvm.Cond.code ({ cls := "WellCourtModel", name := "isGood", desc := "(II)Z" } : Jvm.MethodName) prog_12_method_52_code (4 : Nat) (Option.some Jvm.ClassFile.FieldType.boolean)) ∈ gz_T := gz_at 1288 (by decide +kernel) rfl
theorem gs_56 : (Jvm.Cond.selects "WellCourtModel" ({ cls := "WellCourtModel", name := "dawn", desc := "(II)V" } : Jvm.MethodName) ({ cls := "WellCourtModel", name := "dawn", desc := "(II)V" } : Jvm.MethodName)) ∈ gz_T := gz_sel 56 (by decide +kernel) rfl
theorem gs_57 : (Jvm.Cond.selects "WellCourtModel" ({ cls := "WellCourtModel", name := "mayDo", desc := "(III)Z" } : Jvm.MethodName) ({ cls := "WellCourtModel", name := "mayDo", desc := "(III)Z" } : Jvm.MethodName)) ∈ gz_T := gz_sel 57 (by decide +kernel) rfl
theorem gs_58 : (Jvm.Cond.selects "WellCourtModel" ({ cls := "WellCourtModel", name := "goes", desc := "(IIII)V" } : Jvm.MethodName) ({ cls := "WellCourtModel", name := "goes", desc := "(IIII)V" } : Jvm.MethodName)) ∈ gz_T := gz_sel 58 (by decide +kernel) rfl
theorem gs_59 : (Jvm.Cond.selects "WellCourtModel" ({ cls := "WellCourtModel", name := "isGood", desc := "(II)Z" } : Jvm.MethodName) ({ cls := "WellCourtModel", name := "isGood", desc := "(II)Z" } : Jvm.MethodName)) ∈ gz_T := gz_sel 59 (by decide +kernel) rfl
theorem dX10_plan_0 : decode cX10_plan 0 = .ok (.aload_n 0, 1) := by decide +kernel
theorem dX10_plan_1 : decode cX10_plan 1 = .ok (.iload_n 2, 1) := by decide +kernel
theorem dX10_plan_2 : decode cX10_plan 2 = .ok (.iconst 1, 1) := by decide +kernel
theorem dX10_plan_3 : decode cX10_plan 3 = .ok (.if_icmp .lt 10, 3) := by decide +kernel
theorem dX10_plan_6 : decode cX10_plan 6 = .ok (.iload_n 2, 1) := by decide +kernel
theorem dX10_plan_7 : decode cX10_plan 7 = .ok (.ldc_w 298, 3) := by decide +kernel
theorem dX10_plan_10 : decode cX10_plan 10 = .ok (.if_icmp .le 7, 3) := by decide +kernel
theorem dX10_plan_13 : decode cX10_plan 13 = .ok (.iconst 1, 1) := by decide +kernel
theorem dX10_plan_14 : decode cX10_plan 14 = .ok (.goto 4, 3) := by decide +kernel
theorem dX10_plan_17 : decode cX10_plan 17 = .ok (.iconst 0, 1) := by decide +kernel
theorem dX10_plan_18 : decode cX10_plan 18 = .ok (.putfield 1, 3) := by decide +kernel
theorem dX10_plan_21 : decode cX10_plan 21 = .ok (.aload_n 0, 1) := by decide +kernel
theorem dX10_plan_22 : decode cX10_plan 22 = .ok (.getfield 1, 3) := by decide +kernel
theorem dX10_plan_25 : decode cX10_plan 25 = .ok (.iconst 1, 1) := by decide +kernel
theorem dX10_plan_26 : decode cX10_plan 26 = .ok (.if_icmp .ne 5, 3) := by decide +kernel
theorem dX10_plan_29 : decode cX10_plan 29 = .ok (.iconst 0, 1) := by decide +kernel
theorem dX10_plan_30 : decode cX10_plan 30 = .ok (.ireturn, 1) := by decide +kernel
theorem dX10_plan_31 : decode cX10_plan 31 = .ok (.aload_n 0, 1) := by decide +kernel
theorem dX10_plan_32 : decode cX10_plan 32 = .ok (.getfield 79, 3) := by decide +kernel
theorem dX10_plan_35 : decode cX10_plan 35 = .ok (.iconst 0, 1) := by decide +kernel
theorem dX10_plan_36 : decode cX10_plan 36 = .ok (.baload, 1) := by decide +kernel
theorem dX10_plan_37 : decode cX10_plan 37 = .ok (.ifCond .ne 30, 3) := by decide +kernel
theorem dX10_plan_40 : decode cX10_plan 40 = .ok (.aload_n 0, 1) := by decide +kernel
theorem dX10_plan_41 : decode cX10_plan 41 = .ok (.getfield 79, 3) := by decide +kernel
theorem dX10_plan_44 : decode cX10_plan 44 = .ok (.iconst 1, 1) := by decide +kernel
theorem dX10_plan_45 : decode cX10_plan 45 = .ok (.baload, 1) := by decide +kernel
theorem dX10_plan_46 : decode cX10_plan 46 = .ok (.ifCond .ne 21, 3) := by decide +kernel
theorem dX10_plan_49 : decode cX10_plan 49 = .ok (.aload_n 0, 1) := by decide +kernel
theorem dX10_plan_50 : decode cX10_plan 50 = .ok (.getfield 79, 3) := by decide +kernel
theorem dX10_plan_53 : decode cX10_plan 53 = .ok (.iconst 2, 1) := by decide +kernel
theorem dX10_plan_54 : decode cX10_plan 54 = .ok (.baload, 1) := by decide +kernel
theorem dX10_plan_55 : decode cX10_plan 55 = .ok (.ifCond .ne 12, 3) := by decide +kernel
theorem dX10_plan_58 : decode cX10_plan 58 = .ok (.aload_n 0, 1) := by decide +kernel
theorem dX10_plan_59 : decode cX10_plan 59 = .ok (.getfield 79, 3) := by decide +kernel
theorem dX10_plan_62 : decode cX10_plan 62 = .ok (.iconst 3, 1) := by decide +kernel
theorem dX10_plan_63 : decode cX10_plan 63 = .ok (.baload, 1) := by decide +kernel
theorem dX10_plan_64 : decode cX10_plan 64 = .ok (.ifCond .eq 26, 3) := by decide +kernel
theorem dX10_plan_67 : decode cX10_plan 67 = .ok (.iload_n 1, 1) := by decide +kernel
theorem dX10_plan_68 : decode cX10_plan 68 = .ok (.iconst 1, 1) := by decide +kernel
theorem dX10_plan_69 : decode cX10_plan 69 = .ok (.if_icmp .lt 21, 3) := by decide +kernel
theorem dX10_plan_72 : decode cX10_plan 72 = .ok (.iload_n 1, 1) := by decide +kernel
theorem dX10_plan_73 : decode cX10_plan 73 = .ok (.bipush 14, 2) := by decide +kernel
theorem dX10_plan_75 : decode cX10_plan 75 = .ok (.if_icmp .gt 15, 3) := by decide +kernel
theorem dX10_plan_78 : decode cX10_plan 78 = .ok (.aload_n 0, 1) := by decide +kernel
theorem dX10_plan_79 : decode cX10_plan 79 = .ok (.getfield 213, 3) := by decide +kernel
theorem dX10_plan_82 : decode cX10_plan 82 = .ok (.iload_n 1, 1) := by decide +kernel
theorem dX10_plan_83 : decode cX10_plan 83 = .ok (.iadd, 1) := by decide +kernel
theorem dX10_plan_84 : decode cX10_plan 84 = .ok (.sipush 199, 3) := by decide +kernel
theorem dX10_plan_87 : decode cX10_plan 87 = .ok (.if_icmp .le 5, 3) := by decide +kernel
theorem dX10_plan_90 : decode cX10_plan 90 = .ok (.iconst (-1), 1) := by decide +kernel
theorem dX10_plan_91 : decode cX10_plan 91 = .ok (.ireturn, 1) := by decide +kernel
theorem dX10_plan_92 : decode cX10_plan 92 = .ok (.aload_n 0, 1) := by decide +kernel
theorem dX10_plan_93 : decode cX10_plan 93 = .ok (.iconst 0, 1) := by decide +kernel
theorem dX10_plan_94 : decode cX10_plan 94 = .ok (.putfield 299, 3) := by decide +kernel
theorem dX10_plan_97 : decode cX10_plan 97 = .ok (.aload_n 0, 1) := by decide +kernel
theorem dX10_plan_98 : decode cX10_plan 98 = .ok (.iconst 0, 1) := by decide +kernel
theorem dX10_plan_99 : decode cX10_plan 99 = .ok (.putfield 302, 3) := by decide +kernel
theorem dX10_plan_102 : decode cX10_plan 102 = .ok (.iconst 0, 1) := by decide +kernel
theorem dX10_plan_103 : decode cX10_plan 103 = .ok (.istore_n 3, 1) := by decide +kernel
theorem dX10_plan_104 : decode cX10_plan 104 = .ok (.iload_n 3, 1) := by decide +kernel
theorem dX10_plan_105 : decode cX10_plan 105 = .ok (.bipush 6, 2) := by decide +kernel
theorem dX10_plan_107 : decode cX10_plan 107 = .ok (.if_icmp .ge 21, 3) := by decide +kernel
theorem dX10_plan_110 : decode cX10_plan 110 = .ok (.aload_n 0, 1) := by decide +kernel
theorem dX10_plan_111 : decode cX10_plan 111 = .ok (.getfield 100, 3) := by decide +kernel
theorem dX10_plan_114 : decode cX10_plan 114 = .ok (.iload_n 3, 1) := by decide +kernel
theorem dX10_plan_115 : decode cX10_plan 115 = .ok (.aload_n 0, 1) := by decide +kernel
theorem dX10_plan_116 : decode cX10_plan 116 = .ok (.getfield 24, 3) := by decide +kernel
theorem dX10_plan_119 : decode cX10_plan 119 = .ok (.iload_n 3, 1) := by decide +kernel
theorem dX10_plan_120 : decode cX10_plan 120 = .ok (.iaload, 1) := by decide +kernel
theorem dX10_plan_121 : decode cX10_plan 121 = .ok (.iastore, 1) := by decide +kernel
theorem dX10_plan_122 : decode cX10_plan 122 = .ok (.iinc 3 1, 3) := by decide +kernel
theorem dX10_plan_125 : decode cX10_plan 125 = .ok (.goto (-21), 3) := by decide +kernel
theorem dX10_plan_128 : decode cX10_plan 128 = .ok (.iconst 0, 1) := by decide +kernel
theorem dX10_plan_129 : decode cX10_plan 129 = .ok (.istore_n 3, 1) := by decide +kernel
theorem dX10_plan_130 : decode cX10_plan 130 = .ok (.iload_n 3, 1) := by decide +kernel
theorem dX10_plan_131 : decode cX10_plan 131 = .ok (.iconst 4, 1) := by decide +kernel
theorem dX10_plan_132 : decode cX10_plan 132 = .ok (.if_icmp .ge 43, 3) := by decide +kernel
theorem dX10_plan_135 : decode cX10_plan 135 = .ok (.aload_n 0, 1) := by decide +kernel
theorem dX10_plan_136 : decode cX10_plan 136 = .ok (.getfield 103, 3) := by decide +kernel
theorem dX10_plan_139 : decode cX10_plan 139 = .ok (.iload_n 3, 1) := by decide +kernel
theorem dX10_plan_140 : decode cX10_plan 140 = .ok (.aload_n 0, 1) := by decide +kernel
theorem dX10_plan_141 : decode cX10_plan 141 = .ok (.getfield 91, 3) := by decide +kernel
theorem dX10_plan_144 : decode cX10_plan 144 = .ok (.iload_n 3, 1) := by decide +kernel
theorem dX10_plan_145 : decode cX10_plan 145 = .ok (.iaload, 1) := by decide +kernel
theorem dX10_plan_146 : decode cX10_plan 146 = .ok (.iastore, 1) := by decide +kernel
theorem dX10_plan_147 : decode cX10_plan 147 = .ok (.aload_n 0, 1) := by decide +kernel
theorem dX10_plan_148 : decode cX10_plan 148 = .ok (.getfield 106, 3) := by decide +kernel
theorem dX10_plan_151 : decode cX10_plan 151 = .ok (.iload_n 3, 1) := by decide +kernel
theorem dX10_plan_152 : decode cX10_plan 152 = .ok (.aload_n 0, 1) := by decide +kernel
theorem dX10_plan_153 : decode cX10_plan 153 = .ok (.getfield 213, 3) := by decide +kernel
theorem dX10_plan_156 : decode cX10_plan 156 = .ok (.iastore, 1) := by decide +kernel
theorem dX10_plan_157 : decode cX10_plan 157 = .ok (.aload_n 0, 1) := by decide +kernel
theorem dX10_plan_158 : decode cX10_plan 158 = .ok (.getfield 109, 3) := by decide +kernel
theorem dX10_plan_161 : decode cX10_plan 161 = .ok (.iload_n 3, 1) := by decide +kernel
theorem dX10_plan_162 : decode cX10_plan 162 = .ok (.aload_n 0, 1) := by decide +kernel
theorem dX10_plan_163 : decode cX10_plan 163 = .ok (.getfield 94, 3) := by decide +kernel
theorem dX10_plan_166 : decode cX10_plan 166 = .ok (.iload_n 3, 1) := by decide +kernel
theorem dX10_plan_167 : decode cX10_plan 167 = .ok (.iaload, 1) := by decide +kernel
theorem dX10_plan_168 : decode cX10_plan 168 = .ok (.iastore, 1) := by decide +kernel
theorem dX10_plan_169 : decode cX10_plan 169 = .ok (.iinc 3 1, 3) := by decide +kernel
theorem dX10_plan_172 : decode cX10_plan 172 = .ok (.goto (-42), 3) := by decide +kernel
theorem dX10_plan_175 : decode cX10_plan 175 = .ok (.iconst 0, 1) := by decide +kernel
theorem dX10_plan_176 : decode cX10_plan 176 = .ok (.istore_n 3, 1) := by decide +kernel
theorem dX10_plan_177 : decode cX10_plan 177 = .ok (.aload_n 0, 1) := by decide +kernel
theorem dX10_plan_178 : decode cX10_plan 178 = .ok (.getfield 112, 3) := by decide +kernel
theorem dX10_plan_181 : decode cX10_plan 181 = .ok (.iconst 0, 1) := by decide +kernel
theorem dX10_plan_182 : decode cX10_plan 182 = .ok (.iconst 0, 1) := by decide +kernel
theorem dX10_plan_183 : decode cX10_plan 183 = .ok (.iastore, 1) := by decide +kernel
theorem dX10_plan_184 : decode cX10_plan 184 = .ok (.aload_n 0, 1) := by decide +kernel
theorem dX10_plan_185 : decode cX10_plan 185 = .ok (.iconst 0, 1) := by decide +kernel
theorem dX10_plan_186 : decode cX10_plan 186 = .ok (.aload_n 0, 1) := by decide +kernel
theorem dX10_plan_187 : decode cX10_plan 187 = .ok (.getfield 213, 3) := by decide +kernel
theorem dX10_plan_190 : decode cX10_plan 190 = .ok (.iconst 1, 1) := by decide +kernel
theorem dX10_plan_191 : decode cX10_plan 191 = .ok (.iadd, 1) := by decide +kernel
theorem dX10_plan_192 : decode cX10_plan 192 = .ok (.invokevirtual 305, 3) := by decide +kernel
theorem dX10_plan_195 : decode cX10_plan 195 = .ok (.iload_n 3, 1) := by decide +kernel
theorem dX10_plan_196 : decode cX10_plan 196 = .ok (.ifCond .lt 346, 3) := by decide +kernel
theorem dX10_plan_199 : decode cX10_plan 199 = .ok (.iload_n 3, 1) := by decide +kernel
theorem dX10_plan_200 : decode cX10_plan 200 = .ok (.iconst 4, 1) := by decide +kernel
theorem dX10_plan_201 : decode cX10_plan 201 = .ok (.iload_n 1, 1) := by decide +kernel
theorem dX10_plan_202 : decode cX10_plan 202 = .ok (.imul, 1) := by decide +kernel
theorem dX10_plan_203 : decode cX10_plan 203 = .ok (.if_icmp .ne 78, 3) := by decide +kernel
theorem dX10_plan_206 : decode cX10_plan 206 = .ok (.iconst 0, 1) := by decide +kernel
theorem dX10_plan_207 : decode cX10_plan 207 = .ok (.istore 4, 2) := by decide +kernel
theorem dX10_plan_209 : decode cX10_plan 209 = .ok (.iload 4, 2) := by decide +kernel
theorem dX10_plan_211 : decode cX10_plan 211 = .ok (.iload_n 3, 1) := by decide +kernel
theorem dX10_plan_212 : decode cX10_plan 212 = .ok (.if_icmp .ge 23, 3) := by decide +kernel
theorem dX10_plan_215 : decode cX10_plan 215 = .ok (.aload_n 0, 1) := by decide +kernel
theorem dX10_plan_216 : decode cX10_plan 216 = .ok (.getfield 124, 3) := by decide +kernel
theorem dX10_plan_219 : decode cX10_plan 219 = .ok (.iload 4, 2) := by decide +kernel
theorem dX10_plan_221 : decode cX10_plan 221 = .ok (.aload_n 0, 1) := by decide +kernel
theorem dX10_plan_222 : decode cX10_plan 222 = .ok (.getfield 115, 3) := by decide +kernel
theorem dX10_plan_225 : decode cX10_plan 225 = .ok (.iload 4, 2) := by decide +kernel
theorem dX10_plan_227 : decode cX10_plan 227 = .ok (.iaload, 1) := by decide +kernel
theorem dX10_plan_228 : decode cX10_plan 228 = .ok (.iastore, 1) := by decide +kernel
theorem dX10_plan_229 : decode cX10_plan 229 = .ok (.iinc 4 1, 3) := by decide +kernel
theorem dX10_plan_232 : decode cX10_plan 232 = .ok (.goto (-23), 3) := by decide +kernel
theorem dX10_plan_235 : decode cX10_plan 235 = .ok (.iconst 0, 1) := by decide +kernel
theorem dX10_plan_236 : decode cX10_plan 236 = .ok (.istore 4, 2) := by decide +kernel
theorem dX10_plan_238 : decode cX10_plan 238 = .ok (.iload 4, 2) := by decide +kernel
theorem dX10_plan_240 : decode cX10_plan 240 = .ok (.iconst 4, 1) := by decide +kernel
theorem dX10_plan_241 : decode cX10_plan 241 = .ok (.if_icmp .ge 23, 3) := by decide +kernel
theorem dX10_plan_244 : decode cX10_plan 244 = .ok (.aload_n 0, 1) := by decide +kernel
theorem dX10_plan_245 : decode cX10_plan 245 = .ok (.getfield 127, 3) := by decide +kernel
theorem dX10_plan_248 : decode cX10_plan 248 = .ok (.iload 4, 2) := by decide +kernel
theorem dX10_plan_250 : decode cX10_plan 250 = .ok (.aload_n 0, 1) := by decide +kernel
theorem dX10_plan_251 : decode cX10_plan 251 = .ok (.getfield 79, 3) := by decide +kernel
theorem dX10_plan_254 : decode cX10_plan 254 = .ok (.iload 4, 2) := by decide +kernel
theorem dX10_plan_256 : decode cX10_plan 256 = .ok (.baload, 1) := by decide +kernel
theorem dX10_plan_257 : decode cX10_plan 257 = .ok (.bastore, 1) := by decide +kernel
theorem dX10_plan_258 : decode cX10_plan 258 = .ok (.iinc 4 1, 3) := by decide +kernel
theorem dX10_plan_261 : decode cX10_plan 261 = .ok (.goto (-23), 3) := by decide +kernel
theorem dX10_plan_264 : decode cX10_plan 264 = .ok (.aload_n 0, 1) := by decide +kernel
theorem dX10_plan_265 : decode cX10_plan 265 = .ok (.aload_n 0, 1) := by decide +kernel
theorem dX10_plan_266 : decode cX10_plan 266 = .ok (.getfield 213, 3) := by decide +kernel
theorem dX10_plan_269 : decode cX10_plan 269 = .ok (.iconst 1, 1) := by decide +kernel
theorem dX10_plan_270 : decode cX10_plan 270 = .ok (.iadd, 1) := by decide +kernel
theorem dX10_plan_271 : decode cX10_plan 271 = .ok (.putfield 130, 3) := by decide +kernel
theorem dX10_plan_274 : decode cX10_plan 274 = .ok (.aload_n 0, 1) := by decide +kernel
theorem dX10_plan_275 : decode cX10_plan 275 = .ok (.iload_n 1, 1) := by decide +kernel
theorem dX10_plan_276 : decode cX10_plan 276 = .ok (.putfield 309, 3) := by decide +kernel
theorem dX10_plan_279 : decode cX10_plan 279 = .ok (.iconst 0, 1) := by decide +kernel
theorem dX10_plan_280 : decode cX10_plan 280 = .ok (.ireturn, 1) := by decide +kernel
theorem dX10_plan_281 : decode cX10_plan 281 = .ok (.iload_n 3, 1) := by decide +kernel
theorem dX10_plan_282 : decode cX10_plan 282 = .ok (.iconst 4, 1) := by decide +kernel
theorem dX10_plan_283 : decode cX10_plan 283 = .ok (.irem, 1) := by decide +kernel
theorem dX10_plan_284 : decode cX10_plan 284 = .ok (.istore 4, 2) := by decide +kernel
theorem dX10_plan_286 : decode cX10_plan 286 = .ok (.aload_n 0, 1) := by decide +kernel
theorem dX10_plan_287 : decode cX10_plan 287 = .ok (.getfield 213, 3) := by decide +kernel
theorem dX10_plan_290 : decode cX10_plan 290 = .ok (.iconst 1, 1) := by decide +kernel
theorem dX10_plan_291 : decode cX10_plan 291 = .ok (.iadd, 1) := by decide +kernel
theorem dX10_plan_292 : decode cX10_plan 292 = .ok (.iload_n 3, 1) := by decide +kernel
theorem dX10_plan_293 : decode cX10_plan 293 = .ok (.iconst 4, 1) := by decide +kernel
theorem dX10_plan_294 : decode cX10_plan 294 = .ok (.idiv, 1) := by decide +kernel
theorem dX10_plan_295 : decode cX10_plan 295 = .ok (.iadd, 1) := by decide +kernel
theorem dX10_plan_296 : decode cX10_plan 296 = .ok (.istore 5, 2) := by decide +kernel
theorem dX10_plan_298 : decode cX10_plan 298 = .ok (.aload_n 0, 1) := by decide +kernel
theorem dX10_plan_299 : decode cX10_plan 299 = .ok (.getfield 79, 3) := by decide +kernel
theorem dX10_plan_302 : decode cX10_plan 302 = .ok (.iload 4, 2) := by decide +kernel
theorem dX10_plan_304 : decode cX10_plan 304 = .ok (.baload, 1) := by decide +kernel
theorem dX10_plan_305 : decode cX10_plan 305 = .ok (.ifCond .eq 23, 3) := by decide +kernel
theorem dX10_plan_308 : decode cX10_plan 308 = .ok (.aload_n 0, 1) := by decide +kernel
theorem dX10_plan_309 : decode cX10_plan 309 = .ok (.getfield 106, 3) := by decide +kernel
theorem dX10_plan_312 : decode cX10_plan 312 = .ok (.iconst 4, 1) := by decide +kernel
theorem dX10_plan_313 : decode cX10_plan 313 = .ok (.iload_n 3, 1) := by decide +kernel
theorem dX10_plan_314 : decode cX10_plan 314 = .ok (.imul, 1) := by decide +kernel
theorem dX10_plan_315 : decode cX10_plan 315 = .ok (.iload 4, 2) := by decide +kernel
theorem dX10_plan_317 : decode cX10_plan 317 = .ok (.iadd, 1) := by decide +kernel
theorem dX10_plan_318 : decode cX10_plan 318 = .ok (.iaload, 1) := by decide +kernel
theorem dX10_plan_319 : decode cX10_plan 319 = .ok (.iload 5, 2) := by decide +kernel
theorem dX10_plan_321 : decode cX10_plan 321 = .ok (.if_icmp .gt 7, 3) := by decide +kernel
theorem dX10_plan_324 : decode cX10_plan 324 = .ok (.iconst 1, 1) := by decide +kernel
theorem dX10_plan_325 : decode cX10_plan 325 = .ok (.goto 4, 3) := by decide +kernel
theorem dX10_plan_328 : decode cX10_plan 328 = .ok (.iconst 0, 1) := by decide +kernel
theorem dX10_plan_329 : decode cX10_plan 329 = .ok (.istore 6, 2) := by decide +kernel
theorem dX10_plan_331 : decode cX10_plan 331 = .ok (.aload_n 0, 1) := by decide +kernel
theorem dX10_plan_332 : decode cX10_plan 332 = .ok (.getfield 112, 3) := by decide +kernel
theorem dX10_plan_335 : decode cX10_plan 335 = .ok (.iload_n 3, 1) := by decide +kernel
theorem dX10_plan_336 : decode cX10_plan 336 = .ok (.iaload, 1) := by decide +kernel
theorem dX10_plan_337 : decode cX10_plan 337 = .ok (.istore 7, 2) := by decide +kernel
theorem dX10_plan_339 : decode cX10_plan 339 = .ok (.iload 6, 2) := by decide +kernel
theorem dX10_plan_341 : decode cX10_plan 341 = .ok (.ifCond .eq 28, 3) := by decide +kernel
theorem dX10_plan_344 : decode cX10_plan 344 = .ok (.iload 7, 2) := by decide +kernel
theorem dX10_plan_346 : decode cX10_plan 346 = .ok (.bipush 8, 2) := by decide +kernel
theorem dX10_plan_348 : decode cX10_plan 348 = .ok (.if_icmp .ge 21, 3) := by decide +kernel
theorem dX10_plan_351 : decode cX10_plan 351 = .ok (.aload_n 0, 1) := by decide +kernel
theorem dX10_plan_352 : decode cX10_plan 352 = .ok (.iload_n 3, 1) := by decide +kernel
theorem dX10_plan_353 : decode cX10_plan 353 = .ok (.iload 4, 2) := by decide +kernel
theorem dX10_plan_355 : decode cX10_plan 355 = .ok (.iload 7, 2) := by decide +kernel
theorem dX10_plan_357 : decode cX10_plan 357 = .ok (.invokevirtual 312, 3) := by decide +kernel
theorem dX10_plan_360 : decode cX10_plan 360 = .ok (.ifCond .ne 9, 3) := by decide +kernel
theorem dX10_plan_363 : decode cX10_plan 363 = .ok (.iinc 7 1, 3) := by decide +kernel
theorem dX10_plan_366 : decode cX10_plan 366 = .ok (.goto (-22), 3) := by decide +kernel
theorem dX10_plan_369 : decode cX10_plan 369 = .ok (.iload 7, 2) := by decide +kernel
theorem dX10_plan_371 : decode cX10_plan 371 = .ok (.iload 6, 2) := by decide +kernel
theorem dX10_plan_373 : decode cX10_plan 373 = .ok (.ifCond .eq 8, 3) := by decide +kernel
theorem dX10_plan_376 : decode cX10_plan 376 = .ok (.bipush 8, 2) := by decide +kernel
theorem dX10_plan_378 : decode cX10_plan 378 = .ok (.goto 4, 3) := by decide +kernel
theorem dX10_plan_381 : decode cX10_plan 381 = .ok (.iconst 1, 1) := by decide +kernel
theorem dX10_plan_382 : decode cX10_plan 382 = .ok (.if_icmp .lt 9, 3) := by decide +kernel
theorem dX10_plan_385 : decode cX10_plan 385 = .ok (.iinc 3 (-1), 3) := by decide +kernel
theorem dX10_plan_388 : decode cX10_plan 388 = .ok (.goto (-193), 3) := by decide +kernel
theorem dX10_plan_391 : decode cX10_plan 391 = .ok (.aload_n 0, 1) := by decide +kernel
theorem dX10_plan_392 : decode cX10_plan 392 = .ok (.getfield 112, 3) := by decide +kernel
theorem dX10_plan_395 : decode cX10_plan 395 = .ok (.iload_n 3, 1) := by decide +kernel
theorem dX10_plan_396 : decode cX10_plan 396 = .ok (.iload 7, 2) := by decide +kernel
theorem dX10_plan_398 : decode cX10_plan 398 = .ok (.iconst 1, 1) := by decide +kernel
theorem dX10_plan_399 : decode cX10_plan 399 = .ok (.iadd, 1) := by decide +kernel
theorem dX10_plan_400 : decode cX10_plan 400 = .ok (.iastore, 1) := by decide +kernel
theorem dX10_plan_401 : decode cX10_plan 401 = .ok (.iload 6, 2) := by decide +kernel
theorem dX10_plan_403 : decode cX10_plan 403 = .ok (.ifCond .eq 23, 3) := by decide +kernel
theorem dX10_plan_406 : decode cX10_plan 406 = .ok (.aload_n 0, 1) := by decide +kernel
theorem dX10_plan_407 : decode cX10_plan 407 = .ok (.getfield 299, 3) := by decide +kernel
theorem dX10_plan_410 : decode cX10_plan 410 = .ok (.iload_n 2, 1) := by decide +kernel
theorem dX10_plan_411 : decode cX10_plan 411 = .ok (.if_icmp .ne 5, 3) := by decide +kernel
theorem dX10_plan_414 : decode cX10_plan 414 = .ok (.iconst 2, 1) := by decide +kernel
theorem dX10_plan_415 : decode cX10_plan 415 = .ok (.ireturn, 1) := by decide +kernel
theorem dX10_plan_416 : decode cX10_plan 416 = .ok (.aload_n 0, 1) := by decide +kernel
theorem dX10_plan_417 : decode cX10_plan 417 = .ok (.dup, 1) := by decide +kernel
theorem dX10_plan_418 : decode cX10_plan 418 = .ok (.getfield 299, 3) := by decide +kernel
theorem dX10_plan_421 : decode cX10_plan 421 = .ok (.iconst 1, 1) := by decide +kernel
theorem dX10_plan_422 : decode cX10_plan 422 = .ok (.iadd, 1) := by decide +kernel
theorem dX10_plan_423 : decode cX10_plan 423 = .ok (.putfield 299, 3) := by decide +kernel
theorem dX10_plan_426 : decode cX10_plan 426 = .ok (.aload_n 0, 1) := by decide +kernel
theorem dX10_plan_427 : decode cX10_plan 427 = .ok (.getfield 115, 3) := by decide +kernel
theorem dX10_plan_430 : decode cX10_plan 430 = .ok (.iload_n 3, 1) := by decide +kernel
theorem dX10_plan_431 : decode cX10_plan 431 = .ok (.iload 6, 2) := by decide +kernel
theorem dX10_plan_433 : decode cX10_plan 433 = .ok (.ifCond .eq 8, 3) := by decide +kernel
theorem dX10_plan_436 : decode cX10_plan 436 = .ok (.iload 7, 2) := by decide +kernel
theorem dX10_plan_438 : decode cX10_plan 438 = .ok (.goto 5, 3) := by decide +kernel
theorem dX10_plan_441 : decode cX10_plan 441 = .ok (.bipush 9, 2) := by decide +kernel
theorem dX10_plan_443 : decode cX10_plan 443 = .ok (.iastore, 1) := by decide +kernel
theorem dX10_plan_444 : decode cX10_plan 444 = .ok (.aload_n 0, 1) := by decide +kernel
theorem dX10_plan_445 : decode cX10_plan 445 = .ok (.iload_n 3, 1) := by decide +kernel
theorem dX10_plan_446 : decode cX10_plan 446 = .ok (.iload 4, 2) := by decide +kernel
theorem dX10_plan_448 : decode cX10_plan 448 = .ok (.aload_n 0, 1) := by decide +kernel
theorem dX10_plan_449 : decode cX10_plan 449 = .ok (.getfield 115, 3) := by decide +kernel
theorem dX10_plan_452 : decode cX10_plan 452 = .ok (.iload_n 3, 1) := by decide +kernel
theorem dX10_plan_453 : decode cX10_plan 453 = .ok (.iaload, 1) := by decide +kernel
theorem dX10_plan_454 : decode cX10_plan 454 = .ok (.iload 5, 2) := by decide +kernel
theorem dX10_plan_456 : decode cX10_plan 456 = .ok (.invokevirtual 315, 3) := by decide +kernel
theorem dX10_plan_459 : decode cX10_plan 459 = .ok (.iload 4, 2) := by decide +kernel
theorem dX10_plan_461 : decode cX10_plan 461 = .ok (.iconst 3, 1) := by decide +kernel
theorem dX10_plan_462 : decode cX10_plan 462 = .ok (.if_icmp .ne 18, 3) := by decide +kernel
theorem dX10_plan_465 : decode cX10_plan 465 = .ok (.aload_n 0, 1) := by decide +kernel
theorem dX10_plan_466 : decode cX10_plan 466 = .ok (.iload_n 3, 1) := by decide +kernel
theorem dX10_plan_467 : decode cX10_plan 467 = .ok (.iconst 1, 1) := by decide +kernel
theorem dX10_plan_468 : decode cX10_plan 468 = .ok (.iadd, 1) := by decide +kernel
theorem dX10_plan_469 : decode cX10_plan 469 = .ok (.iload 5, 2) := by decide +kernel
theorem dX10_plan_471 : decode cX10_plan 471 = .ok (.invokevirtual 319, 3) := by decide +kernel
theorem dX10_plan_474 : decode cX10_plan 474 = .ok (.ifCond .ne 6, 3) := by decide +kernel
theorem dX10_plan_477 : decode cX10_plan 477 = .ok (.goto (-282), 3) := by decide +kernel
theorem dX10_plan_480 : decode cX10_plan 480 = .ok (.iinc 3 1, 3) := by decide +kernel
theorem dX10_plan_483 : decode cX10_plan 483 = .ok (.aload_n 0, 1) := by decide +kernel
theorem dX10_plan_484 : decode cX10_plan 484 = .ok (.getfield 112, 3) := by decide +kernel
theorem dX10_plan_487 : decode cX10_plan 487 = .ok (.iload_n 3, 1) := by decide +kernel
theorem dX10_plan_488 : decode cX10_plan 488 = .ok (.iconst 0, 1) := by decide +kernel
theorem dX10_plan_489 : decode cX10_plan 489 = .ok (.iastore, 1) := by decide +kernel
theorem dX10_plan_490 : decode cX10_plan 490 = .ok (.iload 4, 2) := by decide +kernel
theorem dX10_plan_492 : decode cX10_plan 492 = .ok (.iconst 3, 1) := by decide +kernel
theorem dX10_plan_493 : decode cX10_plan 493 = .ok (.if_icmp .ge 6, 3) := by decide +kernel
theorem dX10_plan_496 : decode cX10_plan 496 = .ok (.goto (-301), 3) := by decide +kernel
theorem dX10_plan_499 : decode cX10_plan 499 = .ok (.aload_n 0, 1) := by decide +kernel
theorem dX10_plan_500 : decode cX10_plan 500 = .ok (.iload_n 3, 1) := by decide +kernel
theorem dX10_plan_501 : decode cX10_plan 501 = .ok (.iconst 4, 1) := by decide +kernel
theorem dX10_plan_502 : decode cX10_plan 502 = .ok (.idiv, 1) := by decide +kernel
theorem dX10_plan_503 : decode cX10_plan 503 = .ok (.aload_n 0, 1) := by decide +kernel
theorem dX10_plan_504 : decode cX10_plan 504 = .ok (.getfield 302, 3) := by decide +kernel
theorem dX10_plan_507 : decode cX10_plan 507 = .ok (.if_icmp .le 9, 3) := by decide +kernel
theorem dX10_plan_510 : decode cX10_plan 510 = .ok (.iload_n 3, 1) := by decide +kernel
theorem dX10_plan_511 : decode cX10_plan 511 = .ok (.iconst 4, 1) := by decide +kernel
theorem dX10_plan_512 : decode cX10_plan 512 = .ok (.idiv, 1) := by decide +kernel
theorem dX10_plan_513 : decode cX10_plan 513 = .ok (.goto 7, 3) := by decide +kernel
theorem dX10_plan_516 : decode cX10_plan 516 = .ok (.aload_n 0, 1) := by decide +kernel
theorem dX10_plan_517 : decode cX10_plan 517 = .ok (.getfield 302, 3) := by decide +kernel
theorem dX10_plan_520 : decode cX10_plan 520 = .ok (.putfield 302, 3) := by decide +kernel
theorem dX10_plan_523 : decode cX10_plan 523 = .ok (.iload_n 3, 1) := by decide +kernel
theorem dX10_plan_524 : decode cX10_plan 524 = .ok (.iconst 4, 1) := by decide +kernel
theorem dX10_plan_525 : decode cX10_plan 525 = .ok (.iload_n 1, 1) := by decide +kernel
theorem dX10_plan_526 : decode cX10_plan 526 = .ok (.imul, 1) := by decide +kernel
theorem dX10_plan_527 : decode cX10_plan 527 = .ok (.if_icmp .ge 12, 3) := by decide +kernel
theorem dX10_plan_530 : decode cX10_plan 530 = .ok (.aload_n 0, 1) := by decide +kernel
theorem dX10_plan_531 : decode cX10_plan 531 = .ok (.iload_n 3, 1) := by decide +kernel
theorem dX10_plan_532 : decode cX10_plan 532 = .ok (.iload 5, 2) := by decide +kernel
theorem dX10_plan_534 : decode cX10_plan 534 = .ok (.iconst 1, 1) := by decide +kernel
theorem dX10_plan_535 : decode cX10_plan 535 = .ok (.iadd, 1) := by decide +kernel
theorem dX10_plan_536 : decode cX10_plan 536 = .ok (.invokevirtual 305, 3) := by decide +kernel
theorem dX10_plan_539 : decode cX10_plan 539 = .ok (.goto (-344), 3) := by decide +kernel
theorem dX10_plan_542 : decode cX10_plan 542 = .ok (.iconst 1, 1) := by decide +kernel
theorem dX10_plan_543 : decode cX10_plan 543 = .ok (.ireturn, 1) := by decide +kernel
/-! the reference's search ends: a number that falls at every turn of its loop -/
def pMu (f : Nat → Int32) : Nat → Nat
  | 0 => 0
  | c + 1 => pMu f c + (9 - (f c).toInt).toNat * 10 ^ (57 - c)
theorem pMu_upd {f : Nat → Int32} {j : Nat} {v : Int32} : ∀ {c : Nat}, c ≤ j → pMu (upd f j v) c = pMu f c
  | 0, _ => rfl
  | c + 1, h => by
    show pMu (upd f j v) c + (9 - (upd f j v c).toInt).toNat * _ = pMu f c + _
    rw [pMu_upd (by omega), pk_un (by omega)]
theorem pMu_d {f : Nat → Int32} {y x : Int32} {n : Nat} (hx : x.toInt = y.toInt - 1) (h0 : 0 ≤ y.toInt) (h8 : (0 : Int) ≤ (f y.toNatClampNeg).toInt ∧ (f y.toNatClampNeg).toInt ≤ (8 : Int)) (hn : pMu f (y.toInt + 1).toNat < n + 1) : pMu f (x.toInt + 1).toNat < n := by
  have c1 := gs_cl h0
  have e1 : (y.toInt + 1).toNat = y.toNatClampNeg + 1 := by omega
  have e2 : (x.toInt + 1).toNat = y.toNatClampNeg := by omega
  rw [e1] at hn
  rw [e2]
  have h1 : pMu f (y.toNatClampNeg + 1) = pMu f y.toNatClampNeg + (9 - (f y.toNatClampNeg).toInt).toNat * 10 ^ (57 - y.toNatClampNeg) := rfl
  have h2 : 0 < (9 - (f y.toNatClampNeg).toInt).toNat * 10 ^ (57 - y.toNatClampNeg) := Nat.mul_pos (by omega) (Nat.pow_pos (by decide))
  omega
theorem pMu_s {f : Nat → Int32} {y v : Int32} {n : Nat} (h0 : 0 ≤ y.toInt) (h8 : (0 : Int) ≤ (f y.toNatClampNeg).toInt ∧ (f y.toNatClampNeg).toInt ≤ (8 : Int)) (hv : (f y.toNatClampNeg).toInt + 1 ≤ v.toInt) (hn : pMu f (y.toInt + 1).toNat < n + 1) : pMu (upd f y.toNatClampNeg v) (y.toInt + 1).toNat < n := by
  have c1 := gs_cl h0
  have e1 : (y.toInt + 1).toNat = y.toNatClampNeg + 1 := by omega
  rw [e1] at hn ⊢
  have h1 : pMu f (y.toNatClampNeg + 1) = pMu f y.toNatClampNeg + (9 - (f y.toNatClampNeg).toInt).toNat * 10 ^ (57 - y.toNatClampNeg) := rfl
  have h2 : pMu (upd f y.toNatClampNeg v) (y.toNatClampNeg + 1) = pMu (upd f y.toNatClampNeg v) y.toNatClampNeg + (9 - (upd f y.toNatClampNeg v y.toNatClampNeg).toInt).toNat * 10 ^ (57 - y.toNatClampNeg) := rfl
  rw [pMu_upd (Nat.le_refl _), pk_us] at h2
  have h3 : (9 - v.toInt).toNat * 10 ^ (57 - y.toNatClampNeg) < (9 - (f y.toNatClampNeg).toInt).toNat * 10 ^ (57 - y.toNatClampNeg) := Nat.mul_lt_mul_of_pos_right (by omega) (Nat.pow_pos (by decide))
  omega
theorem pMu_u {f : Nat → Int32} {y x v : Int32} {n : Nat} (h0 : 0 ≤ y.toInt) (hy : y.toInt ≤ 55) (hx : x.toInt = y.toInt + 1) (h8 : (0 : Int) ≤ (f y.toNatClampNeg).toInt ∧ (f y.toNatClampNeg).toInt ≤ (8 : Int)) (hv : (f y.toNatClampNeg).toInt + 1 ≤ v.toInt) (hv8 : v.toInt ≤ 8) (hn : pMu f (y.toInt + 1).toNat < n + 1) : pMu (upd (upd f y.toNatClampNeg v) x.toNatClampNeg (0 : Int32)) (x.toInt + 1).toNat < n := by
  have c1 := gs_cl h0
  have c2 := gs_cl (x := x) (by omega)
  obtain ⟨c, hc⟩ : ∃ c, c = y.toNatClampNeg := ⟨_, rfl⟩
  have e1 : (y.toInt + 1).toNat = c + 1 := by omega
  have e2 : x.toNatClampNeg = c + 1 := by omega
  have e3 : (x.toInt + 1).toNat = c + 1 + 1 := by omega
  rw [← hc] at h8 hv ⊢
  rw [e1] at hn
  rw [e2, e3]
  have h1 : pMu f (c + 1) = pMu f c + (9 - (f c).toInt).toNat * 10 ^ (57 - c) := rfl
  have h2 : pMu (upd (upd f c v) (c + 1) (0 : Int32)) (c + 1 + 1) = pMu (upd (upd f c v) (c + 1) (0 : Int32)) (c + 1) + (9 - (upd (upd f c v) (c + 1) (0 : Int32) (c + 1)).toInt).toNat * 10 ^ (57 - (c + 1)) := rfl
  rw [pMu_upd (Nat.le_refl _), pk_us] at h2
  have h3 : pMu (upd f c v) (c + 1) = pMu (upd f c v) c + (9 - (upd f c v c).toInt).toNat * 10 ^ (57 - c) := rfl
  rw [pMu_upd (Nat.le_refl _), pk_us] at h3
  have h4 : 10 ^ (57 - c) = 10 * 10 ^ (57 - (c + 1)) := by rw [show 57 - c = (57 - (c + 1)) + 1 by omega, Nat.pow_succ, Nat.mul_comm]
  have h5 : ((9 - (0 : Int32).toInt).toNat : Nat) = 9 := by decide
  have h6 : 0 < 10 ^ (57 - (c + 1)) := Nat.pow_pos (by decide)
  rw [h5] at h2
  rw [h4] at h1 h3
  have h7 : (9 - v.toInt).toNat + 1 ≤ (9 - (f c).toInt).toNat := by omega
  have h9 := Nat.mul_le_mul_right (10 * 10 ^ (57 - (c + 1))) h7
  rw [Nat.add_mul] at h9
  omega
set_option maxHeartbeats 4000000 in
set_option maxRecDepth 100000 in
theorem m_plan_a (l : Launch) (G : va_G) (cy : Nat → ClassId) (sK sV : Nat → Nat) (ad : Nat → Nat → Nat) (sz : Nat) (st : gS) (hB : gBd bM st) (x : Int32) (y : Int32) (Xx : Int) (Xy : Int) (kx : x.toInt = Xx) (ky : y.toInt = Xy) (rs : List Rl) (bk : Nat) (hbk : (st 0 0 28).toInt = (bk : Int)) (hru : (st 0 0 29).toInt = (rs.length : Int)) (hLM : LM rs st bk) (hwf : ∀ r ∈ rs, wfR r) (hok : okM st) (p : Program) (e : Env) (s : State) (m : MethodId) (below : List Frame) (meth : Method) (c : Code) (A : Nat → Prop) (hx : p.tables.exec = Jvm.exec) (hb : c.code = cX10_plan) (hr : meth.sig.returnType = (some .int)) (hml : c.maxLocals = 8) (hlocks : meth.locks = false) (hown : s.vm.findClass yX10_plan.cls = some m.cls) (hts : ∀ w ∈ gz_T, w.before [.ref (ad 0 0), .int x, .int y].toArray s = true) (hK : va_K G vwCl (gzK cy) s) (hov : gOv s) (hE : gE sK sV A s s.heap) (hI : gI cnM ad) (hm : ∀ k i, i < cnM k → A (ad k i)) (hA : ∀ q, s.heap.size ≤ q → A q) (Q : _) (hQe : MQ below (gsQi G (shM cy ad) cnM ad (fun (r : Int32) (u : gS) => gBN bM kM [0, 55, 56, 57, 58, 2900, 3000, 3100, 3200, 3300, 3400, 3500, 3600, 3700, 3800] st u ∧ (((¬ (1 ≤ Xy ∧ Xy ≤ 50000) ∧ r.toInt = 0 ∧ (u 0 0 0).toInt = 1 ∧ frM st u) ∨ ((1 ≤ Xy ∧ Xy ≤ 50000) ∧ ¬ ((∃ h : Nat, h < 4 ∧ ¬ (st 22 0 h).toInt = 0) ∧ 1 ≤ Xx ∧ Xx ≤ 14 ∧ (st 0 0 7).toInt + Xx ≤ 199) ∧ r.toInt = -1 ∧ (u 0 0 0).toInt = 0 ∧ frM st u) ∨ ((1 ≤ Xy ∧ Xy ≤ 50000) ∧ ((∃ h : Nat, h < 4 ∧ ¬ (st 22 0 h).toInt = 0) ∧ 1 ≤ Xx ∧ Xx ≤ 14 ∧ (st 0 0 7).toInt + Xx ≤ 199) ∧ (u 0 0 0).toInt = 0 ∧ ∃ (as9 : List Int) (f9 : Int), sFE (evM rs st) Xx Xy f9 r.toInt as9 ∧ (u 0 0 58).toInt = f9 ∧ ((r.toInt = 0 ∧ pdM st u as9 x) ∨ (1 ≤ r.toInt ∧ u 37 0 = st 37 0 ∧ u 38 0 = st 38 0 ∧ u 0 0 55 = st 0 0 55 ∧ u 0 0 56 = st 0 0 56)))))) A) [.ref (ad 0 0), .int x, .int y].toArray s ({ frames := 2, cells := 0, slots := 0, locals := 53 } : Room).cells ({ frames := 2, cells := 0, slots := 0, locals := 53 } : Room).slots A = Q) (n25 : Nat) (ih_25 : ∀ (sv25 : gS) (y25_0 : Int32) (H : Heap) (locs : List Loc) (ls : Array Slot), pMu (sv25 33 0) (y25_0.toInt + 1).toNat < n25 → gBN bM kM [0, 55, 56, 57, 58, 2900, 3000, 3100, 3200, 3300, 3400, 3500, 3600, 3700, 3800] st sv25 → (-1 ≤ y25_0.toInt) → (y25_0.toInt ≤ 4 * Xx) → (loM rs st sv25 Xx Xy y25_0.toInt) → (sv25 37 0 = st 37 0) → (sv25 38 0 = st 38 0) → (sv25 0 0 55 = st 0 0 55) → (sv25 0 0 56 = st 0 0 56) → ((sv25 0 0 0).toInt = 0) → gM G (shM cy ad) cnM ad sv25 H → va_S A s.heap H locs → lv_has ls 8 [(3, .int y25_0), (0, .ref (ad 0 0)), (1, .int x), (2, .int y)] → W p l e ({ frames := 2, cells := 0, slots := 0, locals := 53 } : Room) s m [.ref (ad 0 0), .int x, .int y].toArray below meth c H locs 0 0 Q (F0 m 195 ls [])) (sv25 : gS) (y25_0 : Int32) (hme25 : pMu (sv25 33 0) (y25_0.toInt + 1).toNat < n25 + 1) (hB_sv25 : gBN bM kM [0, 55, 56, 57, 58, 2900, 3000, 3100, 3200, 3300, 3400, 3500, 3600, 3700, 3800] st sv25) (hv25_0 : -1 ≤ y25_0.toInt) (hv25_1 : y25_0.toInt ≤ 4 * Xx) (hv25_2 : loM rs st sv25 Xx Xy y25_0.toInt) (hv25_3 : sv25 37 0 = st 37 0) (hv25_4 : sv25 38 0 = st 38 0) (hv25_5 : sv25 0 0 55 = st 0 0 55) (hv25_6 : sv25 0 0 56 = st 0 0 56) (hv25_7 : (sv25 0 0 0).toInt = 0) (as9 : List Int) (t9 : Int) (k9 : Int) (f9 : Int) (j9 : Nat) (sv35 : gS) (x_34 : Int32) (x_29 : Int32) (hB_sv35 : gBN bM kM [0, 55, 56, 57, 58, 2900, 3000, 3100, 3200, 3300, 3400, 3500, 3600, 3700, 3800] st sv35) (hr1 : 1 ≤ Xx) (hr2 : Xx ≤ 14) (hr3 : 1 ≤ Xy) (hr4 : Xy ≤ 50000) (hr5 : (st 0 0 7).toInt + Xx ≤ 199) (hr6 : 0 ≤ y25_0.toInt) (hr7 : ¬ y25_0.toInt = 4 * Xx) (hS9 : sM rs st sv25 Xx Xy as9 t9 k9 f9 j9) (hat9 : y25_0.toInt = (as9.length : Int)) (hm9 : x_29.toInt = y25_0.toInt % 4) (hd9 : x_34.toInt = (st 0 0 7).toInt + ((as9.length / 4 + 1 : Nat) : Int)) (hv35_0 : gzM rs st sv25 sv35 Xy as9 t9 k9 f9) (H : Heap) (locs : List Loc) (ls : Array Slot) (hM : gM G (shM cy ad) cnM ad sv35 H) (hS : va_S A s.heap H locs) (hl : lv_has ls 8 [(5, .int x_34), (4, .int x_29), (3, .int y25_0), (0, .ref (ad 0 0)), (1, .int x), (2, .int y)]) : W p l e ({ frames := 2, cells := 0, slots := 0, locals := 53 } : Room) s m [.ref (ad 0 0), .int x, .int y].toArray below meth c H locs 0 0 Q (F0 m 459 ls []) := by
  have hB_st : gBN bM kM [0, 55, 56, 57, 58, 2900, 3000, 3100, 3200, 3300, 3400, 3500, 3600, 3700, 3800] st st := gBN.rf hB
  have b7_9 : (0 : Int) ≤ (st 0 0 7).toInt ∧ (st 0 0 7).toInt ≤ (199 : Int) := hB 0 0 7
  have hlen9 := hS9.2.2.2.2.2.2.1
  have hk59 := hS9.2.2.2.2.2.2.2.1
  have c_at := gs_cl (x := y25_0) (by omega)
  have hx9 : y25_0.toNatClampNeg = as9.length := (by omega)
  have h58_9 := hS9.2.2.2.2.2.1
  have hfb9 := hS9.2.2.2.2.2.2.2.2.1
  have c_h := gs_cl (x := x_29) (by omega)
  have hh9 : x_29.toNatClampNeg = as9.length % 4 := (by omega)
  have h79 : (sv25 0 0 7).toInt = (st 0 0 7).toInt := congrArg Int32.toInt (hB_sv25.2 0 0 7 (show (7 : Nat) ∉ _ from by decide))
  obtain ⟨X9, hG9⟩ := hv35_0
  have hn9 := hG9.nx
  have hj9 := hG9.jm
  have e58_9 := hG9.e58
  obtain ⟨r37_9, r38_9, c55_9, c56_9, c0_9⟩ := hG9.rows
  obtain ⟨v9, e33_9, l33_9, h33_9⟩ := hG9.e33
  refine lv_iload hx hb dX10_plan_459 (lv_at hl 1 rfl) ?_
  refine lv_iconst (v := 3) hx hb dX10_plan_461 (by decide) ?_
  refine lv_icmp_ne (tgt := 480) hx hb dX10_plan_462 (by decide) (fun c_36 => ?_) (fun c_36 => ?_)
  · have ic_36 := gz_ne (rfl : x_29.toInt = x_29.toInt) (by decide : (3 : Int32).toInt = 3) c_36
    obtain ⟨x_37, ex_37⟩ : ∃ y : Int32, y = y25_0 + 1 := ⟨_, rfl⟩
    try have tx_37 : x_37.toInt = y25_0.toInt + 1 := by rw [ex_37]; exact gz_addP (x := y25_0.toInt) (y := 1) rfl (by decide) (by omega) (by omega)
    refine lv_iinc (v := (x_37)) (lv' := [(3, .int x_37), (5, .int x_34), (4, .int x_29), (0, .ref (ad 0 0)), (1, .int x), (2, .int y)]) hx hb dX10_plan_480 hl (k := 2) rfl (by rw [ex_37]; rfl) (by decide) rfl (fun ls hl => ?_)
    refine lv_aload_n hx hb dX10_plan_483 rfl (lv_at hl 3 rfl) ?_
    refine gs_get (C := RX10) (T := TX10) (N := 59) hx hb hts inX10 hown hK hM 0 0 49 (by decide) rfl rfl (by decide) (hts _ gm_946) (fun _ h9 => h9) rfl dX10_plan_484 ?_
    refine lv_iload_n hx hb dX10_plan_487 rfl (lv_at hl 0 rfl) ?_
    refine lv_iconst (v := 0) hx hb dX10_plan_488 (by decide) ?_
    refine gs_iast hx hb hK hI hm hM hS 33 0 (by decide) (fun _ => rfl) (vp_in_iff.mpr ⟨by omega, by omega⟩) dX10_plan_489 (fun st_38 H locs est_38 hM hS => ?_)
    have hB_st_38 : gBN bM kM [0, 55, 56, 57, 58, 2900, 3000, 3100, 3200, 3300, 3400, 3500, 3600, 3700, 3800] st st_38 := by rw [est_38]; exact hB_sv35.up (show (3300 : Nat) ∈ _ from by decide) (show (0 : Int) ≤ ((0 : Int32)).toInt from by decide) (show ((0 : Int32)).toInt ≤ (8 : Int) from by decide)
    refine lv_iload hx hb dX10_plan_490 (lv_at hl 2 rfl) ?_
    refine lv_iconst (v := 3) hx hb dX10_plan_492 (by decide) ?_
    refine lv_icmp_ge (tgt := 499) hx hb dX10_plan_493 (by decide) (fun c_39 => ?_) (fun c_39 => ?_)
    · have ic_39 := gz_le (by decide : (3 : Int32).toInt = 3) (rfl : x_29.toInt = x_29.toInt) c_39
      exfalso; omega
    · have ic_39 := gz_nle (by decide : (3 : Int32).toInt = 3) (rfl : x_29.toInt = x_29.toInt) c_39
      refine lv_goto (tgt := 195) hx hb dX10_plan_496 (by decide) ?_
      exact ih_25 st_38 (x_37 : Int32) H _ ls (by rw [show st_38 33 0 = (upd (sv35 33 0) (x_37.toNatClampNeg) (0 : Int32)) from ((congrFun (congrFun est_38 33) 0).trans ((gU_at _ _ _ _ _).trans (congrArg (fun f9 => upd f9 (x_37.toNatClampNeg) (0 : Int32)) rfl))), e33_9, ← hx9]; exact pMu_u (y := y25_0) (by omega) (by omega) (by omega) (show (0 : Int) ≤ _ ∧ _ ≤ (8 : Int) from hB_sv25.1 33 0 _) (by rw [hx9]; omega) (by omega) hme25) hB_st_38 (by omega) (by omega) (hS9.go (by omega) hn9 hG9.ne hG9.mx (show (if X9 = 9 then k9 else k9 + 1) = if X9 = 9 then k9 else k9 + 1 from rfl) (by omega) (((jM.fr hj9 ⟨((congrFun (congrFun est_38 29) 0).trans (congrFun (gU_k (by decide)) 0)), ((congrFun (congrFun est_38 30) 0).trans (congrFun (gU_k (by decide)) 0)), ((congrFun (congrFun est_38 31) 0).trans (congrFun (gU_k (by decide)) 0)), ((congrFun (congrFun est_38 32) 0).trans (congrFun (gU_k (by decide)) 0)), ((congrFun (congrFun est_38 35) 0).trans (congrFun (gU_k (by decide)) 0)), ((congrFun (congrFun est_38 36) 0).trans (congrFun (gU_k (by decide)) 0))⟩ ⟨((congrFun (congrFun est_38 22) 0).trans ((congrFun (gU_k (by decide)) 0).trans ((funext (fun j9 => hB_sv35.2 22 0 j9 (show (2200 : Nat) ∉ _ from by decide))).trans rfl))), ((congrFun (congrFun est_38 23) 0).trans ((congrFun (gU_k (by decide)) 0).trans ((funext (fun j9 => hB_sv35.2 23 0 j9 (show (2300 : Nat) ∉ _ from by decide))).trans rfl))), ((congrFun (congrFun est_38 24) 0).trans ((congrFun (gU_k (by decide)) 0).trans ((funext (fun j9 => hB_sv35.2 24 0 j9 (show (2400 : Nat) ∉ _ from by decide))).trans rfl))), ((congrFun (congrFun est_38 25) 0).trans ((congrFun (gU_k (by decide)) 0).trans ((funext (fun j9 => hB_sv35.2 25 0 j9 (show (2500 : Nat) ∉ _ from by decide))).trans rfl))), ((congrFun (congrFun est_38 3) 0).trans ((congrFun (gU_k (by decide)) 0).trans ((funext (fun j9 => hB_sv35.2 3 0 j9 (show (300 : Nat) ∉ _ from by decide))).trans rfl))), ((congrFun (congrFun est_38 2) 0).trans ((congrFun (gU_k (by decide)) 0).trans ((funext (fun j9 => hB_sv35.2 2 0 j9 (show (200 : Nat) ∉ _ from by decide))).trans rfl))), ((congrFun (congrFun est_38 28) 0).trans ((congrFun (gU_k (by decide)) 0).trans ((funext (fun j9 => hB_sv35.2 28 0 j9 (show (2800 : Nat) ∉ _ from by decide))).trans rfl))), ((congrFun (congrFun est_38 6) 0).trans ((congrFun (gU_k (by decide)) 0).trans ((funext (fun j9 => hB_sv35.2 6 0 j9 (show (600 : Nat) ∉ _ from by decide))).trans rfl))), (((congrFun (congrFun (congrFun est_38 0) 0) 7).trans (congrFun (congrFun (gU_k (by decide)) 0) 7)).trans (hB_sv35.2 0 0 7 (show (7 : Nat) ∉ _ from by decide))), ((congrFun (congrFun est_38 1) 0).trans ((congrFun (gU_k (by decide)) 0).trans ((funext (fun j9 => hB_sv35.2 1 0 j9 (show (100 : Nat) ∉ _ from by decide))).trans rfl)))⟩ (fun j hj => by rw [show st_38 33 0 = st_38 33 0 from rfl, show st_38 33 0 j = sv35 33 0 j from ((congrFun (congrFun (congrFun est_38 33) 0) j).trans (gU_other (by have c_i := gs_cl (x := x_37) (by omega); omega)))]) ((congrFun (congrFun est_38 34) 0).trans (congrFun (gU_k (by decide)) 0)))).push (by omega)) (by rw [show st_38 33 0 = st_38 33 0 from rfl, show as9.length + 1 = x_37.toNatClampNeg by (have c_i := gs_cl (x := x_37) (by omega); omega), show st_38 33 0 x_37.toNatClampNeg = 0 from ((congrFun (congrFun (congrFun est_38 33) 0) _).trans (gU_same _ _ _ _ _))]; decide) ((congrArg Int32.toInt ((congrFun (congrFun (congrFun est_38 0) 0) 57).trans (congrFun (congrFun (gU_k (by decide)) 0) 57))).trans hG9.e57) ((congrArg Int32.toInt ((congrFun (congrFun (congrFun est_38 0) 0) 58).trans (congrFun (congrFun (gU_k (by decide)) 0) 58))).trans e58_9) ⟨((congrFun (congrFun est_38 22) 0).trans ((congrFun (gU_k (by decide)) 0).trans ((funext (fun j9 => hB_sv35.2 22 0 j9 (show (2200 : Nat) ∉ _ from by decide))).trans rfl))), ((congrFun (congrFun est_38 23) 0).trans ((congrFun (gU_k (by decide)) 0).trans ((funext (fun j9 => hB_sv35.2 23 0 j9 (show (2300 : Nat) ∉ _ from by decide))).trans rfl))), ((congrFun (congrFun est_38 24) 0).trans ((congrFun (gU_k (by decide)) 0).trans ((funext (fun j9 => hB_sv35.2 24 0 j9 (show (2400 : Nat) ∉ _ from by decide))).trans rfl))), ((congrFun (congrFun est_38 25) 0).trans ((congrFun (gU_k (by decide)) 0).trans ((funext (fun j9 => hB_sv35.2 25 0 j9 (show (2500 : Nat) ∉ _ from by decide))).trans rfl))), ((congrFun (congrFun est_38 3) 0).trans ((congrFun (gU_k (by decide)) 0).trans ((funext (fun j9 => hB_sv35.2 3 0 j9 (show (300 : Nat) ∉ _ from by decide))).trans rfl))), ((congrFun (congrFun est_38 2) 0).trans ((congrFun (gU_k (by decide)) 0).trans ((funext (fun j9 => hB_sv35.2 2 0 j9 (show (200 : Nat) ∉ _ from by decide))).trans rfl))), ((congrFun (congrFun est_38 28) 0).trans ((congrFun (gU_k (by decide)) 0).trans ((funext (fun j9 => hB_sv35.2 28 0 j9 (show (2800 : Nat) ∉ _ from by decide))).trans rfl))), ((congrFun (congrFun est_38 6) 0).trans ((congrFun (gU_k (by decide)) 0).trans ((funext (fun j9 => hB_sv35.2 6 0 j9 (show (600 : Nat) ∉ _ from by decide))).trans rfl))), (((congrFun (congrFun (congrFun est_38 0) 0) 7).trans (congrFun (congrFun (gU_k (by decide)) 0) 7)).trans (hB_sv35.2 0 0 7 (show (7 : Nat) ∉ _ from by decide))), ((congrFun (congrFun est_38 1) 0).trans ((congrFun (gU_k (by decide)) 0).trans ((funext (fun j9 => hB_sv35.2 1 0 j9 (show (100 : Nat) ∉ _ from by decide))).trans rfl)))⟩ (by omega)) (((congrFun (congrFun est_38 37) 0).trans (congrFun (gU_k (by decide)) 0)).trans (r37_9.trans hv25_3)) (((congrFun (congrFun est_38 38) 0).trans (congrFun (gU_k (by decide)) 0)).trans (r38_9.trans hv25_4)) (((congrFun (congrFun (congrFun est_38 0) 0) 55).trans (congrFun (congrFun (gU_k (by decide)) 0) 55)).trans (c55_9.trans hv25_5)) (((congrFun (congrFun (congrFun est_38 0) 0) 56).trans (congrFun (congrFun (gU_k (by decide)) 0) 56)).trans (c56_9.trans hv25_6)) ((congrArg Int32.toInt (((congrFun (congrFun (congrFun est_38 0) 0) 0).trans (congrFun (congrFun (gU_k (by decide)) 0) 0)).trans c0_9)).trans hv25_7) hM hS (lv_sub hl [0, 3, 4, 5] rfl)
  · have ic_36 := gz_eqn (rfl : x_29.toInt = x_29.toInt) (by decide : (3 : Int32).toInt = 3) c_36
    refine lv_aload_n hx hb dX10_plan_465 rfl (lv_at hl 3 rfl) ?_
    refine lv_iload_n hx hb dX10_plan_466 rfl (lv_at hl 2 rfl) ?_
    refine lv_iconst (v := 1) hx hb dX10_plan_467 (by decide) ?_
    refine lv_iadd hx hb dX10_plan_468 ?_
    refine lv_topi (fun x_40 ex_40 => ?_)
    try have tx_40 : x_40.toInt = y25_0.toInt + 1 := by rw [ex_40]; exact gz_addP (x := y25_0.toInt) (y := 1) rfl (by decide) (by omega) (by omega)
    refine lv_iload hx hb dX10_plan_469 (lv_at hl 0 rfl) ?_
    refine gs_calli (va_runV (As := [.int x_40, .int x_34]) (rest := []) ⟨hx, hb, hml, hown, hts⟩ (m_isGood l G cy sK sV ad H.size sv35 hB_sv35.1 x_40 x_34 x_40.toInt x_34.toInt rfl rfl (by first | decide | omega) (by first | decide | omega)) ⟨(gz_cb (n := 2) hts gm_1285 gm_12 gm_1288 ⟨by decide +kernel, by decide +kernel, by decide +kernel⟩ ⟨Nat.le_of_ble_eq_true rfl, Nat.le_of_ble_eq_true rfl⟩), hts _ gm_1287, hts _ gs_59⟩ (gs_preV hK hov hE hI hM hm hS hA 0 0 (by decide) rfl rfl) rfl rfl hl.1 rfl (lv_room (Nat.le_of_ble_eq_true rfl)) dX10_plan_471 ⟨Nat.le_of_ble_eq_true rfl, Nat.le_of_ble_eq_true rfl⟩) hm hS hA (fun r_41 st_41 H locs hw_41 hM hS => ?_)
    obtain ⟨n_41, hw_41⟩ := hw_41
    have n_41 := gBN.nil n_41
    subst n_41
    rcases hw_41 with ⟨rfl, hw_41_0⟩ | ⟨rfl, hw_41_0⟩
    · skip
      refine lv_if_ne (tgt := 480) hx hb dX10_plan_474 (by decide) (fun _ => ?_) (fun h9 => absurd h9 (by decide))
      obtain ⟨x_42, ex_42⟩ : ∃ y : Int32, y = y25_0 + 1 := ⟨_, rfl⟩
      try have tx_42 : x_42.toInt = y25_0.toInt + 1 := by rw [ex_42]; exact gz_addP (x := y25_0.toInt) (y := 1) rfl (by decide) (by omega) (by omega)
      refine lv_iinc (v := (x_42)) (lv' := [(3, .int x_42), (5, .int x_34), (4, .int x_29), (0, .ref (ad 0 0)), (1, .int x), (2, .int y)]) hx hb dX10_plan_480 hl (k := 2) rfl (by rw [ex_42]; rfl) (by decide) rfl (fun ls hl => ?_)
      refine lv_aload_n hx hb dX10_plan_483 rfl (lv_at hl 3 rfl) ?_
      refine gs_get (C := RX10) (T := TX10) (N := 59) hx hb hts inX10 hown hK hM 0 0 49 (by decide) rfl rfl (by decide) (hts _ gm_946) (fun _ h9 => h9) rfl dX10_plan_484 ?_
      refine lv_iload_n hx hb dX10_plan_487 rfl (lv_at hl 0 rfl) ?_
      refine lv_iconst (v := 0) hx hb dX10_plan_488 (by decide) ?_
      refine gs_iast hx hb hK hI hm hM hS 33 0 (by decide) (fun _ => rfl) (vp_in_iff.mpr ⟨by omega, by omega⟩) dX10_plan_489 (fun st_43 H locs est_43 hM hS => ?_)
      have hB_st_43 : gBN bM kM [0, 55, 56, 57, 58, 2900, 3000, 3100, 3200, 3300, 3400, 3500, 3600, 3700, 3800] st st_43 := by rw [est_43]; exact hB_sv35.up (show (3300 : Nat) ∈ _ from by decide) (show (0 : Int) ≤ ((0 : Int32)).toInt from by decide) (show ((0 : Int32)).toInt ≤ (8 : Int) from by decide)
      refine lv_iload hx hb dX10_plan_490 (lv_at hl 2 rfl) ?_
      refine lv_iconst (v := 3) hx hb dX10_plan_492 (by decide) ?_
      refine lv_icmp_ge (tgt := 499) hx hb dX10_plan_493 (by decide) (fun c_44 => ?_) (fun c_44 => ?_)
      · have ic_44 := gz_le (by decide : (3 : Int32).toInt = 3) (rfl : x_29.toInt = x_29.toInt) c_44
        refine lv_aload_n hx hb dX10_plan_499 rfl (lv_at hl 3 rfl) ?_
        refine lv_iload_n hx hb dX10_plan_500 rfl (lv_at hl 0 rfl) ?_
        refine lv_iconst (v := 4) hx hb dX10_plan_501 (by decide) ?_
        refine lv_idiv hx hb dX10_plan_502 (by decide) ?_
        refine lv_topi (fun x_45 ex_45 => ?_)
        try have tx_45 := gs_div2 (y := 4) (by decide) (show 0 ≤ x_42.toInt from by omega) (by omega) ex_45
        refine lv_aload_n hx hb dX10_plan_503 rfl (lv_at hl 3 rfl) ?_
        refine gs_get (C := RX10) (T := TX10) (N := 59) hx hb hts inX10 hown hK hM 0 0 58 (by decide) rfl rfl (by decide) (hts _ gm_955) (fun _ h9 => h9) rfl dX10_plan_504 ?_
        refine lv_topi (fun x_46 ex_46 => ?_)
        have ex_46 : (sv35 0 0 58) = x_46 := Eq.symm (ex_46.trans ((congrFun (congrFun (congrFun est_43 0) 0) 58).trans (congrFun (congrFun (gU_k (by decide)) 0) 58)))
        subst ex_46
        refine lv_icmp_le (tgt := 516) hx hb dX10_plan_507 (by decide) (fun c_48 => ?_) (fun c_48 => ?_)
        · have ic_48 := gz_le (rfl : x_45.toInt = x_45.toInt) (rfl : (sv35 0 0 58).toInt = (sv35 0 0 58).toInt) c_48
          refine lv_aload_n hx hb dX10_plan_516 rfl (lv_at hl 3 rfl) ?_
          refine gs_get (C := RX10) (T := TX10) (N := 59) hx hb hts inX10 hown hK hM 0 0 58 (by decide) rfl rfl (by decide) (hts _ gm_955) (fun _ h9 => h9) rfl dX10_plan_517 ?_
          refine lv_topi (fun x_49 ex_49 => ?_)
          have ex_49 : (sv35 0 0 58) = x_49 := Eq.symm (ex_49.trans ((congrFun (congrFun (congrFun est_43 0) 0) 58).trans (congrFun (congrFun (gU_k (by decide)) 0) 58)))
          subst ex_49
          refine gs_put (C := RX10) (T := TX10) (N := 59) (ty := .int) (val := .int (sv35 0 0 58)) hx hb hts inX10 tyX10 tyX10_ok nmX10 hown hK hI hm hM hS 0 0 58 (by decide) rfl rfl (by decide) (hts _ gm_955) (fun _ h9 => h9) rfl ((sv35 0 0 58) : Int32) rfl (by decide +kernel) rfl rfl (Nat.le_of_ble_eq_true rfl) dX10_plan_520 (fun st_51 H locs est_51 hM hS => ?_)
          have hB_st_51 : gBN bM kM [0, 55, 56, 57, 58, 2900, 3000, 3100, 3200, 3300, 3400, 3500, 3600, 3700, 3800] st st_51 := by rw [est_51]; exact hB_st_43.up (show (58 : Nat) ∈ _ from by decide) (gi_lo _) (gi_hi _)
          refine lv_iload_n hx hb dX10_plan_523 rfl (lv_at hl 0 rfl) ?_
          refine lv_iconst (v := 4) hx hb dX10_plan_524 (by decide) ?_
          refine lv_iload_n hx hb dX10_plan_525 rfl (lv_at hl 4 rfl) ?_
          refine lv_imul hx hb dX10_plan_526 ?_
          refine lv_topi (fun x_52 ex_52 => ?_)
          try have tx_52 : x_52.toInt = 4 * x.toInt := by rw [ex_52]; exact gz_mulI (x := 4) (y := x.toInt) (by decide) rfl (by omega) (by omega)
          refine lv_icmp_ge (tgt := 539) hx hb dX10_plan_527 (by decide) (fun c_53 => ?_) (fun c_53 => ?_)
          · have ic_53 := gz_le (rfl : x_52.toInt = x_52.toInt) (rfl : x_42.toInt = x_42.toInt) c_53
            refine lv_goto (tgt := 195) hx hb dX10_plan_539 (by decide) ?_
            exact ih_25 st_51 (x_42 : Int32) H _ ls (by rw [show st_51 33 0 = (upd (sv35 33 0) (x_42.toNatClampNeg) (0 : Int32)) from ((congrFun (congrFun est_51 33) 0).trans ((congrFun (gU_k (by decide)) 0).trans ((congrFun (congrFun est_43 33) 0).trans ((gU_at _ _ _ _ _).trans (congrArg (fun f9 => upd f9 (x_42.toNatClampNeg) (0 : Int32)) rfl))))), e33_9, ← hx9]; exact pMu_u (y := y25_0) (by omega) (by omega) (by omega) (show (0 : Int) ≤ _ ∧ _ ≤ (8 : Int) from hB_sv25.1 33 0 _) (by rw [hx9]; omega) (by omega) hme25) hB_st_51 (by omega) (by omega) (hS9.found (hS9.stp3 (by omega) hn9 hG9.ne hG9.mx (show (if X9 = 9 then k9 else k9 + 1) = if X9 = 9 then k9 else k9 + 1 from rfl) hj9 (by have h7 : (0 : Int) ≤ (st 0 0 7).toInt ∧ (st 0 0 7).toInt ≤ (199 : Int) := hB 0 0 7; exact h7) hok (by omega) hd9 (by have h9 := hw_41_0; rw [show x_40.toNatClampNeg = as9.length + 1 by (have c_g := gs_cl (x := x_40) (by omega); omega)] at h9; exact h9) (show ((sv35 0 0 58) : Int32).toInt = if f9 < ((as9.length / 4 + 1 : Nat) : Int) then ((as9.length / 4 + 1 : Nat) : Int) else f9 from (by have hfm9 : (st_43 0 0 58).toInt = f9 := ((congrArg Int32.toInt ((congrFun (congrFun (congrFun est_43 0) 0) 58).trans (congrFun (congrFun (gU_k (by decide)) 0) 58))).trans e58_9); split <;> omega))) (by omega) (by omega) (jM.fr hj9 ⟨(((congrFun (congrFun est_51 29) 0).trans (congrFun (gU_k (by decide)) 0)).trans ((congrFun (congrFun est_43 29) 0).trans (congrFun (gU_k (by decide)) 0))), (((congrFun (congrFun est_51 30) 0).trans (congrFun (gU_k (by decide)) 0)).trans ((congrFun (congrFun est_43 30) 0).trans (congrFun (gU_k (by decide)) 0))), (((congrFun (congrFun est_51 31) 0).trans (congrFun (gU_k (by decide)) 0)).trans ((congrFun (congrFun est_43 31) 0).trans (congrFun (gU_k (by decide)) 0))), (((congrFun (congrFun est_51 32) 0).trans (congrFun (gU_k (by decide)) 0)).trans ((congrFun (congrFun est_43 32) 0).trans (congrFun (gU_k (by decide)) 0))), (((congrFun (congrFun est_51 35) 0).trans (congrFun (gU_k (by decide)) 0)).trans ((congrFun (congrFun est_43 35) 0).trans (congrFun (gU_k (by decide)) 0))), (((congrFun (congrFun est_51 36) 0).trans (congrFun (gU_k (by decide)) 0)).trans ((congrFun (congrFun est_43 36) 0).trans (congrFun (gU_k (by decide)) 0)))⟩ ⟨((congrFun (congrFun est_51 22) 0).trans ((congrFun (gU_k (by decide)) 0).trans ((congrFun (congrFun est_43 22) 0).trans ((congrFun (gU_k (by decide)) 0).trans ((funext (fun j9 => hB_sv35.2 22 0 j9 (show (2200 : Nat) ∉ _ from by decide))).trans rfl))))), ((congrFun (congrFun est_51 23) 0).trans ((congrFun (gU_k (by decide)) 0).trans ((congrFun (congrFun est_43 23) 0).trans ((congrFun (gU_k (by decide)) 0).trans ((funext (fun j9 => hB_sv35.2 23 0 j9 (show (2300 : Nat) ∉ _ from by decide))).trans rfl))))), ((congrFun (congrFun est_51 24) 0).trans ((congrFun (gU_k (by decide)) 0).trans ((congrFun (congrFun est_43 24) 0).trans ((congrFun (gU_k (by decide)) 0).trans ((funext (fun j9 => hB_sv35.2 24 0 j9 (show (2400 : Nat) ∉ _ from by decide))).trans rfl))))), ((congrFun (congrFun est_51 25) 0).trans ((congrFun (gU_k (by decide)) 0).trans ((congrFun (congrFun est_43 25) 0).trans ((congrFun (gU_k (by decide)) 0).trans ((funext (fun j9 => hB_sv35.2 25 0 j9 (show (2500 : Nat) ∉ _ from by decide))).trans rfl))))), ((congrFun (congrFun est_51 3) 0).trans ((congrFun (gU_k (by decide)) 0).trans ((congrFun (congrFun est_43 3) 0).trans ((congrFun (gU_k (by decide)) 0).trans ((funext (fun j9 => hB_sv35.2 3 0 j9 (show (300 : Nat) ∉ _ from by decide))).trans rfl))))), ((congrFun (congrFun est_51 2) 0).trans ((congrFun (gU_k (by decide)) 0).trans ((congrFun (congrFun est_43 2) 0).trans ((congrFun (gU_k (by decide)) 0).trans ((funext (fun j9 => hB_sv35.2 2 0 j9 (show (200 : Nat) ∉ _ from by decide))).trans rfl))))), ((congrFun (congrFun est_51 28) 0).trans ((congrFun (gU_k (by decide)) 0).trans ((congrFun (congrFun est_43 28) 0).trans ((congrFun (gU_k (by decide)) 0).trans ((funext (fun j9 => hB_sv35.2 28 0 j9 (show (2800 : Nat) ∉ _ from by decide))).trans rfl))))), ((congrFun (congrFun est_51 6) 0).trans ((congrFun (gU_k (by decide)) 0).trans ((congrFun (congrFun est_43 6) 0).trans ((congrFun (gU_k (by decide)) 0).trans ((funext (fun j9 => hB_sv35.2 6 0 j9 (show (600 : Nat) ∉ _ from by decide))).trans rfl))))), (((congrFun (congrFun (congrFun est_51 0) 0) 7).trans (gU_other (by decide))).trans (((congrFun (congrFun (congrFun est_43 0) 0) 7).trans (congrFun (congrFun (gU_k (by decide)) 0) 7)).trans (hB_sv35.2 0 0 7 (show (7 : Nat) ∉ _ from by decide)))), ((congrFun (congrFun est_51 1) 0).trans ((congrFun (gU_k (by decide)) 0).trans ((congrFun (congrFun est_43 1) 0).trans ((congrFun (gU_k (by decide)) 0).trans ((funext (fun j9 => hB_sv35.2 1 0 j9 (show (100 : Nat) ∉ _ from by decide))).trans rfl)))))⟩ (fun j hj => by rw [show st_51 33 0 = st_43 33 0 from ((congrFun (congrFun est_51 33) 0).trans (congrFun (gU_k (by decide)) 0)), show st_43 33 0 j = sv35 33 0 j from ((congrFun (congrFun (congrFun est_43 33) 0) j).trans (gU_other (by have c_i := gs_cl (x := x_42) (by omega); omega)))]) (((congrFun (congrFun est_51 34) 0).trans (congrFun (gU_k (by decide)) 0)).trans ((congrFun (congrFun est_43 34) 0).trans (congrFun (gU_k (by decide)) 0)))) (congrArg Int32.toInt ((congrFun (congrFun (congrFun est_51 0) 0) 58).trans (gU_same _ _ _ _ _))) (by omega)) ((((congrFun (congrFun est_51 37) 0).trans (congrFun (gU_k (by decide)) 0)).trans ((congrFun (congrFun est_43 37) 0).trans (congrFun (gU_k (by decide)) 0))).trans (r37_9.trans hv25_3)) ((((congrFun (congrFun est_51 38) 0).trans (congrFun (gU_k (by decide)) 0)).trans ((congrFun (congrFun est_43 38) 0).trans (congrFun (gU_k (by decide)) 0))).trans (r38_9.trans hv25_4)) ((((congrFun (congrFun (congrFun est_51 0) 0) 55).trans (gU_other (by decide))).trans ((congrFun (congrFun (congrFun est_43 0) 0) 55).trans (congrFun (congrFun (gU_k (by decide)) 0) 55))).trans (c55_9.trans hv25_5)) ((((congrFun (congrFun (congrFun est_51 0) 0) 56).trans (gU_other (by decide))).trans ((congrFun (congrFun (congrFun est_43 0) 0) 56).trans (congrFun (congrFun (gU_k (by decide)) 0) 56))).trans (c56_9.trans hv25_6)) ((congrArg Int32.toInt ((((congrFun (congrFun (congrFun est_51 0) 0) 0).trans (gU_other (by decide))).trans ((congrFun (congrFun (congrFun est_43 0) 0) 0).trans (congrFun (congrFun (gU_k (by decide)) 0) 0))).trans c0_9)).trans hv25_7) hM hS (lv_sub hl [0, 3, 4, 5] rfl)
          · have ic_53 := gz_nle (rfl : x_52.toInt = x_52.toInt) (rfl : x_42.toInt = x_42.toInt) c_53
            have lc_53 := gi_hi x_52
            refine lv_aload_n hx hb dX10_plan_530 rfl (lv_at hl 3 rfl) ?_
            refine lv_iload_n hx hb dX10_plan_531 rfl (lv_at hl 0 rfl) ?_
            refine lv_iload hx hb dX10_plan_532 (lv_at hl 1 rfl) ?_
            refine lv_iconst (v := 1) hx hb dX10_plan_534 (by decide) ?_
            refine lv_iadd hx hb dX10_plan_535 ?_
            refine lv_topi (fun x_54 ex_54 => ?_)
            try have tx_54 : x_54.toInt = x_34.toInt + 1 := by rw [ex_54]; exact gz_addP (x := x_34.toInt) (y := 1) rfl (by decide) (by omega) (by omega)
            refine gs_callv (va_runV (As := [.int x_42, .int x_54]) (rest := []) ⟨hx, hb, hml, hown, hts⟩ (m_dawn l G cy sK sV ad H.size st_51 hB_st_51.1 x_42 x_54 x_42.toInt x_54.toInt rfl rfl (by first | decide | omega) (by first | decide | omega) (by first | decide | omega) (by first | decide | omega) rs bk ((congrArg Int32.toInt ((((congrFun (congrFun (congrFun est_51 0) 0) 28).trans (gU_other (by decide))).trans (((congrFun (congrFun (congrFun est_43 0) 0) 28).trans (congrFun (congrFun (gU_k (by decide)) 0) 28)).trans (hB_sv35.2 0 0 28 (show (28 : Nat) ∉ _ from by decide)))))).trans hbk) ((congrArg Int32.toInt ((((congrFun (congrFun (congrFun est_51 0) 0) 29).trans (gU_other (by decide))).trans (((congrFun (congrFun (congrFun est_43 0) 0) 29).trans (congrFun (congrFun (gU_k (by decide)) 0) 29)).trans (hB_sv35.2 0 0 29 (show (29 : Nat) ∉ _ from by decide)))))).trans hru) (LM.all hLM (mA.trans (mA.trans (mA.trans mA.rf (mA.frame hB_sv35.2 (by decide))) (mA.upk est_43 (by decide))) (mA.upk est_51 (by decide))))) ⟨(gz_cb (n := 2) hts gm_1273 gm_12 gm_1276 ⟨by decide +kernel, by decide +kernel, by decide +kernel⟩ ⟨Nat.le_of_ble_eq_true rfl, Nat.le_of_ble_eq_true rfl⟩), hts _ gm_1275, hts _ gs_56⟩ (gs_preV hK hov hE hI hM hm hS hA 0 0 (by decide) rfl rfl) rfl rfl hl.1 rfl (lv_room (Nat.le_of_ble_eq_true rfl)) dX10_plan_536 ⟨Nat.le_of_ble_eq_true rfl, Nat.le_of_ble_eq_true rfl⟩) hm hS hA (fun st_55 H locs hw_55 hM hS => ?_)
            obtain ⟨n_55, hw_55⟩ := hw_55
            have hB_st_55 : gBN bM kM [0, 55, 56, 57, 58, 2900, 3000, 3100, 3200, 3300, 3400, 3500, 3600, 3700, 3800] st st_55 := hB_st_51.call n_55 (by decide)
            have hw_55_0 := hw_55
            refine lv_goto (tgt := 195) hx hb dX10_plan_539 (by decide) ?_
            exact ih_25 st_55 (x_42 : Int32) H _ ls (by rw [show st_55 33 0 = (upd (sv35 33 0) (x_42.toNatClampNeg) (0 : Int32)) from ((funext (fun j9 => n_55.2 33 0 j9 (show (3300 : Nat) ∉ _ from by decide))).trans ((congrFun (congrFun est_51 33) 0).trans ((congrFun (gU_k (by decide)) 0).trans ((congrFun (congrFun est_43 33) 0).trans ((gU_at _ _ _ _ _).trans (congrArg (fun f9 => upd f9 (x_42.toNatClampNeg) (0 : Int32)) rfl)))))), e33_9, ← hx9]; exact pMu_u (y := y25_0) (by omega) (by omega) (by omega) (show (0 : Int) ≤ _ ∧ _ ≤ (8 : Int) from hB_sv25.1 33 0 _) (by rw [hx9]; omega) (by omega) hme25) hB_st_55 (by omega) (by omega) (hS9.next (by omega) (hS9.stp3 (by omega) hn9 hG9.ne hG9.mx (show (if X9 = 9 then k9 else k9 + 1) = if X9 = 9 then k9 else k9 + 1 from rfl) hj9 (by have h7 : (0 : Int) ≤ (st 0 0 7).toInt ∧ (st 0 0 7).toInt ≤ (199 : Int) := hB 0 0 7; exact h7) hok (by omega) hd9 (by have h9 := hw_41_0; rw [show x_40.toNatClampNeg = as9.length + 1 by (have c_g := gs_cl (x := x_40) (by omega); omega)] at h9; exact h9) (show ((sv35 0 0 58) : Int32).toInt = if f9 < ((as9.length / 4 + 1 : Nat) : Int) then ((as9.length / 4 + 1 : Nat) : Int) else f9 from (by have hfm9 : (st_43 0 0 58).toInt = f9 := ((congrArg Int32.toInt ((congrFun (congrFun (congrFun est_43 0) 0) 58).trans (congrFun (congrFun (gU_k (by decide)) 0) 58))).trans e58_9); split <;> omega))) (by omega) (by omega) (show (if X9 = 9 then k9 else k9 + 1) = if X9 = 9 then k9 else k9 + 1 from rfl) hG9.mx (show ((sv35 0 0 58) : Int32).toInt = if f9 < ((as9.length / 4 + 1 : Nat) : Int) then ((as9.length / 4 + 1 : Nat) : Int) else f9 from (by have hfm9 : (st_43 0 0 58).toInt = f9 := ((congrArg Int32.toInt ((congrFun (congrFun (congrFun est_43 0) 0) 58).trans (congrFun (congrFun (gU_k (by decide)) 0) 58))).trans e58_9); split <;> omega)) (((jM.fr hj9 ⟨(((congrFun (congrFun est_51 29) 0).trans (congrFun (gU_k (by decide)) 0)).trans ((congrFun (congrFun est_43 29) 0).trans (congrFun (gU_k (by decide)) 0))), (((congrFun (congrFun est_51 30) 0).trans (congrFun (gU_k (by decide)) 0)).trans ((congrFun (congrFun est_43 30) 0).trans (congrFun (gU_k (by decide)) 0))), (((congrFun (congrFun est_51 31) 0).trans (congrFun (gU_k (by decide)) 0)).trans ((congrFun (congrFun est_43 31) 0).trans (congrFun (gU_k (by decide)) 0))), (((congrFun (congrFun est_51 32) 0).trans (congrFun (gU_k (by decide)) 0)).trans ((congrFun (congrFun est_43 32) 0).trans (congrFun (gU_k (by decide)) 0))), (((congrFun (congrFun est_51 35) 0).trans (congrFun (gU_k (by decide)) 0)).trans ((congrFun (congrFun est_43 35) 0).trans (congrFun (gU_k (by decide)) 0))), (((congrFun (congrFun est_51 36) 0).trans (congrFun (gU_k (by decide)) 0)).trans ((congrFun (congrFun est_43 36) 0).trans (congrFun (gU_k (by decide)) 0)))⟩ ⟨((congrFun (congrFun est_51 22) 0).trans ((congrFun (gU_k (by decide)) 0).trans ((congrFun (congrFun est_43 22) 0).trans ((congrFun (gU_k (by decide)) 0).trans ((funext (fun j9 => hB_sv35.2 22 0 j9 (show (2200 : Nat) ∉ _ from by decide))).trans rfl))))), ((congrFun (congrFun est_51 23) 0).trans ((congrFun (gU_k (by decide)) 0).trans ((congrFun (congrFun est_43 23) 0).trans ((congrFun (gU_k (by decide)) 0).trans ((funext (fun j9 => hB_sv35.2 23 0 j9 (show (2300 : Nat) ∉ _ from by decide))).trans rfl))))), ((congrFun (congrFun est_51 24) 0).trans ((congrFun (gU_k (by decide)) 0).trans ((congrFun (congrFun est_43 24) 0).trans ((congrFun (gU_k (by decide)) 0).trans ((funext (fun j9 => hB_sv35.2 24 0 j9 (show (2400 : Nat) ∉ _ from by decide))).trans rfl))))), ((congrFun (congrFun est_51 25) 0).trans ((congrFun (gU_k (by decide)) 0).trans ((congrFun (congrFun est_43 25) 0).trans ((congrFun (gU_k (by decide)) 0).trans ((funext (fun j9 => hB_sv35.2 25 0 j9 (show (2500 : Nat) ∉ _ from by decide))).trans rfl))))), ((congrFun (congrFun est_51 3) 0).trans ((congrFun (gU_k (by decide)) 0).trans ((congrFun (congrFun est_43 3) 0).trans ((congrFun (gU_k (by decide)) 0).trans ((funext (fun j9 => hB_sv35.2 3 0 j9 (show (300 : Nat) ∉ _ from by decide))).trans rfl))))), ((congrFun (congrFun est_51 2) 0).trans ((congrFun (gU_k (by decide)) 0).trans ((congrFun (congrFun est_43 2) 0).trans ((congrFun (gU_k (by decide)) 0).trans ((funext (fun j9 => hB_sv35.2 2 0 j9 (show (200 : Nat) ∉ _ from by decide))).trans rfl))))), ((congrFun (congrFun est_51 28) 0).trans ((congrFun (gU_k (by decide)) 0).trans ((congrFun (congrFun est_43 28) 0).trans ((congrFun (gU_k (by decide)) 0).trans ((funext (fun j9 => hB_sv35.2 28 0 j9 (show (2800 : Nat) ∉ _ from by decide))).trans rfl))))), ((congrFun (congrFun est_51 6) 0).trans ((congrFun (gU_k (by decide)) 0).trans ((congrFun (congrFun est_43 6) 0).trans ((congrFun (gU_k (by decide)) 0).trans ((funext (fun j9 => hB_sv35.2 6 0 j9 (show (600 : Nat) ∉ _ from by decide))).trans rfl))))), (((congrFun (congrFun (congrFun est_51 0) 0) 7).trans (gU_other (by decide))).trans (((congrFun (congrFun (congrFun est_43 0) 0) 7).trans (congrFun (congrFun (gU_k (by decide)) 0) 7)).trans (hB_sv35.2 0 0 7 (show (7 : Nat) ∉ _ from by decide)))), ((congrFun (congrFun est_51 1) 0).trans ((congrFun (gU_k (by decide)) 0).trans ((congrFun (congrFun est_43 1) 0).trans ((congrFun (gU_k (by decide)) 0).trans ((funext (fun j9 => hB_sv35.2 1 0 j9 (show (100 : Nat) ∉ _ from by decide))).trans rfl)))))⟩ (fun j hj => by rw [show st_51 33 0 = st_43 33 0 from ((congrFun (congrFun est_51 33) 0).trans (congrFun (gU_k (by decide)) 0)), show st_43 33 0 j = sv35 33 0 j from ((congrFun (congrFun (congrFun est_43 33) 0) j).trans (gU_other (by have c_i := gs_cl (x := x_42) (by omega); omega)))]) (((congrFun (congrFun est_51 34) 0).trans (congrFun (gU_k (by decide)) 0)).trans ((congrFun (congrFun est_43 34) 0).trans (congrFun (gU_k (by decide)) 0))))).day (y := x_54.toNatClampNeg) hwf hok (by omega) (by have h9 := hw_55_0; rw [show x_42.toNatClampNeg = as9.length + 1 by (have c_a := gs_cl (x := x_42) (by omega); omega)] at h9; exact h9) (by have c_y := gs_cl (x := x_54) (by omega); have h9 : (st_51 0 0 7).toInt = (st 0 0 7).toInt := congrArg Int32.toInt (((congrFun (congrFun (congrFun est_51 0) 0) 7).trans (gU_other (by decide))).trans (((congrFun (congrFun (congrFun est_43 0) 0) 7).trans (congrFun (congrFun (gU_k (by decide)) 0) 7)).trans (hB_sv35.2 0 0 7 (show (7 : Nat) ∉ _ from by decide)))); omega) (by have c_y := gs_cl (x := x_54) (by omega); omega) (funext fun j9 => n_55.2 30 0 j9 (show (3000 : Nat) ∉ _ from by decide)) (funext fun j9 => n_55.2 31 0 j9 (show (3100 : Nat) ∉ _ from by decide)) (funext fun j9 => n_55.2 32 0 j9 (show (3200 : Nat) ∉ _ from by decide)) (funext fun j9 => n_55.2 33 0 j9 (show (3300 : Nat) ∉ _ from by decide)) (funext fun j9 => n_55.2 34 0 j9 (show (3400 : Nat) ∉ _ from by decide))) (by rw [show st_55 33 0 = st_43 33 0 from ((funext fun j9 => n_55.2 33 0 j9 (show (3300 : Nat) ∉ _ from by decide)).trans ((congrFun (congrFun est_51 33) 0).trans (congrFun (gU_k (by decide)) 0))), show as9.length + 1 = x_42.toNatClampNeg by (have c_i := gs_cl (x := x_42) (by omega); omega), show st_43 33 0 x_42.toNatClampNeg = 0 from ((congrFun (congrFun (congrFun est_43 33) 0) _).trans (gU_same _ _ _ _ _))]; decide) ((congrArg Int32.toInt ((n_55.2 0 0 57 (show (57 : Nat) ∉ _ from by decide)).trans (((congrFun (congrFun (congrFun est_51 0) 0) 57).trans (gU_other (by decide))).trans ((congrFun (congrFun (congrFun est_43 0) 0) 57).trans (congrFun (congrFun (gU_k (by decide)) 0) 57))))).trans hG9.e57) (congrArg Int32.toInt ((n_55.2 0 0 58 (show (58 : Nat) ∉ _ from by decide)).trans ((congrFun (congrFun (congrFun est_51 0) 0) 58).trans (gU_same _ _ _ _ _)))) ⟨((funext (fun j9 => n_55.2 22 0 j9 (show (2200 : Nat) ∉ _ from by decide))).trans ((congrFun (congrFun est_51 22) 0).trans ((congrFun (gU_k (by decide)) 0).trans ((congrFun (congrFun est_43 22) 0).trans ((congrFun (gU_k (by decide)) 0).trans ((funext (fun j9 => hB_sv35.2 22 0 j9 (show (2200 : Nat) ∉ _ from by decide))).trans rfl)))))), ((funext (fun j9 => n_55.2 23 0 j9 (show (2300 : Nat) ∉ _ from by decide))).trans ((congrFun (congrFun est_51 23) 0).trans ((congrFun (gU_k (by decide)) 0).trans ((congrFun (congrFun est_43 23) 0).trans ((congrFun (gU_k (by decide)) 0).trans ((funext (fun j9 => hB_sv35.2 23 0 j9 (show (2300 : Nat) ∉ _ from by decide))).trans rfl)))))), ((funext (fun j9 => n_55.2 24 0 j9 (show (2400 : Nat) ∉ _ from by decide))).trans ((congrFun (congrFun est_51 24) 0).trans ((congrFun (gU_k (by decide)) 0).trans ((congrFun (congrFun est_43 24) 0).trans ((congrFun (gU_k (by decide)) 0).trans ((funext (fun j9 => hB_sv35.2 24 0 j9 (show (2400 : Nat) ∉ _ from by decide))).trans rfl)))))), ((funext (fun j9 => n_55.2 25 0 j9 (show (2500 : Nat) ∉ _ from by decide))).trans ((congrFun (congrFun est_51 25) 0).trans ((congrFun (gU_k (by decide)) 0).trans ((congrFun (congrFun est_43 25) 0).trans ((congrFun (gU_k (by decide)) 0).trans ((funext (fun j9 => hB_sv35.2 25 0 j9 (show (2500 : Nat) ∉ _ from by decide))).trans rfl)))))), ((funext (fun j9 => n_55.2 3 0 j9 (show (300 : Nat) ∉ _ from by decide))).trans ((congrFun (congrFun est_51 3) 0).trans ((congrFun (gU_k (by decide)) 0).trans ((congrFun (congrFun est_43 3) 0).trans ((congrFun (gU_k (by decide)) 0).trans ((funext (fun j9 => hB_sv35.2 3 0 j9 (show (300 : Nat) ∉ _ from by decide))).trans rfl)))))), ((funext (fun j9 => n_55.2 2 0 j9 (show (200 : Nat) ∉ _ from by decide))).trans ((congrFun (congrFun est_51 2) 0).trans ((congrFun (gU_k (by decide)) 0).trans ((congrFun (congrFun est_43 2) 0).trans ((congrFun (gU_k (by decide)) 0).trans ((funext (fun j9 => hB_sv35.2 2 0 j9 (show (200 : Nat) ∉ _ from by decide))).trans rfl)))))), ((funext (fun j9 => n_55.2 28 0 j9 (show (2800 : Nat) ∉ _ from by decide))).trans ((congrFun (congrFun est_51 28) 0).trans ((congrFun (gU_k (by decide)) 0).trans ((congrFun (congrFun est_43 28) 0).trans ((congrFun (gU_k (by decide)) 0).trans ((funext (fun j9 => hB_sv35.2 28 0 j9 (show (2800 : Nat) ∉ _ from by decide))).trans rfl)))))), ((funext (fun j9 => n_55.2 6 0 j9 (show (600 : Nat) ∉ _ from by decide))).trans ((congrFun (congrFun est_51 6) 0).trans ((congrFun (gU_k (by decide)) 0).trans ((congrFun (congrFun est_43 6) 0).trans ((congrFun (gU_k (by decide)) 0).trans ((funext (fun j9 => hB_sv35.2 6 0 j9 (show (600 : Nat) ∉ _ from by decide))).trans rfl)))))), ((n_55.2 0 0 7 (show (7 : Nat) ∉ _ from by decide)).trans (((congrFun (congrFun (congrFun est_51 0) 0) 7).trans (gU_other (by decide))).trans (((congrFun (congrFun (congrFun est_43 0) 0) 7).trans (congrFun (congrFun (gU_k (by decide)) 0) 7)).trans (hB_sv35.2 0 0 7 (show (7 : Nat) ∉ _ from by decide))))), ((funext (fun j9 => n_55.2 1 0 j9 (show (100 : Nat) ∉ _ from by decide))).trans ((congrFun (congrFun est_51 1) 0).trans ((congrFun (gU_k (by decide)) 0).trans ((congrFun (congrFun est_43 1) 0).trans ((congrFun (gU_k (by decide)) 0).trans ((funext (fun j9 => hB_sv35.2 1 0 j9 (show (100 : Nat) ∉ _ from by decide))).trans rfl))))))⟩ (by omega)) (((funext fun j9 => n_55.2 37 0 j9 (show (3700 : Nat) ∉ _ from by decide)).trans (((congrFun (congrFun est_51 37) 0).trans (congrFun (gU_k (by decide)) 0)).trans ((congrFun (congrFun est_43 37) 0).trans (congrFun (gU_k (by decide)) 0)))).trans (r37_9.trans hv25_3)) (((funext fun j9 => n_55.2 38 0 j9 (show (3800 : Nat) ∉ _ from by decide)).trans (((congrFun (congrFun est_51 38) 0).trans (congrFun (gU_k (by decide)) 0)).trans ((congrFun (congrFun est_43 38) 0).trans (congrFun (gU_k (by decide)) 0)))).trans (r38_9.trans hv25_4)) (((n_55.2 0 0 55 (show (55 : Nat) ∉ _ from by decide)).trans (((congrFun (congrFun (congrFun est_51 0) 0) 55).trans (gU_other (by decide))).trans ((congrFun (congrFun (congrFun est_43 0) 0) 55).trans (congrFun (congrFun (gU_k (by decide)) 0) 55)))).trans (c55_9.trans hv25_5)) (((n_55.2 0 0 56 (show (56 : Nat) ∉ _ from by decide)).trans (((congrFun (congrFun (congrFun est_51 0) 0) 56).trans (gU_other (by decide))).trans ((congrFun (congrFun (congrFun est_43 0) 0) 56).trans (congrFun (congrFun (gU_k (by decide)) 0) 56)))).trans (c56_9.trans hv25_6)) ((congrArg Int32.toInt (((n_55.2 0 0 0 (show (0 : Nat) ∉ _ from by decide)).trans (((congrFun (congrFun (congrFun est_51 0) 0) 0).trans (gU_other (by decide))).trans ((congrFun (congrFun (congrFun est_43 0) 0) 0).trans (congrFun (congrFun (gU_k (by decide)) 0) 0)))).trans c0_9)).trans hv25_7) hM hS (lv_sub hl [0, 3, 4, 5] rfl)
        · have ic_48 := gz_nle (rfl : x_45.toInt = x_45.toInt) (rfl : (sv35 0 0 58).toInt = (sv35 0 0 58).toInt) c_48
          have lc_48 := gi_hi x_45
          refine lv_iload_n hx hb dX10_plan_510 rfl (lv_at hl 0 rfl) ?_
          refine lv_iconst (v := 4) hx hb dX10_plan_511 (by decide) ?_
          refine lv_idiv hx hb dX10_plan_512 (by decide) ?_
          refine lv_topi (fun x_56 ex_56 => ?_)
          try have tx_56 := gs_div2 (y := 4) (by decide) (show 0 ≤ x_42.toInt from by omega) (by omega) ex_56
          refine lv_goto (tgt := 520) hx hb dX10_plan_513 (by decide) ?_
          refine gs_put (C := RX10) (T := TX10) (N := 59) (ty := .int) (val := .int x_56) hx hb hts inX10 tyX10 tyX10_ok nmX10 hown hK hI hm hM hS 0 0 58 (by decide) rfl rfl (by decide) (hts _ gm_955) (fun _ h9 => h9) rfl (x_56 : Int32) rfl (by decide +kernel) rfl rfl (Nat.le_of_ble_eq_true rfl) dX10_plan_520 (fun st_57 H locs est_57 hM hS => ?_)
          have hB_st_57 : gBN bM kM [0, 55, 56, 57, 58, 2900, 3000, 3100, 3200, 3300, 3400, 3500, 3600, 3700, 3800] st st_57 := by rw [est_57]; exact hB_st_43.up (show (58 : Nat) ∈ _ from by decide) (gi_lo _) (gi_hi _)
          refine lv_iload_n hx hb dX10_plan_523 rfl (lv_at hl 0 rfl) ?_
          refine lv_iconst (v := 4) hx hb dX10_plan_524 (by decide) ?_
          refine lv_iload_n hx hb dX10_plan_525 rfl (lv_at hl 4 rfl) ?_
          refine lv_imul hx hb dX10_plan_526 ?_
          refine lv_topi (fun x_58 ex_58 => ?_)
          try have tx_58 : x_58.toInt = 4 * x.toInt := by rw [ex_58]; exact gz_mulI (x := 4) (y := x.toInt) (by decide) rfl (by omega) (by omega)
          refine lv_icmp_ge (tgt := 539) hx hb dX10_plan_527 (by decide) (fun c_59 => ?_) (fun c_59 => ?_)
          · have ic_59 := gz_le (rfl : x_58.toInt = x_58.toInt) (rfl : x_42.toInt = x_42.toInt) c_59
            refine lv_goto (tgt := 195) hx hb dX10_plan_539 (by decide) ?_
            exact ih_25 st_57 (x_42 : Int32) H _ ls (by rw [show st_57 33 0 = (upd (sv35 33 0) (x_42.toNatClampNeg) (0 : Int32)) from ((congrFun (congrFun est_57 33) 0).trans ((congrFun (gU_k (by decide)) 0).trans ((congrFun (congrFun est_43 33) 0).trans ((gU_at _ _ _ _ _).trans (congrArg (fun f9 => upd f9 (x_42.toNatClampNeg) (0 : Int32)) rfl))))), e33_9, ← hx9]; exact pMu_u (y := y25_0) (by omega) (by omega) (by omega) (show (0 : Int) ≤ _ ∧ _ ≤ (8 : Int) from hB_sv25.1 33 0 _) (by rw [hx9]; omega) (by omega) hme25) hB_st_57 (by omega) (by omega) (hS9.found (hS9.stp3 (by omega) hn9 hG9.ne hG9.mx (show (if X9 = 9 then k9 else k9 + 1) = if X9 = 9 then k9 else k9 + 1 from rfl) hj9 (by have h7 : (0 : Int) ≤ (st 0 0 7).toInt ∧ (st 0 0 7).toInt ≤ (199 : Int) := hB 0 0 7; exact h7) hok (by omega) hd9 (by have h9 := hw_41_0; rw [show x_40.toNatClampNeg = as9.length + 1 by (have c_g := gs_cl (x := x_40) (by omega); omega)] at h9; exact h9) (show (x_56 : Int32).toInt = if f9 < ((as9.length / 4 + 1 : Nat) : Int) then ((as9.length / 4 + 1 : Nat) : Int) else f9 from (by have hfm9 : (st_43 0 0 58).toInt = f9 := ((congrArg Int32.toInt ((congrFun (congrFun (congrFun est_43 0) 0) 58).trans (congrFun (congrFun (gU_k (by decide)) 0) 58))).trans e58_9); split <;> omega))) (by omega) (by omega) (jM.fr hj9 ⟨(((congrFun (congrFun est_57 29) 0).trans (congrFun (gU_k (by decide)) 0)).trans ((congrFun (congrFun est_43 29) 0).trans (congrFun (gU_k (by decide)) 0))), (((congrFun (congrFun est_57 30) 0).trans (congrFun (gU_k (by decide)) 0)).trans ((congrFun (congrFun est_43 30) 0).trans (congrFun (gU_k (by decide)) 0))), (((congrFun (congrFun est_57 31) 0).trans (congrFun (gU_k (by decide)) 0)).trans ((congrFun (congrFun est_43 31) 0).trans (congrFun (gU_k (by decide)) 0))), (((congrFun (congrFun est_57 32) 0).trans (congrFun (gU_k (by decide)) 0)).trans ((congrFun (congrFun est_43 32) 0).trans (congrFun (gU_k (by decide)) 0))), (((congrFun (congrFun est_57 35) 0).trans (congrFun (gU_k (by decide)) 0)).trans ((congrFun (congrFun est_43 35) 0).trans (congrFun (gU_k (by decide)) 0))), (((congrFun (congrFun est_57 36) 0).trans (congrFun (gU_k (by decide)) 0)).trans ((congrFun (congrFun est_43 36) 0).trans (congrFun (gU_k (by decide)) 0)))⟩ ⟨((congrFun (congrFun est_57 22) 0).trans ((congrFun (gU_k (by decide)) 0).trans ((congrFun (congrFun est_43 22) 0).trans ((congrFun (gU_k (by decide)) 0).trans ((funext (fun j9 => hB_sv35.2 22 0 j9 (show (2200 : Nat) ∉ _ from by decide))).trans rfl))))), ((congrFun (congrFun est_57 23) 0).trans ((congrFun (gU_k (by decide)) 0).trans ((congrFun (congrFun est_43 23) 0).trans ((congrFun (gU_k (by decide)) 0).trans ((funext (fun j9 => hB_sv35.2 23 0 j9 (show (2300 : Nat) ∉ _ from by decide))).trans rfl))))), ((congrFun (congrFun est_57 24) 0).trans ((congrFun (gU_k (by decide)) 0).trans ((congrFun (congrFun est_43 24) 0).trans ((congrFun (gU_k (by decide)) 0).trans ((funext (fun j9 => hB_sv35.2 24 0 j9 (show (2400 : Nat) ∉ _ from by decide))).trans rfl))))), ((congrFun (congrFun est_57 25) 0).trans ((congrFun (gU_k (by decide)) 0).trans ((congrFun (congrFun est_43 25) 0).trans ((congrFun (gU_k (by decide)) 0).trans ((funext (fun j9 => hB_sv35.2 25 0 j9 (show (2500 : Nat) ∉ _ from by decide))).trans rfl))))), ((congrFun (congrFun est_57 3) 0).trans ((congrFun (gU_k (by decide)) 0).trans ((congrFun (congrFun est_43 3) 0).trans ((congrFun (gU_k (by decide)) 0).trans ((funext (fun j9 => hB_sv35.2 3 0 j9 (show (300 : Nat) ∉ _ from by decide))).trans rfl))))), ((congrFun (congrFun est_57 2) 0).trans ((congrFun (gU_k (by decide)) 0).trans ((congrFun (congrFun est_43 2) 0).trans ((congrFun (gU_k (by decide)) 0).trans ((funext (fun j9 => hB_sv35.2 2 0 j9 (show (200 : Nat) ∉ _ from by decide))).trans rfl))))), ((congrFun (congrFun est_57 28) 0).trans ((congrFun (gU_k (by decide)) 0).trans ((congrFun (congrFun est_43 28) 0).trans ((congrFun (gU_k (by decide)) 0).trans ((funext (fun j9 => hB_sv35.2 28 0 j9 (show (2800 : Nat) ∉ _ from by decide))).trans rfl))))), ((congrFun (congrFun est_57 6) 0).trans ((congrFun (gU_k (by decide)) 0).trans ((congrFun (congrFun est_43 6) 0).trans ((congrFun (gU_k (by decide)) 0).trans ((funext (fun j9 => hB_sv35.2 6 0 j9 (show (600 : Nat) ∉ _ from by decide))).trans rfl))))), (((congrFun (congrFun (congrFun est_57 0) 0) 7).trans (gU_other (by decide))).trans (((congrFun (congrFun (congrFun est_43 0) 0) 7).trans (congrFun (congrFun (gU_k (by decide)) 0) 7)).trans (hB_sv35.2 0 0 7 (show (7 : Nat) ∉ _ from by decide)))), ((congrFun (congrFun est_57 1) 0).trans ((congrFun (gU_k (by decide)) 0).trans ((congrFun (congrFun est_43 1) 0).trans ((congrFun (gU_k (by decide)) 0).trans ((funext (fun j9 => hB_sv35.2 1 0 j9 (show (100 : Nat) ∉ _ from by decide))).trans rfl)))))⟩ (fun j hj => by rw [show st_57 33 0 = st_43 33 0 from ((congrFun (congrFun est_57 33) 0).trans (congrFun (gU_k (by decide)) 0)), show st_43 33 0 j = sv35 33 0 j from ((congrFun (congrFun (congrFun est_43 33) 0) j).trans (gU_other (by have c_i := gs_cl (x := x_42) (by omega); omega)))]) (((congrFun (congrFun est_57 34) 0).trans (congrFun (gU_k (by decide)) 0)).trans ((congrFun (congrFun est_43 34) 0).trans (congrFun (gU_k (by decide)) 0)))) (congrArg Int32.toInt ((congrFun (congrFun (congrFun est_57 0) 0) 58).trans (gU_same _ _ _ _ _))) (by omega)) ((((congrFun (congrFun est_57 37) 0).trans (congrFun (gU_k (by decide)) 0)).trans ((congrFun (congrFun est_43 37) 0).trans (congrFun (gU_k (by decide)) 0))).trans (r37_9.trans hv25_3)) ((((congrFun (congrFun est_57 38) 0).trans (congrFun (gU_k (by decide)) 0)).trans ((congrFun (congrFun est_43 38) 0).trans (congrFun (gU_k (by decide)) 0))).trans (r38_9.trans hv25_4)) ((((congrFun (congrFun (congrFun est_57 0) 0) 55).trans (gU_other (by decide))).trans ((congrFun (congrFun (congrFun est_43 0) 0) 55).trans (congrFun (congrFun (gU_k (by decide)) 0) 55))).trans (c55_9.trans hv25_5)) ((((congrFun (congrFun (congrFun est_57 0) 0) 56).trans (gU_other (by decide))).trans ((congrFun (congrFun (congrFun est_43 0) 0) 56).trans (congrFun (congrFun (gU_k (by decide)) 0) 56))).trans (c56_9.trans hv25_6)) ((congrArg Int32.toInt ((((congrFun (congrFun (congrFun est_57 0) 0) 0).trans (gU_other (by decide))).trans ((congrFun (congrFun (congrFun est_43 0) 0) 0).trans (congrFun (congrFun (gU_k (by decide)) 0) 0))).trans c0_9)).trans hv25_7) hM hS (lv_sub hl [0, 3, 4, 5] rfl)
          · have ic_59 := gz_nle (rfl : x_58.toInt = x_58.toInt) (rfl : x_42.toInt = x_42.toInt) c_59
            have lc_59 := gi_hi x_58
            refine lv_aload_n hx hb dX10_plan_530 rfl (lv_at hl 3 rfl) ?_
            refine lv_iload_n hx hb dX10_plan_531 rfl (lv_at hl 0 rfl) ?_
            refine lv_iload hx hb dX10_plan_532 (lv_at hl 1 rfl) ?_
            refine lv_iconst (v := 1) hx hb dX10_plan_534 (by decide) ?_
            refine lv_iadd hx hb dX10_plan_535 ?_
            refine lv_topi (fun x_60 ex_60 => ?_)
            try have tx_60 : x_60.toInt = x_34.toInt + 1 := by rw [ex_60]; exact gz_addP (x := x_34.toInt) (y := 1) rfl (by decide) (by omega) (by omega)
            refine gs_callv (va_runV (As := [.int x_42, .int x_60]) (rest := []) ⟨hx, hb, hml, hown, hts⟩ (m_dawn l G cy sK sV ad H.size st_57 hB_st_57.1 x_42 x_60 x_42.toInt x_60.toInt rfl rfl (by first | decide | omega) (by first | decide | omega) (by first | decide | omega) (by first | decide | omega) rs bk ((congrArg Int32.toInt ((((congrFun (congrFun (congrFun est_57 0) 0) 28).trans (gU_other (by decide))).trans (((congrFun (congrFun (congrFun est_43 0) 0) 28).trans (congrFun (congrFun (gU_k (by decide)) 0) 28)).trans (hB_sv35.2 0 0 28 (show (28 : Nat) ∉ _ from by decide)))))).trans hbk) ((congrArg Int32.toInt ((((congrFun (congrFun (congrFun est_57 0) 0) 29).trans (gU_other (by decide))).trans (((congrFun (congrFun (congrFun est_43 0) 0) 29).trans (congrFun (congrFun (gU_k (by decide)) 0) 29)).trans (hB_sv35.2 0 0 29 (show (29 : Nat) ∉ _ from by decide)))))).trans hru) (LM.all hLM (mA.trans (mA.trans (mA.trans mA.rf (mA.frame hB_sv35.2 (by decide))) (mA.upk est_43 (by decide))) (mA.upk est_57 (by decide))))) ⟨(gz_cb (n := 2) hts gm_1273 gm_12 gm_1276 ⟨by decide +kernel, by decide +kernel, by decide +kernel⟩ ⟨Nat.le_of_ble_eq_true rfl, Nat.le_of_ble_eq_true rfl⟩), hts _ gm_1275, hts _ gs_56⟩ (gs_preV hK hov hE hI hM hm hS hA 0 0 (by decide) rfl rfl) rfl rfl hl.1 rfl (lv_room (Nat.le_of_ble_eq_true rfl)) dX10_plan_536 ⟨Nat.le_of_ble_eq_true rfl, Nat.le_of_ble_eq_true rfl⟩) hm hS hA (fun st_61 H locs hw_61 hM hS => ?_)
            obtain ⟨n_61, hw_61⟩ := hw_61
            have hB_st_61 : gBN bM kM [0, 55, 56, 57, 58, 2900, 3000, 3100, 3200, 3300, 3400, 3500, 3600, 3700, 3800] st st_61 := hB_st_57.call n_61 (by decide)
            have hw_61_0 := hw_61
            refine lv_goto (tgt := 195) hx hb dX10_plan_539 (by decide) ?_
            exact ih_25 st_61 (x_42 : Int32) H _ ls (by rw [show st_61 33 0 = (upd (sv35 33 0) (x_42.toNatClampNeg) (0 : Int32)) from ((funext (fun j9 => n_61.2 33 0 j9 (show (3300 : Nat) ∉ _ from by decide))).trans ((congrFun (congrFun est_57 33) 0).trans ((congrFun (gU_k (by decide)) 0).trans ((congrFun (congrFun est_43 33) 0).trans ((gU_at _ _ _ _ _).trans (congrArg (fun f9 => upd f9 (x_42.toNatClampNeg) (0 : Int32)) rfl)))))), e33_9, ← hx9]; exact pMu_u (y := y25_0) (by omega) (by omega) (by omega) (show (0 : Int) ≤ _ ∧ _ ≤ (8 : Int) from hB_sv25.1 33 0 _) (by rw [hx9]; omega) (by omega) hme25) hB_st_61 (by omega) (by omega) (hS9.next (by omega) (hS9.stp3 (by omega) hn9 hG9.ne hG9.mx (show (if X9 = 9 then k9 else k9 + 1) = if X9 = 9 then k9 else k9 + 1 from rfl) hj9 (by have h7 : (0 : Int) ≤ (st 0 0 7).toInt ∧ (st 0 0 7).toInt ≤ (199 : Int) := hB 0 0 7; exact h7) hok (by omega) hd9 (by have h9 := hw_41_0; rw [show x_40.toNatClampNeg = as9.length + 1 by (have c_g := gs_cl (x := x_40) (by omega); omega)] at h9; exact h9) (show (x_56 : Int32).toInt = if f9 < ((as9.length / 4 + 1 : Nat) : Int) then ((as9.length / 4 + 1 : Nat) : Int) else f9 from (by have hfm9 : (st_43 0 0 58).toInt = f9 := ((congrArg Int32.toInt ((congrFun (congrFun (congrFun est_43 0) 0) 58).trans (congrFun (congrFun (gU_k (by decide)) 0) 58))).trans e58_9); split <;> omega))) (by omega) (by omega) (show (if X9 = 9 then k9 else k9 + 1) = if X9 = 9 then k9 else k9 + 1 from rfl) hG9.mx (show (x_56 : Int32).toInt = if f9 < ((as9.length / 4 + 1 : Nat) : Int) then ((as9.length / 4 + 1 : Nat) : Int) else f9 from (by have hfm9 : (st_43 0 0 58).toInt = f9 := ((congrArg Int32.toInt ((congrFun (congrFun (congrFun est_43 0) 0) 58).trans (congrFun (congrFun (gU_k (by decide)) 0) 58))).trans e58_9); split <;> omega)) (((jM.fr hj9 ⟨(((congrFun (congrFun est_57 29) 0).trans (congrFun (gU_k (by decide)) 0)).trans ((congrFun (congrFun est_43 29) 0).trans (congrFun (gU_k (by decide)) 0))), (((congrFun (congrFun est_57 30) 0).trans (congrFun (gU_k (by decide)) 0)).trans ((congrFun (congrFun est_43 30) 0).trans (congrFun (gU_k (by decide)) 0))), (((congrFun (congrFun est_57 31) 0).trans (congrFun (gU_k (by decide)) 0)).trans ((congrFun (congrFun est_43 31) 0).trans (congrFun (gU_k (by decide)) 0))), (((congrFun (congrFun est_57 32) 0).trans (congrFun (gU_k (by decide)) 0)).trans ((congrFun (congrFun est_43 32) 0).trans (congrFun (gU_k (by decide)) 0))), (((congrFun (congrFun est_57 35) 0).trans (congrFun (gU_k (by decide)) 0)).trans ((congrFun (congrFun est_43 35) 0).trans (congrFun (gU_k (by decide)) 0))), (((congrFun (congrFun est_57 36) 0).trans (congrFun (gU_k (by decide)) 0)).trans ((congrFun (congrFun est_43 36) 0).trans (congrFun (gU_k (by decide)) 0)))⟩ ⟨((congrFun (congrFun est_57 22) 0).trans ((congrFun (gU_k (by decide)) 0).trans ((congrFun (congrFun est_43 22) 0).trans ((congrFun (gU_k (by decide)) 0).trans ((funext (fun j9 => hB_sv35.2 22 0 j9 (show (2200 : Nat) ∉ _ from by decide))).trans rfl))))), ((congrFun (congrFun est_57 23) 0).trans ((congrFun (gU_k (by decide)) 0).trans ((congrFun (congrFun est_43 23) 0).trans ((congrFun (gU_k (by decide)) 0).trans ((funext (fun j9 => hB_sv35.2 23 0 j9 (show (2300 : Nat) ∉ _ from by decide))).trans rfl))))), ((congrFun (congrFun est_57 24) 0).trans ((congrFun (gU_k (by decide)) 0).trans ((congrFun (congrFun est_43 24) 0).trans ((congrFun (gU_k (by decide)) 0).trans ((funext (fun j9 => hB_sv35.2 24 0 j9 (show (2400 : Nat) ∉ _ from by decide))).trans rfl))))), ((congrFun (congrFun est_57 25) 0).trans ((congrFun (gU_k (by decide)) 0).trans ((congrFun (congrFun est_43 25) 0).trans ((congrFun (gU_k (by decide)) 0).trans ((funext (fun j9 => hB_sv35.2 25 0 j9 (show (2500 : Nat) ∉ _ from by decide))).trans rfl))))), ((congrFun (congrFun est_57 3) 0).trans ((congrFun (gU_k (by decide)) 0).trans ((congrFun (congrFun est_43 3) 0).trans ((congrFun (gU_k (by decide)) 0).trans ((funext (fun j9 => hB_sv35.2 3 0 j9 (show (300 : Nat) ∉ _ from by decide))).trans rfl))))), ((congrFun (congrFun est_57 2) 0).trans ((congrFun (gU_k (by decide)) 0).trans ((congrFun (congrFun est_43 2) 0).trans ((congrFun (gU_k (by decide)) 0).trans ((funext (fun j9 => hB_sv35.2 2 0 j9 (show (200 : Nat) ∉ _ from by decide))).trans rfl))))), ((congrFun (congrFun est_57 28) 0).trans ((congrFun (gU_k (by decide)) 0).trans ((congrFun (congrFun est_43 28) 0).trans ((congrFun (gU_k (by decide)) 0).trans ((funext (fun j9 => hB_sv35.2 28 0 j9 (show (2800 : Nat) ∉ _ from by decide))).trans rfl))))), ((congrFun (congrFun est_57 6) 0).trans ((congrFun (gU_k (by decide)) 0).trans ((congrFun (congrFun est_43 6) 0).trans ((congrFun (gU_k (by decide)) 0).trans ((funext (fun j9 => hB_sv35.2 6 0 j9 (show (600 : Nat) ∉ _ from by decide))).trans rfl))))), (((congrFun (congrFun (congrFun est_57 0) 0) 7).trans (gU_other (by decide))).trans (((congrFun (congrFun (congrFun est_43 0) 0) 7).trans (congrFun (congrFun (gU_k (by decide)) 0) 7)).trans (hB_sv35.2 0 0 7 (show (7 : Nat) ∉ _ from by decide)))), ((congrFun (congrFun est_57 1) 0).trans ((congrFun (gU_k (by decide)) 0).trans ((congrFun (congrFun est_43 1) 0).trans ((congrFun (gU_k (by decide)) 0).trans ((funext (fun j9 => hB_sv35.2 1 0 j9 (show (100 : Nat) ∉ _ from by decide))).trans rfl)))))⟩ (fun j hj => by rw [show st_57 33 0 = st_43 33 0 from ((congrFun (congrFun est_57 33) 0).trans (congrFun (gU_k (by decide)) 0)), show st_43 33 0 j = sv35 33 0 j from ((congrFun (congrFun (congrFun est_43 33) 0) j).trans (gU_other (by have c_i := gs_cl (x := x_42) (by omega); omega)))]) (((congrFun (congrFun est_57 34) 0).trans (congrFun (gU_k (by decide)) 0)).trans ((congrFun (congrFun est_43 34) 0).trans (congrFun (gU_k (by decide)) 0))))).day (y := x_60.toNatClampNeg) hwf hok (by omega) (by have h9 := hw_61_0; rw [show x_42.toNatClampNeg = as9.length + 1 by (have c_a := gs_cl (x := x_42) (by omega); omega)] at h9; exact h9) (by have c_y := gs_cl (x := x_60) (by omega); have h9 : (st_57 0 0 7).toInt = (st 0 0 7).toInt := congrArg Int32.toInt (((congrFun (congrFun (congrFun est_57 0) 0) 7).trans (gU_other (by decide))).trans (((congrFun (congrFun (congrFun est_43 0) 0) 7).trans (congrFun (congrFun (gU_k (by decide)) 0) 7)).trans (hB_sv35.2 0 0 7 (show (7 : Nat) ∉ _ from by decide)))); omega) (by have c_y := gs_cl (x := x_60) (by omega); omega) (funext fun j9 => n_61.2 30 0 j9 (show (3000 : Nat) ∉ _ from by decide)) (funext fun j9 => n_61.2 31 0 j9 (show (3100 : Nat) ∉ _ from by decide)) (funext fun j9 => n_61.2 32 0 j9 (show (3200 : Nat) ∉ _ from by decide)) (funext fun j9 => n_61.2 33 0 j9 (show (3300 : Nat) ∉ _ from by decide)) (funext fun j9 => n_61.2 34 0 j9 (show (3400 : Nat) ∉ _ from by decide))) (by rw [show st_61 33 0 = st_43 33 0 from ((funext fun j9 => n_61.2 33 0 j9 (show (3300 : Nat) ∉ _ from by decide)).trans ((congrFun (congrFun est_57 33) 0).trans (congrFun (gU_k (by decide)) 0))), show as9.length + 1 = x_42.toNatClampNeg by (have c_i := gs_cl (x := x_42) (by omega); omega), show st_43 33 0 x_42.toNatClampNeg = 0 from ((congrFun (congrFun (congrFun est_43 33) 0) _).trans (gU_same _ _ _ _ _))]; decide) ((congrArg Int32.toInt ((n_61.2 0 0 57 (show (57 : Nat) ∉ _ from by decide)).trans (((congrFun (congrFun (congrFun est_57 0) 0) 57).trans (gU_other (by decide))).trans ((congrFun (congrFun (congrFun est_43 0) 0) 57).trans (congrFun (congrFun (gU_k (by decide)) 0) 57))))).trans hG9.e57) (congrArg Int32.toInt ((n_61.2 0 0 58 (show (58 : Nat) ∉ _ from by decide)).trans ((congrFun (congrFun (congrFun est_57 0) 0) 58).trans (gU_same _ _ _ _ _)))) ⟨((funext (fun j9 => n_61.2 22 0 j9 (show (2200 : Nat) ∉ _ from by decide))).trans ((congrFun (congrFun est_57 22) 0).trans ((congrFun (gU_k (by decide)) 0).trans ((congrFun (congrFun est_43 22) 0).trans ((congrFun (gU_k (by decide)) 0).trans ((funext (fun j9 => hB_sv35.2 22 0 j9 (show (2200 : Nat) ∉ _ from by decide))).trans rfl)))))), ((funext (fun j9 => n_61.2 23 0 j9 (show (2300 : Nat) ∉ _ from by decide))).trans ((congrFun (congrFun est_57 23) 0).trans ((congrFun (gU_k (by decide)) 0).trans ((congrFun (congrFun est_43 23) 0).trans ((congrFun (gU_k (by decide)) 0).trans ((funext (fun j9 => hB_sv35.2 23 0 j9 (show (2300 : Nat) ∉ _ from by decide))).trans rfl)))))), ((funext (fun j9 => n_61.2 24 0 j9 (show (2400 : Nat) ∉ _ from by decide))).trans ((congrFun (congrFun est_57 24) 0).trans ((congrFun (gU_k (by decide)) 0).trans ((congrFun (congrFun est_43 24) 0).trans ((congrFun (gU_k (by decide)) 0).trans ((funext (fun j9 => hB_sv35.2 24 0 j9 (show (2400 : Nat) ∉ _ from by decide))).trans rfl)))))), ((funext (fun j9 => n_61.2 25 0 j9 (show (2500 : Nat) ∉ _ from by decide))).trans ((congrFun (congrFun est_57 25) 0).trans ((congrFun (gU_k (by decide)) 0).trans ((congrFun (congrFun est_43 25) 0).trans ((congrFun (gU_k (by decide)) 0).trans ((funext (fun j9 => hB_sv35.2 25 0 j9 (show (2500 : Nat) ∉ _ from by decide))).trans rfl)))))), ((funext (fun j9 => n_61.2 3 0 j9 (show (300 : Nat) ∉ _ from by decide))).trans ((congrFun (congrFun est_57 3) 0).trans ((congrFun (gU_k (by decide)) 0).trans ((congrFun (congrFun est_43 3) 0).trans ((congrFun (gU_k (by decide)) 0).trans ((funext (fun j9 => hB_sv35.2 3 0 j9 (show (300 : Nat) ∉ _ from by decide))).trans rfl)))))), ((funext (fun j9 => n_61.2 2 0 j9 (show (200 : Nat) ∉ _ from by decide))).trans ((congrFun (congrFun est_57 2) 0).trans ((congrFun (gU_k (by decide)) 0).trans ((congrFun (congrFun est_43 2) 0).trans ((congrFun (gU_k (by decide)) 0).trans ((funext (fun j9 => hB_sv35.2 2 0 j9 (show (200 : Nat) ∉ _ from by decide))).trans rfl)))))), ((funext (fun j9 => n_61.2 28 0 j9 (show (2800 : Nat) ∉ _ from by decide))).trans ((congrFun (congrFun est_57 28) 0).trans ((congrFun (gU_k (by decide)) 0).trans ((congrFun (congrFun est_43 28) 0).trans ((congrFun (gU_k (by decide)) 0).trans ((funext (fun j9 => hB_sv35.2 28 0 j9 (show (2800 : Nat) ∉ _ from by decide))).trans rfl)))))), ((funext (fun j9 => n_61.2 6 0 j9 (show (600 : Nat) ∉ _ from by decide))).trans ((congrFun (congrFun est_57 6) 0).trans ((congrFun (gU_k (by decide)) 0).trans ((congrFun (congrFun est_43 6) 0).trans ((congrFun (gU_k (by decide)) 0).trans ((funext (fun j9 => hB_sv35.2 6 0 j9 (show (600 : Nat) ∉ _ from by decide))).trans rfl)))))), ((n_61.2 0 0 7 (show (7 : Nat) ∉ _ from by decide)).trans (((congrFun (congrFun (congrFun est_57 0) 0) 7).trans (gU_other (by decide))).trans (((congrFun (congrFun (congrFun est_43 0) 0) 7).trans (congrFun (congrFun (gU_k (by decide)) 0) 7)).trans (hB_sv35.2 0 0 7 (show (7 : Nat) ∉ _ from by decide))))), ((funext (fun j9 => n_61.2 1 0 j9 (show (100 : Nat) ∉ _ from by decide))).trans ((congrFun (congrFun est_57 1) 0).trans ((congrFun (gU_k (by decide)) 0).trans ((congrFun (congrFun est_43 1) 0).trans ((congrFun (gU_k (by decide)) 0).trans ((funext (fun j9 => hB_sv35.2 1 0 j9 (show (100 : Nat) ∉ _ from by decide))).trans rfl))))))⟩ (by omega)) (((funext fun j9 => n_61.2 37 0 j9 (show (3700 : Nat) ∉ _ from by decide)).trans (((congrFun (congrFun est_57 37) 0).trans (congrFun (gU_k (by decide)) 0)).trans ((congrFun (congrFun est_43 37) 0).trans (congrFun (gU_k (by decide)) 0)))).trans (r37_9.trans hv25_3)) (((funext fun j9 => n_61.2 38 0 j9 (show (3800 : Nat) ∉ _ from by decide)).trans (((congrFun (congrFun est_57 38) 0).trans (congrFun (gU_k (by decide)) 0)).trans ((congrFun (congrFun est_43 38) 0).trans (congrFun (gU_k (by decide)) 0)))).trans (r38_9.trans hv25_4)) (((n_61.2 0 0 55 (show (55 : Nat) ∉ _ from by decide)).trans (((congrFun (congrFun (congrFun est_57 0) 0) 55).trans (gU_other (by decide))).trans ((congrFun (congrFun (congrFun est_43 0) 0) 55).trans (congrFun (congrFun (gU_k (by decide)) 0) 55)))).trans (c55_9.trans hv25_5)) (((n_61.2 0 0 56 (show (56 : Nat) ∉ _ from by decide)).trans (((congrFun (congrFun (congrFun est_57 0) 0) 56).trans (gU_other (by decide))).trans ((congrFun (congrFun (congrFun est_43 0) 0) 56).trans (congrFun (congrFun (gU_k (by decide)) 0) 56)))).trans (c56_9.trans hv25_6)) ((congrArg Int32.toInt (((n_61.2 0 0 0 (show (0 : Nat) ∉ _ from by decide)).trans (((congrFun (congrFun (congrFun est_57 0) 0) 0).trans (gU_other (by decide))).trans ((congrFun (congrFun (congrFun est_43 0) 0) 0).trans (congrFun (congrFun (gU_k (by decide)) 0) 0)))).trans c0_9)).trans hv25_7) hM hS (lv_sub hl [0, 3, 4, 5] rfl)
      · have ic_44 := gz_nle (by decide : (3 : Int32).toInt = 3) (rfl : x_29.toInt = x_29.toInt) c_44
        exfalso; omega
    · skip
      refine lv_if_ne (tgt := 480) hx hb dX10_plan_474 (by decide) (fun h9 => absurd (by decide) h9) (fun _ => ?_)
      refine lv_goto (tgt := 195) hx hb dX10_plan_477 (by decide) ?_
      exact ih_25 sv35 (y25_0 : Int32) H _ ls (by rw [e33_9, ← hx9]; exact pMu_s (y := y25_0) (by omega) (show (0 : Int) ≤ _ ∧ _ ≤ (8 : Int) from hB_sv25.1 33 0 _) (by rw [hx9]; omega) hme25) hB_sv35 (by omega) (by omega) (by rw [show y25_0.toInt = (as9.length : Int) by omega]; exact hS9.thirst (by omega) hn9 hG9.ne hG9.mx (show (if X9 = 9 then k9 else k9 + 1) = if X9 = 9 then k9 else k9 + 1 from rfl) hj9 (by have h7 : (0 : Int) ≤ (st 0 0 7).toInt ∧ (st 0 0 7).toInt ≤ (199 : Int) := hB 0 0 7; exact h7) hok (by omega) hd9 (by have h9 := hw_41_0; rw [show x_40.toNatClampNeg = as9.length + 1 by (have c_g := gs_cl (x := x_40) (by omega); omega)] at h9; exact h9) hG9.e57 e58_9) (r37_9.trans hv25_3) (r38_9.trans hv25_4) (c55_9.trans hv25_5) (c56_9.trans hv25_6) ((congrArg Int32.toInt c0_9).trans hv25_7) hM hS (lv_sub hl [2, 3, 4, 5] rfl)
set_option maxHeartbeats 4000000 in
set_option maxRecDepth 100000 in
theorem m_plan_b (l : Launch) (G : va_G) (cy : Nat → ClassId) (sK sV : Nat → Nat) (ad : Nat → Nat → Nat) (sz : Nat) (st : gS) (hB : gBd bM st) (x : Int32) (y : Int32) (Xx : Int) (Xy : Int) (kx : x.toInt = Xx) (ky : y.toInt = Xy) (rs : List Rl) (bk : Nat) (hbk : (st 0 0 28).toInt = (bk : Int)) (hru : (st 0 0 29).toInt = (rs.length : Int)) (hLM : LM rs st bk) (hwf : ∀ r ∈ rs, wfR r) (hok : okM st) (p : Program) (e : Env) (s : State) (m : MethodId) (below : List Frame) (meth : Method) (c : Code) (A : Nat → Prop) (hx : p.tables.exec = Jvm.exec) (hb : c.code = cX10_plan) (hr : meth.sig.returnType = (some .int)) (hml : c.maxLocals = 8) (hlocks : meth.locks = false) (hown : s.vm.findClass yX10_plan.cls = some m.cls) (hts : ∀ w ∈ gz_T, w.before [.ref (ad 0 0), .int x, .int y].toArray s = true) (hK : va_K G vwCl (gzK cy) s) (hov : gOv s) (hE : gE sK sV A s s.heap) (hI : gI cnM ad) (hm : ∀ k i, i < cnM k → A (ad k i)) (hA : ∀ q, s.heap.size ≤ q → A q) (Q : _) (hQe : MQ below (gsQi G (shM cy ad) cnM ad (fun (r : Int32) (u : gS) => gBN bM kM [0, 55, 56, 57, 58, 2900, 3000, 3100, 3200, 3300, 3400, 3500, 3600, 3700, 3800] st u ∧ (((¬ (1 ≤ Xy ∧ Xy ≤ 50000) ∧ r.toInt = 0 ∧ (u 0 0 0).toInt = 1 ∧ frM st u) ∨ ((1 ≤ Xy ∧ Xy ≤ 50000) ∧ ¬ ((∃ h : Nat, h < 4 ∧ ¬ (st 22 0 h).toInt = 0) ∧ 1 ≤ Xx ∧ Xx ≤ 14 ∧ (st 0 0 7).toInt + Xx ≤ 199) ∧ r.toInt = -1 ∧ (u 0 0 0).toInt = 0 ∧ frM st u) ∨ ((1 ≤ Xy ∧ Xy ≤ 50000) ∧ ((∃ h : Nat, h < 4 ∧ ¬ (st 22 0 h).toInt = 0) ∧ 1 ≤ Xx ∧ Xx ≤ 14 ∧ (st 0 0 7).toInt + Xx ≤ 199) ∧ (u 0 0 0).toInt = 0 ∧ ∃ (as9 : List Int) (f9 : Int), sFE (evM rs st) Xx Xy f9 r.toInt as9 ∧ (u 0 0 58).toInt = f9 ∧ ((r.toInt = 0 ∧ pdM st u as9 x) ∨ (1 ≤ r.toInt ∧ u 37 0 = st 37 0 ∧ u 38 0 = st 38 0 ∧ u 0 0 55 = st 0 0 55 ∧ u 0 0 56 = st 0 0 56)))))) A) [.ref (ad 0 0), .int x, .int y].toArray s ({ frames := 2, cells := 0, slots := 0, locals := 53 } : Room).cells ({ frames := 2, cells := 0, slots := 0, locals := 53 } : Room).slots A = Q) (n25 : Nat) (ih_25 : ∀ (sv25 : gS) (y25_0 : Int32) (H : Heap) (locs : List Loc) (ls : Array Slot), pMu (sv25 33 0) (y25_0.toInt + 1).toNat < n25 → gBN bM kM [0, 55, 56, 57, 58, 2900, 3000, 3100, 3200, 3300, 3400, 3500, 3600, 3700, 3800] st sv25 → (-1 ≤ y25_0.toInt) → (y25_0.toInt ≤ 4 * Xx) → (loM rs st sv25 Xx Xy y25_0.toInt) → (sv25 37 0 = st 37 0) → (sv25 38 0 = st 38 0) → (sv25 0 0 55 = st 0 0 55) → (sv25 0 0 56 = st 0 0 56) → ((sv25 0 0 0).toInt = 0) → gM G (shM cy ad) cnM ad sv25 H → va_S A s.heap H locs → lv_has ls 8 [(3, .int y25_0), (0, .ref (ad 0 0)), (1, .int x), (2, .int y)] → W p l e ({ frames := 2, cells := 0, slots := 0, locals := 53 } : Room) s m [.ref (ad 0 0), .int x, .int y].toArray below meth c H locs 0 0 Q (F0 m 195 ls [])) (sv25 : gS) (y25_0 : Int32) (hme25 : pMu (sv25 33 0) (y25_0.toInt + 1).toNat < n25 + 1) (hB_sv25 : gBN bM kM [0, 55, 56, 57, 58, 2900, 3000, 3100, 3200, 3300, 3400, 3500, 3600, 3700, 3800] st sv25) (hv25_0 : -1 ≤ y25_0.toInt) (hv25_1 : y25_0.toInt ≤ 4 * Xx) (hv25_2 : loM rs st sv25 Xx Xy y25_0.toInt) (hv25_3 : sv25 37 0 = st 37 0) (hv25_4 : sv25 38 0 = st 38 0) (hv25_5 : sv25 0 0 55 = st 0 0 55) (hv25_6 : sv25 0 0 56 = st 0 0 56) (hv25_7 : (sv25 0 0 0).toInt = 0) (hr1 : 1 ≤ Xx) (hr2 : Xx ≤ 14) (hr3 : 1 ≤ Xy) (hr4 : Xy ≤ 50000) (hr5 : (st 0 0 7).toInt + Xx ≤ 199) (hr6 : 0 ≤ y25_0.toInt) (hr7 : ¬ y25_0.toInt = 4 * Xx) (hHd9 : (∃ h : Nat, h < 4 ∧ ¬ (st 22 0 h).toInt = 0)) (H : Heap) (locs : List Loc) (ls : Array Slot) (hM : gM G (shM cy ad) cnM ad sv25 H) (hS : va_S A s.heap H locs) (hl : lv_has ls 8 [(3, .int y25_0), (0, .ref (ad 0 0)), (1, .int x), (2, .int y)]) : W p l e ({ frames := 2, cells := 0, slots := 0, locals := 53 } : Room) s m [.ref (ad 0 0), .int x, .int y].toArray below meth c H locs 0 0 Q (F0 m 281 ls []) := by
  have hB_st : gBN bM kM [0, 55, 56, 57, 58, 2900, 3000, 3100, 3200, 3300, 3400, 3500, 3600, 3700, 3800] st st := gBN.rf hB
  obtain ⟨as9, t9, k9, f9, j9, hS9, hat9⟩ := loM.run hv25_2 (by omega) (by omega)
  have hlen9 := hS9.2.2.2.2.2.2.1
  have hk59 := hS9.2.2.2.2.2.2.2.1
  have c_at := gs_cl (x := y25_0) (by omega)
  have hx9 : y25_0.toNatClampNeg = as9.length := (by omega)
  have h57_9 := hS9.2.2.2.2.1
  have h58_9 := hS9.2.2.2.2.2.1
  have hfb9 := hS9.2.2.2.2.2.2.2.2.1
  refine lv_iload_n hx hb dX10_plan_281 rfl (lv_at hl 0 rfl) ?_
  refine lv_iconst (v := 4) hx hb dX10_plan_282 (by decide) ?_
  refine lv_irem hx hb dX10_plan_283 (by decide) ?_
  refine lv_topi (fun x_29 ex_29 => ?_)
  try have tx_29 := gs_rem2 (y := 4) (by decide) (show 0 ≤ y25_0.toInt from by omega) (by omega) ex_29
  have hm9 : x_29.toInt = y25_0.toInt % 4 := gs_rem3 (b := 4) (by decide) rfl (by omega) (by decide) ex_29
  have c_h := gs_cl (x := x_29) (by omega)
  have hh9 : x_29.toNatClampNeg = as9.length % 4 := (by omega)
  refine lv_istore (lv' := [(4, .int x_29), (3, .int y25_0), (0, .ref (ad 0 0)), (1, .int x), (2, .int y)]) hx hb dX10_plan_284 hl (by decide) rfl (fun ls hl => ?_)
  refine lv_aload_n hx hb dX10_plan_286 rfl (lv_at hl 2 rfl) ?_
  refine gs_get (C := RX10) (T := TX10) (N := 59) hx hb hts inX10 hown hK hM 0 0 7 (by decide) rfl rfl (by decide) (hts _ gm_904) (fun _ h9 => h9) rfl dX10_plan_287 ?_
  refine lv_topi (fun x_30 ex_30 => ?_)
  have ex_30 : (st 0 0 7) = x_30 := Eq.symm (ex_30.trans (hB_sv25.2 0 0 7 (show (7 : Nat) ∉ _ from by decide)))
  subst ex_30
  have bf_31 : (0 : Int) ≤ (st 0 0 7).toInt ∧ (st 0 0 7).toInt ≤ (199 : Int) := hB_st.1 0 0 7
  refine lv_iconst (v := 1) hx hb dX10_plan_290 (by decide) ?_
  refine lv_iadd hx hb dX10_plan_291 ?_
  refine lv_topi (fun x_32 ex_32 => ?_)
  try have tx_32 : x_32.toInt = (st 0 0 7).toInt + 1 := by rw [ex_32]; exact gz_addP (x := (st 0 0 7).toInt) (y := 1) rfl (by decide) (by omega) (by omega)
  refine lv_iload_n hx hb dX10_plan_292 rfl (lv_at hl 1 rfl) ?_
  refine lv_iconst (v := 4) hx hb dX10_plan_293 (by decide) ?_
  refine lv_idiv hx hb dX10_plan_294 (by decide) ?_
  refine lv_topi (fun x_33 ex_33 => ?_)
  try have tx_33 := gs_div2 (y := 4) (by decide) (show 0 ≤ y25_0.toInt from by omega) (by omega) ex_33
  refine lv_iadd hx hb dX10_plan_295 ?_
  refine lv_topi (fun x_34 ex_34 => ?_)
  try have tx_34 : x_34.toInt = x_32.toInt + x_33.toInt := by rw [ex_34]; exact gz_addI (x := x_32.toInt) (y := x_33.toInt) rfl rfl (by omega) (by omega)
  have h79 : (sv25 0 0 7).toInt = (st 0 0 7).toInt := congrArg Int32.toInt (hB_sv25.2 0 0 7 (show (7 : Nat) ∉ _ from by decide))
  have hd9 : x_34.toInt = (st 0 0 7).toInt + ((as9.length / 4 + 1 : Nat) : Int) := (by omega)
  refine lv_istore (lv' := [(5, .int x_34), (4, .int x_29), (3, .int y25_0), (0, .ref (ad 0 0)), (1, .int x), (2, .int y)]) hx hb dX10_plan_296 hl (by decide) rfl (fun ls hl => ?_)
  have jn35 : ∀ (sv35 : gS)  (H : Heap) (locs : List Loc) (ls : Array Slot), gBN bM kM [0, 55, 56, 57, 58, 2900, 3000, 3100, 3200, 3300, 3400, 3500, 3600, 3700, 3800] st sv35 → (gzM rs st sv25 sv35 Xy as9 t9 k9 f9) → gM G (shM cy ad) cnM ad sv35 H → va_S A s.heap H locs → lv_has ls 8 [(5, .int x_34), (4, .int x_29), (3, .int y25_0), (0, .ref (ad 0 0)), (1, .int x), (2, .int y)] → W p l e ({ frames := 2, cells := 0, slots := 0, locals := 53 } : Room) s m [.ref (ad 0 0), .int x, .int y].toArray below meth c H locs 0 0 Q (F0 m 459 ls []) := by
    intro sv35  H locs ls hB_sv35 hv35_0 hM hS hl
    exact m_plan_a l G cy sK sV ad sz st hB x y Xx Xy kx ky rs bk hbk hru hLM hwf hok p e s m below meth c A hx hb hr hml hlocks hown hts hK hov hE hI hm hA Q hQe n25 ih_25 sv25 y25_0 hme25 hB_sv25 hv25_0 hv25_1 hv25_2 hv25_3 hv25_4 hv25_5 hv25_6 hv25_7 as9 t9 k9 f9 j9 sv35 x_34 x_29 hB_sv35 (by omega) (by omega) (by omega) (by omega) (by have hb0 : (0 : Int) ≤ (st 0 0 7).toInt ∧ (st 0 0 7).toInt ≤ (199 : Int) := hB_st.1 0 0 7; omega) (by omega) (by omega) hS9 hat9 hm9 hd9 hv35_0 H _ ls hM hS hl
  refine lv_aload_n hx hb dX10_plan_298 rfl (lv_at hl 3 rfl) ?_
  refine gs_get (C := RX10) (T := TX10) (N := 59) hx hb hts inX10 hown hK hM 0 0 38 (by decide) rfl rfl (by decide) (hts _ gm_935) (fun _ h9 => h9) rfl dX10_plan_299 ?_
  refine lv_iload hx hb dX10_plan_302 (lv_at hl 1 rfl) ?_
  refine gs_zald hx hb hK hM 22 0 (by decide) rfl (vp_in_iff.mpr ⟨by omega, by omega⟩) dX10_plan_304 ?_
  refine lv_topi (fun x_62 ex_62 => ?_)
  have qx_62 : x_62.toInt = (sv25 22 0 (x_29.toNatClampNeg)).toInt := congrArg Int32.toInt ex_62
  have rx_62 : x_62.toInt = ((st 22 0 (x_29.toNatClampNeg)) : Int32).toInt := by rw [ex_62]; exact congrArg Int32.toInt ((hB_sv25.2 22 0 (x_29.toNatClampNeg) (show (2200 : Nat) ∉ _ from by decide)))
  have hz9 : x_62.toInt = (sv25 22 0 (as9.length % 4)).toInt := (by rw [qx_62, hh9])
  refine lv_if_eq (tgt := 328) hx hb dX10_plan_305 (by decide) (fun c_63 => ?_) (fun c_63 => ?_)
  · have ic_63 := gz_eq (rfl : x_62.toInt = x_62.toInt) (by decide : (0 : Int32).toInt = 0) c_63
    refine lv_iconst (v := 0) hx hb dX10_plan_328 (by decide) ?_
    refine lv_istore (lv' := [(6, .int 0), (5, .int x_34), (4, .int x_29), (3, .int y25_0), (0, .ref (ad 0 0)), (1, .int x), (2, .int y)]) hx hb dX10_plan_329 hl (by decide) rfl (fun ls hl => ?_)
    refine lv_aload_n hx hb dX10_plan_331 rfl (lv_at hl 4 rfl) ?_
    refine gs_get (C := RX10) (T := TX10) (N := 59) hx hb hts inX10 hown hK hM 0 0 49 (by decide) rfl rfl (by decide) (hts _ gm_946) (fun _ h9 => h9) rfl dX10_plan_332 ?_
    refine lv_iload_n hx hb dX10_plan_335 rfl (lv_at hl 3 rfl) ?_
    refine gs_iald hx hb hK hM 33 0 (by decide) rfl (vp_in_iff.mpr ⟨by omega, by omega⟩) dX10_plan_336 ?_
    refine lv_topi (fun x_64 ex_64 => ?_)
    have qx_64 : x_64.toInt = (sv25 33 0 (y25_0.toNatClampNeg)).toInt := congrArg Int32.toInt ex_64
    have bx_64 : (0 : Int) ≤ x_64.toInt ∧ x_64.toInt ≤ (8 : Int) := by rw [qx_64]; exact hB_sv25.1 33 0 (y25_0.toNatClampNeg)
    have hq9 : x_64.toInt = (sv25 33 0 as9.length).toInt := (by rw [qx_64, hx9])
    have hb9 : (0 : Int) ≤ (sv25 33 0 as9.length).toInt ∧ (sv25 33 0 as9.length).toInt ≤ (8 : Int) := hB_sv25.1 33 0 _
    refine lv_istore (lv' := [(7, .int x_64), (6, .int 0), (5, .int x_34), (4, .int x_29), (3, .int y25_0), (0, .ref (ad 0 0)), (1, .int x), (2, .int y)]) hx hb dX10_plan_337 hl (by decide) rfl (fun ls hl => ?_)
    refine lv_iload hx hb dX10_plan_339 (lv_at hl 1 rfl) ?_
    refine lv_if_eq (tgt := 369) hx hb dX10_plan_341 (by decide) (fun _ => ?_) (fun h9 => absurd (by decide) h9)
    refine lv_iload hx hb dX10_plan_369 (lv_at hl 0 rfl) ?_
    refine lv_iload hx hb dX10_plan_371 (lv_at hl 1 rfl) ?_
    refine lv_if_eq (tgt := 381) hx hb dX10_plan_373 (by decide) (fun _ => ?_) (fun h9 => absurd (by decide) h9)
    refine lv_iconst (v := 1) hx hb dX10_plan_381 (by decide) ?_
    refine lv_icmp_lt (tgt := 391) hx hb dX10_plan_382 (by decide) (fun c_65 => ?_) (fun c_65 => ?_)
    · have ic_65 := gz_lt (rfl : x_64.toInt = x_64.toInt) (by decide : (1 : Int32).toInt = 1) c_65
      have hn9 := hS9.nx (fr := 0) (wh := x_64.toInt) (d := x_34.toInt) hB_sv25.1 hok (by omega) hwf (by omega) (Or.inr ⟨rfl, fun h9 => by have h8 := h9.1; have h7 := h9.2; omega⟩) (fun _ => by omega) (fun h9 => absurd h9 (by decide))
      rw [if_neg (by decide), if_pos (by omega)] at hn9
      refine lv_aload_n hx hb dX10_plan_391 rfl (lv_at hl 5 rfl) ?_
      refine gs_get (C := RX10) (T := TX10) (N := 59) hx hb hts inX10 hown hK hM 0 0 49 (by decide) rfl rfl (by decide) (hts _ gm_946) (fun _ h9 => h9) rfl dX10_plan_392 ?_
      refine lv_iload_n hx hb dX10_plan_395 rfl (lv_at hl 4 rfl) ?_
      refine lv_iload hx hb dX10_plan_396 (lv_at hl 0 rfl) ?_
      refine lv_iconst (v := 1) hx hb dX10_plan_398 (by decide) ?_
      refine lv_iadd hx hb dX10_plan_399 ?_
      refine lv_topi (fun x_66 ex_66 => ?_)
      try have tx_66 : x_66.toInt = x_64.toInt + 1 := by rw [ex_66]; exact gz_addP (x := x_64.toInt) (y := 1) rfl (by decide) (by omega) (by omega)
      refine gs_iast hx hb hK hI hm hM hS 33 0 (by decide) (fun _ => rfl) (vp_in_iff.mpr ⟨by omega, by omega⟩) dX10_plan_400 (fun st_67 H locs est_67 hM hS => ?_)
      have hB_st_67 : gBN bM kM [0, 55, 56, 57, 58, 2900, 3000, 3100, 3200, 3300, 3400, 3500, 3600, 3700, 3800] st st_67 := by rw [est_67]; exact hB_sv25.up (show (3300 : Nat) ∈ _ from by decide) (show (0 : Int) ≤ x_66.toInt from by omega) (show x_66.toInt ≤ (8 : Int) from by omega)
      refine lv_iload hx hb dX10_plan_401 (lv_at hl 1 rfl) ?_
      refine lv_if_eq (tgt := 426) hx hb dX10_plan_403 (by decide) (fun _ => ?_) (fun h9 => absurd (by decide) h9)
      refine lv_aload_n hx hb dX10_plan_426 rfl (lv_at hl 5 rfl) ?_
      refine gs_get (C := RX10) (T := TX10) (N := 59) hx hb hts inX10 hown hK hM 0 0 50 (by decide) rfl rfl (by decide) (hts _ gm_947) (fun _ h9 => h9) rfl dX10_plan_427 ?_
      refine lv_iload_n hx hb dX10_plan_430 rfl (lv_at hl 4 rfl) ?_
      refine lv_iload hx hb dX10_plan_431 (lv_at hl 1 rfl) ?_
      refine lv_if_eq (tgt := 441) hx hb dX10_plan_433 (by decide) (fun _ => ?_) (fun h9 => absurd (by decide) h9)
      refine lv_bipush (v := 9) hx hb dX10_plan_441 (by decide) ?_
      refine gs_iast hx hb hK hI hm hM hS 34 0 (by decide) (fun _ => rfl) (vp_in_iff.mpr ⟨by omega, by omega⟩) dX10_plan_443 (fun st_68 H locs est_68 hM hS => ?_)
      have hB_st_68 : gBN bM kM [0, 55, 56, 57, 58, 2900, 3000, 3100, 3200, 3300, 3400, 3500, 3600, 3700, 3800] st st_68 := by rw [est_68]; exact hB_st_67.up (show (3400 : Nat) ∈ _ from by decide) (gi_lo _) (gi_hi _)
      refine lv_aload_n hx hb dX10_plan_444 rfl (lv_at hl 5 rfl) ?_
      refine lv_iload_n hx hb dX10_plan_445 rfl (lv_at hl 4 rfl) ?_
      refine lv_iload hx hb dX10_plan_446 (lv_at hl 3 rfl) ?_
      refine lv_aload_n hx hb dX10_plan_448 rfl (lv_at hl 5 rfl) ?_
      refine gs_get (C := RX10) (T := TX10) (N := 59) hx hb hts inX10 hown hK hM 0 0 50 (by decide) rfl rfl (by decide) (hts _ gm_947) (fun _ h9 => h9) rfl dX10_plan_449 ?_
      refine lv_iload_n hx hb dX10_plan_452 rfl (lv_at hl 4 rfl) ?_
      refine gs_iald hx hb hK hM 34 0 (by decide) rfl (vp_in_iff.mpr ⟨by omega, by omega⟩) dX10_plan_453 ?_
      refine lv_topi (fun x_69 ex_69 => ?_)
      have qx_69 : x_69.toInt = (st_68 34 0 (y25_0.toNatClampNeg)).toInt := congrArg Int32.toInt ex_69
      have rx_69 : x_69.toInt = (9 : Int) := by rw [ex_69]; exact (congrArg Int32.toInt (((congrFun (congrFun (congrFun est_68 34) 0) (y25_0.toNatClampNeg)).trans (gU_same _ _ _ _ _)))).trans (by decide)
      refine lv_iload hx hb dX10_plan_454 (lv_at hl 2 rfl) ?_
      refine gs_callv (va_runV (As := [.int y25_0, .int x_29, .int x_69, .int x_34]) (rest := []) ⟨hx, hb, hml, hown, hts⟩ (m_goes l G cy sK sV ad H.size st_68 hB_st_68.1 y25_0 x_29 x_69 x_34 y25_0.toInt x_29.toInt x_69.toInt x_34.toInt rfl rfl rfl rfl (by first | decide | omega) (by first | decide | omega) (by first | decide | omega) (by first | decide | omega) (by first | decide | omega)) ⟨(gz_cb (n := 4) hts gm_1281 gm_12 gm_1284 ⟨by decide +kernel, by decide +kernel, by decide +kernel⟩ ⟨Nat.le_of_ble_eq_true rfl, Nat.le_of_ble_eq_true rfl⟩), hts _ gm_1283, hts _ gs_58⟩ (gs_preV hK hov hE hI hM hm hS hA 0 0 (by decide) rfl rfl) rfl rfl hl.1 rfl (lv_room (Nat.le_of_ble_eq_true rfl)) dX10_plan_456 ⟨Nat.le_of_ble_eq_true rfl, Nat.le_of_ble_eq_true rfl⟩) hm hS hA (fun st_70 H locs hw_70 hM hS => ?_)
      obtain ⟨n_70, hw_70⟩ := hw_70
      have hB_st_70 : gBN bM kM [0, 55, 56, 57, 58, 2900, 3000, 3100, 3200, 3300, 3400, 3500, 3600, 3700, 3800] st st_70 := hB_st_68.call n_70 (by decide)
      have hw_70_0 := hw_70
      have hj9 : jM rs st st_70 as9 9 := hS9.perf (v := st_68) (v33 := (x_66 : Int32)) (v34 := (9 : Int32)) hB_st_68.1 hok (by omega) (by have h7 : (0 : Int) ≤ (st 0 0 7).toInt ∧ (st 0 0 7).toInt ≤ (199 : Int) := hB 0 0 7; exact h7) hn9 (by omega) ⟨(((congrFun (congrFun est_68 29) 0).trans (congrFun (gU_k (by decide)) 0)).trans ((congrFun (congrFun est_67 29) 0).trans (congrFun (gU_k (by decide)) 0))), (((congrFun (congrFun est_68 30) 0).trans (congrFun (gU_k (by decide)) 0)).trans ((congrFun (congrFun est_67 30) 0).trans (congrFun (gU_k (by decide)) 0))), (((congrFun (congrFun est_68 31) 0).trans (congrFun (gU_k (by decide)) 0)).trans ((congrFun (congrFun est_67 31) 0).trans (congrFun (gU_k (by decide)) 0))), (((congrFun (congrFun est_68 32) 0).trans (congrFun (gU_k (by decide)) 0)).trans ((congrFun (congrFun est_67 32) 0).trans (congrFun (gU_k (by decide)) 0))), (((congrFun (congrFun est_68 35) 0).trans (congrFun (gU_k (by decide)) 0)).trans ((congrFun (congrFun est_67 35) 0).trans (congrFun (gU_k (by decide)) 0))), (((congrFun (congrFun est_68 36) 0).trans (congrFun (gU_k (by decide)) 0)).trans ((congrFun (congrFun est_67 36) 0).trans (congrFun (gU_k (by decide)) 0)))⟩ ⟨((congrFun (congrFun est_68 22) 0).trans ((congrFun (gU_k (by decide)) 0).trans ((congrFun (congrFun est_67 22) 0).trans ((congrFun (gU_k (by decide)) 0).trans ((funext (fun j9 => hB_sv25.2 22 0 j9 (show (2200 : Nat) ∉ _ from by decide))).trans rfl))))), ((congrFun (congrFun est_68 23) 0).trans ((congrFun (gU_k (by decide)) 0).trans ((congrFun (congrFun est_67 23) 0).trans ((congrFun (gU_k (by decide)) 0).trans ((funext (fun j9 => hB_sv25.2 23 0 j9 (show (2300 : Nat) ∉ _ from by decide))).trans rfl))))), ((congrFun (congrFun est_68 24) 0).trans ((congrFun (gU_k (by decide)) 0).trans ((congrFun (congrFun est_67 24) 0).trans ((congrFun (gU_k (by decide)) 0).trans ((funext (fun j9 => hB_sv25.2 24 0 j9 (show (2400 : Nat) ∉ _ from by decide))).trans rfl))))), ((congrFun (congrFun est_68 25) 0).trans ((congrFun (gU_k (by decide)) 0).trans ((congrFun (congrFun est_67 25) 0).trans ((congrFun (gU_k (by decide)) 0).trans ((funext (fun j9 => hB_sv25.2 25 0 j9 (show (2500 : Nat) ∉ _ from by decide))).trans rfl))))), ((congrFun (congrFun est_68 3) 0).trans ((congrFun (gU_k (by decide)) 0).trans ((congrFun (congrFun est_67 3) 0).trans ((congrFun (gU_k (by decide)) 0).trans ((funext (fun j9 => hB_sv25.2 3 0 j9 (show (300 : Nat) ∉ _ from by decide))).trans rfl))))), ((congrFun (congrFun est_68 2) 0).trans ((congrFun (gU_k (by decide)) 0).trans ((congrFun (congrFun est_67 2) 0).trans ((congrFun (gU_k (by decide)) 0).trans ((funext (fun j9 => hB_sv25.2 2 0 j9 (show (200 : Nat) ∉ _ from by decide))).trans rfl))))), ((congrFun (congrFun est_68 28) 0).trans ((congrFun (gU_k (by decide)) 0).trans ((congrFun (congrFun est_67 28) 0).trans ((congrFun (gU_k (by decide)) 0).trans ((funext (fun j9 => hB_sv25.2 28 0 j9 (show (2800 : Nat) ∉ _ from by decide))).trans rfl))))), ((congrFun (congrFun est_68 6) 0).trans ((congrFun (gU_k (by decide)) 0).trans ((congrFun (congrFun est_67 6) 0).trans ((congrFun (gU_k (by decide)) 0).trans ((funext (fun j9 => hB_sv25.2 6 0 j9 (show (600 : Nat) ∉ _ from by decide))).trans rfl))))), (((congrFun (congrFun (congrFun est_68 0) 0) 7).trans (congrFun (congrFun (gU_k (by decide)) 0) 7)).trans (((congrFun (congrFun (congrFun est_67 0) 0) 7).trans (congrFun (congrFun (gU_k (by decide)) 0) 7)).trans (hB_sv25.2 0 0 7 (show (7 : Nat) ∉ _ from by decide)))), ((congrFun (congrFun est_68 1) 0).trans ((congrFun (gU_k (by decide)) 0).trans ((congrFun (congrFun est_67 1) 0).trans ((congrFun (gU_k (by decide)) 0).trans ((funext (fun j9 => hB_sv25.2 1 0 j9 (show (100 : Nat) ∉ _ from by decide))).trans rfl)))))⟩ ⟨((funext (fun j9 => n_70.2 22 0 j9 (show (2200 : Nat) ∉ _ from by decide))).trans ((congrFun (congrFun est_68 22) 0).trans ((congrFun (gU_k (by decide)) 0).trans ((congrFun (congrFun est_67 22) 0).trans ((congrFun (gU_k (by decide)) 0).trans ((funext (fun j9 => hB_sv25.2 22 0 j9 (show (2200 : Nat) ∉ _ from by decide))).trans rfl)))))), ((funext (fun j9 => n_70.2 23 0 j9 (show (2300 : Nat) ∉ _ from by decide))).trans ((congrFun (congrFun est_68 23) 0).trans ((congrFun (gU_k (by decide)) 0).trans ((congrFun (congrFun est_67 23) 0).trans ((congrFun (gU_k (by decide)) 0).trans ((funext (fun j9 => hB_sv25.2 23 0 j9 (show (2300 : Nat) ∉ _ from by decide))).trans rfl)))))), ((funext (fun j9 => n_70.2 24 0 j9 (show (2400 : Nat) ∉ _ from by decide))).trans ((congrFun (congrFun est_68 24) 0).trans ((congrFun (gU_k (by decide)) 0).trans ((congrFun (congrFun est_67 24) 0).trans ((congrFun (gU_k (by decide)) 0).trans ((funext (fun j9 => hB_sv25.2 24 0 j9 (show (2400 : Nat) ∉ _ from by decide))).trans rfl)))))), ((funext (fun j9 => n_70.2 25 0 j9 (show (2500 : Nat) ∉ _ from by decide))).trans ((congrFun (congrFun est_68 25) 0).trans ((congrFun (gU_k (by decide)) 0).trans ((congrFun (congrFun est_67 25) 0).trans ((congrFun (gU_k (by decide)) 0).trans ((funext (fun j9 => hB_sv25.2 25 0 j9 (show (2500 : Nat) ∉ _ from by decide))).trans rfl)))))), ((funext (fun j9 => n_70.2 3 0 j9 (show (300 : Nat) ∉ _ from by decide))).trans ((congrFun (congrFun est_68 3) 0).trans ((congrFun (gU_k (by decide)) 0).trans ((congrFun (congrFun est_67 3) 0).trans ((congrFun (gU_k (by decide)) 0).trans ((funext (fun j9 => hB_sv25.2 3 0 j9 (show (300 : Nat) ∉ _ from by decide))).trans rfl)))))), ((funext (fun j9 => n_70.2 2 0 j9 (show (200 : Nat) ∉ _ from by decide))).trans ((congrFun (congrFun est_68 2) 0).trans ((congrFun (gU_k (by decide)) 0).trans ((congrFun (congrFun est_67 2) 0).trans ((congrFun (gU_k (by decide)) 0).trans ((funext (fun j9 => hB_sv25.2 2 0 j9 (show (200 : Nat) ∉ _ from by decide))).trans rfl)))))), ((funext (fun j9 => n_70.2 28 0 j9 (show (2800 : Nat) ∉ _ from by decide))).trans ((congrFun (congrFun est_68 28) 0).trans ((congrFun (gU_k (by decide)) 0).trans ((congrFun (congrFun est_67 28) 0).trans ((congrFun (gU_k (by decide)) 0).trans ((funext (fun j9 => hB_sv25.2 28 0 j9 (show (2800 : Nat) ∉ _ from by decide))).trans rfl)))))), ((funext (fun j9 => n_70.2 6 0 j9 (show (600 : Nat) ∉ _ from by decide))).trans ((congrFun (congrFun est_68 6) 0).trans ((congrFun (gU_k (by decide)) 0).trans ((congrFun (congrFun est_67 6) 0).trans ((congrFun (gU_k (by decide)) 0).trans ((funext (fun j9 => hB_sv25.2 6 0 j9 (show (600 : Nat) ∉ _ from by decide))).trans rfl)))))), ((n_70.2 0 0 7 (show (7 : Nat) ∉ _ from by decide)).trans (((congrFun (congrFun (congrFun est_68 0) 0) 7).trans (congrFun (congrFun (gU_k (by decide)) 0) 7)).trans (((congrFun (congrFun (congrFun est_67 0) 0) 7).trans (congrFun (congrFun (gU_k (by decide)) 0) 7)).trans (hB_sv25.2 0 0 7 (show (7 : Nat) ∉ _ from by decide))))), ((funext (fun j9 => n_70.2 1 0 j9 (show (100 : Nat) ∉ _ from by decide))).trans ((congrFun (congrFun est_68 1) 0).trans ((congrFun (gU_k (by decide)) 0).trans ((congrFun (congrFun est_67 1) 0).trans ((congrFun (gU_k (by decide)) 0).trans ((funext (fun j9 => hB_sv25.2 1 0 j9 (show (100 : Nat) ∉ _ from by decide))).trans rfl))))))⟩ (by have h9 := hw_70_0; rw [hx9, hh9, show x_69.toInt = 9 by omega] at h9; exact h9) hd9 (by rw [show st_70 33 0 = (upd (sv25 33 0) (y25_0.toNatClampNeg) (x_66 : Int32)) from ((funext (fun j9 => n_70.2 33 0 j9 (show (3300 : Nat) ∉ _ from by decide))).trans ((congrFun (congrFun est_68 33) 0).trans ((congrFun (gU_k (by decide)) 0).trans ((congrFun (congrFun est_67 33) 0).trans ((gU_at _ _ _ _ _).trans (congrArg (fun f9 => upd f9 (y25_0.toNatClampNeg) (x_66 : Int32)) rfl)))))), hx9]) (by rw [if_pos rfl]; have h9 : x_64.toInt = 0 := (by omega); omega) (by rw [show st_70 34 0 = (upd (sv25 34 0) (y25_0.toNatClampNeg) (9 : Int32)) from ((funext (fun j9 => n_70.2 34 0 j9 (show (3400 : Nat) ∉ _ from by decide))).trans ((congrFun (congrFun est_68 34) 0).trans ((gU_at _ _ _ _ _).trans (congrArg (fun f9 => upd f9 (y25_0.toNatClampNeg) (9 : Int32)) ((congrFun (congrFun est_67 34) 0).trans ((congrFun (gU_k (by decide)) 0).trans rfl)))))), hx9]) (by decide)
      exact jn35 st_70  H _ ls hB_st_70 ⟨9, hn9, by omega, (Or.inl rfl), hj9, (by rw [if_pos rfl]; exact (congrArg Int32.toInt ((n_70.2 0 0 57 (show (57 : Nat) ∉ _ from by decide)).trans (((congrFun (congrFun (congrFun est_68 0) 0) 57).trans (congrFun (congrFun (gU_k (by decide)) 0) 57)).trans ((congrFun (congrFun (congrFun est_67 0) 0) 57).trans (congrFun (congrFun (gU_k (by decide)) 0) 57))))).trans h57_9), ((congrArg Int32.toInt ((n_70.2 0 0 58 (show (58 : Nat) ∉ _ from by decide)).trans (((congrFun (congrFun (congrFun est_68 0) 0) 58).trans (congrFun (congrFun (gU_k (by decide)) 0) 58)).trans ((congrFun (congrFun (congrFun est_67 0) 0) 58).trans (congrFun (congrFun (gU_k (by decide)) 0) 58))))).trans h58_9), ⟨((funext fun j9 => n_70.2 37 0 j9 (show (3700 : Nat) ∉ _ from by decide)).trans (((congrFun (congrFun est_68 37) 0).trans (congrFun (gU_k (by decide)) 0)).trans ((congrFun (congrFun est_67 37) 0).trans (congrFun (gU_k (by decide)) 0)))), ((funext fun j9 => n_70.2 38 0 j9 (show (3800 : Nat) ∉ _ from by decide)).trans (((congrFun (congrFun est_68 38) 0).trans (congrFun (gU_k (by decide)) 0)).trans ((congrFun (congrFun est_67 38) 0).trans (congrFun (gU_k (by decide)) 0)))), ((n_70.2 0 0 55 (show (55 : Nat) ∉ _ from by decide)).trans (((congrFun (congrFun (congrFun est_68 0) 0) 55).trans (congrFun (congrFun (gU_k (by decide)) 0) 55)).trans ((congrFun (congrFun (congrFun est_67 0) 0) 55).trans (congrFun (congrFun (gU_k (by decide)) 0) 55)))), ((n_70.2 0 0 56 (show (56 : Nat) ∉ _ from by decide)).trans (((congrFun (congrFun (congrFun est_68 0) 0) 56).trans (congrFun (congrFun (gU_k (by decide)) 0) 56)).trans ((congrFun (congrFun (congrFun est_67 0) 0) 56).trans (congrFun (congrFun (gU_k (by decide)) 0) 56)))), ((n_70.2 0 0 0 (show (0 : Nat) ∉ _ from by decide)).trans (((congrFun (congrFun (congrFun est_68 0) 0) 0).trans (congrFun (congrFun (gU_k (by decide)) 0) 0)).trans ((congrFun (congrFun (congrFun est_67 0) 0) 0).trans (congrFun (congrFun (gU_k (by decide)) 0) 0))))⟩, (x_66 : Int32), (by rw [show st_70 33 0 = (upd (sv25 33 0) (y25_0.toNatClampNeg) (x_66 : Int32)) from ((funext (fun j9 => n_70.2 33 0 j9 (show (3300 : Nat) ∉ _ from by decide))).trans ((congrFun (congrFun est_68 33) 0).trans ((congrFun (gU_k (by decide)) 0).trans ((congrFun (congrFun est_67 33) 0).trans ((gU_at _ _ _ _ _).trans (congrArg (fun f9 => upd f9 (y25_0.toNatClampNeg) (x_66 : Int32)) rfl)))))), hx9]), by omega, by omega⟩ hM hS (lv_sub hl [2, 3, 4, 5, 6, 7] rfl)
    · have ic_65 := gz_nlt (rfl : x_64.toInt = x_64.toInt) (by decide : (1 : Int32).toInt = 1) c_65
      have hn9 := hS9.nx (fr := 0) (wh := x_64.toInt) (d := x_34.toInt) hB_sv25.1 hok (by omega) hwf (by omega) (Or.inr ⟨rfl, fun h9 => by have h8 := h9.1; have h7 := h9.2; omega⟩) (fun _ => by omega) (fun h9 => absurd h9 (by decide))
      rw [if_neg (by decide), if_neg (by omega)] at hn9
      obtain ⟨x_71, ex_71⟩ : ∃ y : Int32, y = y25_0 + (-1) := ⟨_, rfl⟩
      try have tx_71 : x_71.toInt = y25_0.toInt + (-1) := by rw [ex_71]; exact gz_addI (x := y25_0.toInt) (y := (-1)) rfl (by decide) (by omega) (by omega)
      refine lv_iinc (v := (x_71)) (lv' := [(3, .int x_71), (7, .int x_64), (6, .int 0), (5, .int x_34), (4, .int x_29), (0, .ref (ad 0 0)), (1, .int x), (2, .int y)]) hx hb dX10_plan_385 hl (k := 4) rfl (by rw [ex_71]; rfl) (by decide) rfl (fun ls hl => ?_)
      refine lv_goto (tgt := 195) hx hb dX10_plan_388 (by decide) ?_
      exact ih_25 sv25 (x_71 : Int32) H _ ls (by exact pMu_d (y := y25_0) (by omega) (by omega) (show (0 : Int) ≤ _ ∧ _ ≤ (8 : Int) from hB_sv25.1 33 0 _) hme25) hB_sv25 (by omega) (by omega) (hS9.back hn9 rfl (by omega)) hv25_3 hv25_4 hv25_5 hv25_6 hv25_7 hM hS (lv_sub hl [0, 5, 6, 7] rfl)
  · have ic_63 := gz_ne (rfl : x_62.toInt = x_62.toInt) (by decide : (0 : Int32).toInt = 0) c_63
    refine lv_aload_n hx hb dX10_plan_308 rfl (lv_at hl 3 rfl) ?_
    refine gs_get (C := RX10) (T := TX10) (N := 59) hx hb hts inX10 hown hK hM 0 0 47 (by decide) rfl rfl (by decide) (hts _ gm_944) (fun _ h9 => h9) rfl dX10_plan_309 ?_
    refine lv_iconst (v := 4) hx hb dX10_plan_312 (by decide) ?_
    refine lv_iload_n hx hb dX10_plan_313 rfl (lv_at hl 2 rfl) ?_
    refine lv_imul hx hb dX10_plan_314 ?_
    refine lv_topi (fun x_72 ex_72 => ?_)
    try have tx_72 : x_72.toInt = 4 * y25_0.toInt := by rw [ex_72]; exact gz_mulI (x := 4) (y := y25_0.toInt) (by decide) rfl (by omega) (by omega)
    refine lv_iload hx hb dX10_plan_315 (lv_at hl 1 rfl) ?_
    refine lv_iadd hx hb dX10_plan_317 ?_
    refine lv_topi (fun x_73 ex_73 => ?_)
    try have tx_73 : x_73.toInt = x_72.toInt + x_29.toInt := by rw [ex_73]; exact gz_addI (x := x_72.toInt) (y := x_29.toInt) rfl rfl (by omega) (by omega)
    refine gs_iald hx hb hK hM 31 0 (by decide) rfl (vp_in_iff.mpr ⟨by omega, by omega⟩) dX10_plan_318 ?_
    refine lv_topi (fun x_74 ex_74 => ?_)
    have qx_74 : x_74.toInt = (sv25 31 0 (x_73.toNatClampNeg)).toInt := congrArg Int32.toInt ex_74
    have ht9 : x_74.toInt = (sv25 31 0 (4 * as9.length + as9.length % 4)).toInt := (by have c_i := gs_cl (x := x_73) (by omega); rw [qx_74, show x_73.toNatClampNeg = 4 * as9.length + as9.length % 4 by omega])
    refine lv_iload hx hb dX10_plan_319 (lv_at hl 0 rfl) ?_
    refine lv_icmp_gt (tgt := 328) hx hb dX10_plan_321 (by decide) (fun c_75 => ?_) (fun c_75 => ?_)
    · have ic_75 := gz_lt (rfl : x_34.toInt = x_34.toInt) (rfl : x_74.toInt = x_74.toInt) c_75
      have lc_75 := gi_hi x_74
      refine lv_iconst (v := 0) hx hb dX10_plan_328 (by decide) ?_
      refine lv_istore (lv' := [(6, .int 0), (5, .int x_34), (4, .int x_29), (3, .int y25_0), (0, .ref (ad 0 0)), (1, .int x), (2, .int y)]) hx hb dX10_plan_329 hl (by decide) rfl (fun ls hl => ?_)
      refine lv_aload_n hx hb dX10_plan_331 rfl (lv_at hl 4 rfl) ?_
      refine gs_get (C := RX10) (T := TX10) (N := 59) hx hb hts inX10 hown hK hM 0 0 49 (by decide) rfl rfl (by decide) (hts _ gm_946) (fun _ h9 => h9) rfl dX10_plan_332 ?_
      refine lv_iload_n hx hb dX10_plan_335 rfl (lv_at hl 3 rfl) ?_
      refine gs_iald hx hb hK hM 33 0 (by decide) rfl (vp_in_iff.mpr ⟨by omega, by omega⟩) dX10_plan_336 ?_
      refine lv_topi (fun x_76 ex_76 => ?_)
      have qx_76 : x_76.toInt = (sv25 33 0 (y25_0.toNatClampNeg)).toInt := congrArg Int32.toInt ex_76
      have bx_76 : (0 : Int) ≤ x_76.toInt ∧ x_76.toInt ≤ (8 : Int) := by rw [qx_76]; exact hB_sv25.1 33 0 (y25_0.toNatClampNeg)
      have hq9 : x_76.toInt = (sv25 33 0 as9.length).toInt := (by rw [qx_76, hx9])
      have hb9 : (0 : Int) ≤ (sv25 33 0 as9.length).toInt ∧ (sv25 33 0 as9.length).toInt ≤ (8 : Int) := hB_sv25.1 33 0 _
      refine lv_istore (lv' := [(7, .int x_76), (6, .int 0), (5, .int x_34), (4, .int x_29), (3, .int y25_0), (0, .ref (ad 0 0)), (1, .int x), (2, .int y)]) hx hb dX10_plan_337 hl (by decide) rfl (fun ls hl => ?_)
      refine lv_iload hx hb dX10_plan_339 (lv_at hl 1 rfl) ?_
      refine lv_if_eq (tgt := 369) hx hb dX10_plan_341 (by decide) (fun _ => ?_) (fun h9 => absurd (by decide) h9)
      refine lv_iload hx hb dX10_plan_369 (lv_at hl 0 rfl) ?_
      refine lv_iload hx hb dX10_plan_371 (lv_at hl 1 rfl) ?_
      refine lv_if_eq (tgt := 381) hx hb dX10_plan_373 (by decide) (fun _ => ?_) (fun h9 => absurd (by decide) h9)
      refine lv_iconst (v := 1) hx hb dX10_plan_381 (by decide) ?_
      refine lv_icmp_lt (tgt := 391) hx hb dX10_plan_382 (by decide) (fun c_77 => ?_) (fun c_77 => ?_)
      · have ic_77 := gz_lt (rfl : x_76.toInt = x_76.toInt) (by decide : (1 : Int32).toInt = 1) c_77
        have hn9 := hS9.nx (fr := 0) (wh := x_76.toInt) (d := x_34.toInt) hB_sv25.1 hok (by omega) hwf (by omega) (Or.inr ⟨rfl, fun h9 => by have h8 := h9.1; have h7 := h9.2; omega⟩) (fun _ => by omega) (fun h9 => absurd h9 (by decide))
        rw [if_neg (by decide), if_pos (by omega)] at hn9
        refine lv_aload_n hx hb dX10_plan_391 rfl (lv_at hl 5 rfl) ?_
        refine gs_get (C := RX10) (T := TX10) (N := 59) hx hb hts inX10 hown hK hM 0 0 49 (by decide) rfl rfl (by decide) (hts _ gm_946) (fun _ h9 => h9) rfl dX10_plan_392 ?_
        refine lv_iload_n hx hb dX10_plan_395 rfl (lv_at hl 4 rfl) ?_
        refine lv_iload hx hb dX10_plan_396 (lv_at hl 0 rfl) ?_
        refine lv_iconst (v := 1) hx hb dX10_plan_398 (by decide) ?_
        refine lv_iadd hx hb dX10_plan_399 ?_
        refine lv_topi (fun x_78 ex_78 => ?_)
        try have tx_78 : x_78.toInt = x_76.toInt + 1 := by rw [ex_78]; exact gz_addP (x := x_76.toInt) (y := 1) rfl (by decide) (by omega) (by omega)
        refine gs_iast hx hb hK hI hm hM hS 33 0 (by decide) (fun _ => rfl) (vp_in_iff.mpr ⟨by omega, by omega⟩) dX10_plan_400 (fun st_79 H locs est_79 hM hS => ?_)
        have hB_st_79 : gBN bM kM [0, 55, 56, 57, 58, 2900, 3000, 3100, 3200, 3300, 3400, 3500, 3600, 3700, 3800] st st_79 := by rw [est_79]; exact hB_sv25.up (show (3300 : Nat) ∈ _ from by decide) (show (0 : Int) ≤ x_78.toInt from by omega) (show x_78.toInt ≤ (8 : Int) from by omega)
        refine lv_iload hx hb dX10_plan_401 (lv_at hl 1 rfl) ?_
        refine lv_if_eq (tgt := 426) hx hb dX10_plan_403 (by decide) (fun _ => ?_) (fun h9 => absurd (by decide) h9)
        refine lv_aload_n hx hb dX10_plan_426 rfl (lv_at hl 5 rfl) ?_
        refine gs_get (C := RX10) (T := TX10) (N := 59) hx hb hts inX10 hown hK hM 0 0 50 (by decide) rfl rfl (by decide) (hts _ gm_947) (fun _ h9 => h9) rfl dX10_plan_427 ?_
        refine lv_iload_n hx hb dX10_plan_430 rfl (lv_at hl 4 rfl) ?_
        refine lv_iload hx hb dX10_plan_431 (lv_at hl 1 rfl) ?_
        refine lv_if_eq (tgt := 441) hx hb dX10_plan_433 (by decide) (fun _ => ?_) (fun h9 => absurd (by decide) h9)
        refine lv_bipush (v := 9) hx hb dX10_plan_441 (by decide) ?_
        refine gs_iast hx hb hK hI hm hM hS 34 0 (by decide) (fun _ => rfl) (vp_in_iff.mpr ⟨by omega, by omega⟩) dX10_plan_443 (fun st_80 H locs est_80 hM hS => ?_)
        have hB_st_80 : gBN bM kM [0, 55, 56, 57, 58, 2900, 3000, 3100, 3200, 3300, 3400, 3500, 3600, 3700, 3800] st st_80 := by rw [est_80]; exact hB_st_79.up (show (3400 : Nat) ∈ _ from by decide) (gi_lo _) (gi_hi _)
        refine lv_aload_n hx hb dX10_plan_444 rfl (lv_at hl 5 rfl) ?_
        refine lv_iload_n hx hb dX10_plan_445 rfl (lv_at hl 4 rfl) ?_
        refine lv_iload hx hb dX10_plan_446 (lv_at hl 3 rfl) ?_
        refine lv_aload_n hx hb dX10_plan_448 rfl (lv_at hl 5 rfl) ?_
        refine gs_get (C := RX10) (T := TX10) (N := 59) hx hb hts inX10 hown hK hM 0 0 50 (by decide) rfl rfl (by decide) (hts _ gm_947) (fun _ h9 => h9) rfl dX10_plan_449 ?_
        refine lv_iload_n hx hb dX10_plan_452 rfl (lv_at hl 4 rfl) ?_
        refine gs_iald hx hb hK hM 34 0 (by decide) rfl (vp_in_iff.mpr ⟨by omega, by omega⟩) dX10_plan_453 ?_
        refine lv_topi (fun x_81 ex_81 => ?_)
        have qx_81 : x_81.toInt = (st_80 34 0 (y25_0.toNatClampNeg)).toInt := congrArg Int32.toInt ex_81
        have rx_81 : x_81.toInt = (9 : Int) := by rw [ex_81]; exact (congrArg Int32.toInt (((congrFun (congrFun (congrFun est_80 34) 0) (y25_0.toNatClampNeg)).trans (gU_same _ _ _ _ _)))).trans (by decide)
        refine lv_iload hx hb dX10_plan_454 (lv_at hl 2 rfl) ?_
        refine gs_callv (va_runV (As := [.int y25_0, .int x_29, .int x_81, .int x_34]) (rest := []) ⟨hx, hb, hml, hown, hts⟩ (m_goes l G cy sK sV ad H.size st_80 hB_st_80.1 y25_0 x_29 x_81 x_34 y25_0.toInt x_29.toInt x_81.toInt x_34.toInt rfl rfl rfl rfl (by first | decide | omega) (by first | decide | omega) (by first | decide | omega) (by first | decide | omega) (by first | decide | omega)) ⟨(gz_cb (n := 4) hts gm_1281 gm_12 gm_1284 ⟨by decide +kernel, by decide +kernel, by decide +kernel⟩ ⟨Nat.le_of_ble_eq_true rfl, Nat.le_of_ble_eq_true rfl⟩), hts _ gm_1283, hts _ gs_58⟩ (gs_preV hK hov hE hI hM hm hS hA 0 0 (by decide) rfl rfl) rfl rfl hl.1 rfl (lv_room (Nat.le_of_ble_eq_true rfl)) dX10_plan_456 ⟨Nat.le_of_ble_eq_true rfl, Nat.le_of_ble_eq_true rfl⟩) hm hS hA (fun st_82 H locs hw_82 hM hS => ?_)
        obtain ⟨n_82, hw_82⟩ := hw_82
        have hB_st_82 : gBN bM kM [0, 55, 56, 57, 58, 2900, 3000, 3100, 3200, 3300, 3400, 3500, 3600, 3700, 3800] st st_82 := hB_st_80.call n_82 (by decide)
        have hw_82_0 := hw_82
        have hj9 : jM rs st st_82 as9 9 := hS9.perf (v := st_80) (v33 := (x_78 : Int32)) (v34 := (9 : Int32)) hB_st_80.1 hok (by omega) (by have h7 : (0 : Int) ≤ (st 0 0 7).toInt ∧ (st 0 0 7).toInt ≤ (199 : Int) := hB 0 0 7; exact h7) hn9 (by omega) ⟨(((congrFun (congrFun est_80 29) 0).trans (congrFun (gU_k (by decide)) 0)).trans ((congrFun (congrFun est_79 29) 0).trans (congrFun (gU_k (by decide)) 0))), (((congrFun (congrFun est_80 30) 0).trans (congrFun (gU_k (by decide)) 0)).trans ((congrFun (congrFun est_79 30) 0).trans (congrFun (gU_k (by decide)) 0))), (((congrFun (congrFun est_80 31) 0).trans (congrFun (gU_k (by decide)) 0)).trans ((congrFun (congrFun est_79 31) 0).trans (congrFun (gU_k (by decide)) 0))), (((congrFun (congrFun est_80 32) 0).trans (congrFun (gU_k (by decide)) 0)).trans ((congrFun (congrFun est_79 32) 0).trans (congrFun (gU_k (by decide)) 0))), (((congrFun (congrFun est_80 35) 0).trans (congrFun (gU_k (by decide)) 0)).trans ((congrFun (congrFun est_79 35) 0).trans (congrFun (gU_k (by decide)) 0))), (((congrFun (congrFun est_80 36) 0).trans (congrFun (gU_k (by decide)) 0)).trans ((congrFun (congrFun est_79 36) 0).trans (congrFun (gU_k (by decide)) 0)))⟩ ⟨((congrFun (congrFun est_80 22) 0).trans ((congrFun (gU_k (by decide)) 0).trans ((congrFun (congrFun est_79 22) 0).trans ((congrFun (gU_k (by decide)) 0).trans ((funext (fun j9 => hB_sv25.2 22 0 j9 (show (2200 : Nat) ∉ _ from by decide))).trans rfl))))), ((congrFun (congrFun est_80 23) 0).trans ((congrFun (gU_k (by decide)) 0).trans ((congrFun (congrFun est_79 23) 0).trans ((congrFun (gU_k (by decide)) 0).trans ((funext (fun j9 => hB_sv25.2 23 0 j9 (show (2300 : Nat) ∉ _ from by decide))).trans rfl))))), ((congrFun (congrFun est_80 24) 0).trans ((congrFun (gU_k (by decide)) 0).trans ((congrFun (congrFun est_79 24) 0).trans ((congrFun (gU_k (by decide)) 0).trans ((funext (fun j9 => hB_sv25.2 24 0 j9 (show (2400 : Nat) ∉ _ from by decide))).trans rfl))))), ((congrFun (congrFun est_80 25) 0).trans ((congrFun (gU_k (by decide)) 0).trans ((congrFun (congrFun est_79 25) 0).trans ((congrFun (gU_k (by decide)) 0).trans ((funext (fun j9 => hB_sv25.2 25 0 j9 (show (2500 : Nat) ∉ _ from by decide))).trans rfl))))), ((congrFun (congrFun est_80 3) 0).trans ((congrFun (gU_k (by decide)) 0).trans ((congrFun (congrFun est_79 3) 0).trans ((congrFun (gU_k (by decide)) 0).trans ((funext (fun j9 => hB_sv25.2 3 0 j9 (show (300 : Nat) ∉ _ from by decide))).trans rfl))))), ((congrFun (congrFun est_80 2) 0).trans ((congrFun (gU_k (by decide)) 0).trans ((congrFun (congrFun est_79 2) 0).trans ((congrFun (gU_k (by decide)) 0).trans ((funext (fun j9 => hB_sv25.2 2 0 j9 (show (200 : Nat) ∉ _ from by decide))).trans rfl))))), ((congrFun (congrFun est_80 28) 0).trans ((congrFun (gU_k (by decide)) 0).trans ((congrFun (congrFun est_79 28) 0).trans ((congrFun (gU_k (by decide)) 0).trans ((funext (fun j9 => hB_sv25.2 28 0 j9 (show (2800 : Nat) ∉ _ from by decide))).trans rfl))))), ((congrFun (congrFun est_80 6) 0).trans ((congrFun (gU_k (by decide)) 0).trans ((congrFun (congrFun est_79 6) 0).trans ((congrFun (gU_k (by decide)) 0).trans ((funext (fun j9 => hB_sv25.2 6 0 j9 (show (600 : Nat) ∉ _ from by decide))).trans rfl))))), (((congrFun (congrFun (congrFun est_80 0) 0) 7).trans (congrFun (congrFun (gU_k (by decide)) 0) 7)).trans (((congrFun (congrFun (congrFun est_79 0) 0) 7).trans (congrFun (congrFun (gU_k (by decide)) 0) 7)).trans (hB_sv25.2 0 0 7 (show (7 : Nat) ∉ _ from by decide)))), ((congrFun (congrFun est_80 1) 0).trans ((congrFun (gU_k (by decide)) 0).trans ((congrFun (congrFun est_79 1) 0).trans ((congrFun (gU_k (by decide)) 0).trans ((funext (fun j9 => hB_sv25.2 1 0 j9 (show (100 : Nat) ∉ _ from by decide))).trans rfl)))))⟩ ⟨((funext (fun j9 => n_82.2 22 0 j9 (show (2200 : Nat) ∉ _ from by decide))).trans ((congrFun (congrFun est_80 22) 0).trans ((congrFun (gU_k (by decide)) 0).trans ((congrFun (congrFun est_79 22) 0).trans ((congrFun (gU_k (by decide)) 0).trans ((funext (fun j9 => hB_sv25.2 22 0 j9 (show (2200 : Nat) ∉ _ from by decide))).trans rfl)))))), ((funext (fun j9 => n_82.2 23 0 j9 (show (2300 : Nat) ∉ _ from by decide))).trans ((congrFun (congrFun est_80 23) 0).trans ((congrFun (gU_k (by decide)) 0).trans ((congrFun (congrFun est_79 23) 0).trans ((congrFun (gU_k (by decide)) 0).trans ((funext (fun j9 => hB_sv25.2 23 0 j9 (show (2300 : Nat) ∉ _ from by decide))).trans rfl)))))), ((funext (fun j9 => n_82.2 24 0 j9 (show (2400 : Nat) ∉ _ from by decide))).trans ((congrFun (congrFun est_80 24) 0).trans ((congrFun (gU_k (by decide)) 0).trans ((congrFun (congrFun est_79 24) 0).trans ((congrFun (gU_k (by decide)) 0).trans ((funext (fun j9 => hB_sv25.2 24 0 j9 (show (2400 : Nat) ∉ _ from by decide))).trans rfl)))))), ((funext (fun j9 => n_82.2 25 0 j9 (show (2500 : Nat) ∉ _ from by decide))).trans ((congrFun (congrFun est_80 25) 0).trans ((congrFun (gU_k (by decide)) 0).trans ((congrFun (congrFun est_79 25) 0).trans ((congrFun (gU_k (by decide)) 0).trans ((funext (fun j9 => hB_sv25.2 25 0 j9 (show (2500 : Nat) ∉ _ from by decide))).trans rfl)))))), ((funext (fun j9 => n_82.2 3 0 j9 (show (300 : Nat) ∉ _ from by decide))).trans ((congrFun (congrFun est_80 3) 0).trans ((congrFun (gU_k (by decide)) 0).trans ((congrFun (congrFun est_79 3) 0).trans ((congrFun (gU_k (by decide)) 0).trans ((funext (fun j9 => hB_sv25.2 3 0 j9 (show (300 : Nat) ∉ _ from by decide))).trans rfl)))))), ((funext (fun j9 => n_82.2 2 0 j9 (show (200 : Nat) ∉ _ from by decide))).trans ((congrFun (congrFun est_80 2) 0).trans ((congrFun (gU_k (by decide)) 0).trans ((congrFun (congrFun est_79 2) 0).trans ((congrFun (gU_k (by decide)) 0).trans ((funext (fun j9 => hB_sv25.2 2 0 j9 (show (200 : Nat) ∉ _ from by decide))).trans rfl)))))), ((funext (fun j9 => n_82.2 28 0 j9 (show (2800 : Nat) ∉ _ from by decide))).trans ((congrFun (congrFun est_80 28) 0).trans ((congrFun (gU_k (by decide)) 0).trans ((congrFun (congrFun est_79 28) 0).trans ((congrFun (gU_k (by decide)) 0).trans ((funext (fun j9 => hB_sv25.2 28 0 j9 (show (2800 : Nat) ∉ _ from by decide))).trans rfl)))))), ((funext (fun j9 => n_82.2 6 0 j9 (show (600 : Nat) ∉ _ from by decide))).trans ((congrFun (congrFun est_80 6) 0).trans ((congrFun (gU_k (by decide)) 0).trans ((congrFun (congrFun est_79 6) 0).trans ((congrFun (gU_k (by decide)) 0).trans ((funext (fun j9 => hB_sv25.2 6 0 j9 (show (600 : Nat) ∉ _ from by decide))).trans rfl)))))), ((n_82.2 0 0 7 (show (7 : Nat) ∉ _ from by decide)).trans (((congrFun (congrFun (congrFun est_80 0) 0) 7).trans (congrFun (congrFun (gU_k (by decide)) 0) 7)).trans (((congrFun (congrFun (congrFun est_79 0) 0) 7).trans (congrFun (congrFun (gU_k (by decide)) 0) 7)).trans (hB_sv25.2 0 0 7 (show (7 : Nat) ∉ _ from by decide))))), ((funext (fun j9 => n_82.2 1 0 j9 (show (100 : Nat) ∉ _ from by decide))).trans ((congrFun (congrFun est_80 1) 0).trans ((congrFun (gU_k (by decide)) 0).trans ((congrFun (congrFun est_79 1) 0).trans ((congrFun (gU_k (by decide)) 0).trans ((funext (fun j9 => hB_sv25.2 1 0 j9 (show (100 : Nat) ∉ _ from by decide))).trans rfl))))))⟩ (by have h9 := hw_82_0; rw [hx9, hh9, show x_81.toInt = 9 by omega] at h9; exact h9) hd9 (by rw [show st_82 33 0 = (upd (sv25 33 0) (y25_0.toNatClampNeg) (x_78 : Int32)) from ((funext (fun j9 => n_82.2 33 0 j9 (show (3300 : Nat) ∉ _ from by decide))).trans ((congrFun (congrFun est_80 33) 0).trans ((congrFun (gU_k (by decide)) 0).trans ((congrFun (congrFun est_79 33) 0).trans ((gU_at _ _ _ _ _).trans (congrArg (fun f9 => upd f9 (y25_0.toNatClampNeg) (x_78 : Int32)) rfl)))))), hx9]) (by rw [if_pos rfl]; have h9 : x_76.toInt = 0 := (by omega); omega) (by rw [show st_82 34 0 = (upd (sv25 34 0) (y25_0.toNatClampNeg) (9 : Int32)) from ((funext (fun j9 => n_82.2 34 0 j9 (show (3400 : Nat) ∉ _ from by decide))).trans ((congrFun (congrFun est_80 34) 0).trans ((gU_at _ _ _ _ _).trans (congrArg (fun f9 => upd f9 (y25_0.toNatClampNeg) (9 : Int32)) ((congrFun (congrFun est_79 34) 0).trans ((congrFun (gU_k (by decide)) 0).trans rfl)))))), hx9]) (by decide)
        exact jn35 st_82  H _ ls hB_st_82 ⟨9, hn9, by omega, (Or.inl rfl), hj9, (by rw [if_pos rfl]; exact (congrArg Int32.toInt ((n_82.2 0 0 57 (show (57 : Nat) ∉ _ from by decide)).trans (((congrFun (congrFun (congrFun est_80 0) 0) 57).trans (congrFun (congrFun (gU_k (by decide)) 0) 57)).trans ((congrFun (congrFun (congrFun est_79 0) 0) 57).trans (congrFun (congrFun (gU_k (by decide)) 0) 57))))).trans h57_9), ((congrArg Int32.toInt ((n_82.2 0 0 58 (show (58 : Nat) ∉ _ from by decide)).trans (((congrFun (congrFun (congrFun est_80 0) 0) 58).trans (congrFun (congrFun (gU_k (by decide)) 0) 58)).trans ((congrFun (congrFun (congrFun est_79 0) 0) 58).trans (congrFun (congrFun (gU_k (by decide)) 0) 58))))).trans h58_9), ⟨((funext fun j9 => n_82.2 37 0 j9 (show (3700 : Nat) ∉ _ from by decide)).trans (((congrFun (congrFun est_80 37) 0).trans (congrFun (gU_k (by decide)) 0)).trans ((congrFun (congrFun est_79 37) 0).trans (congrFun (gU_k (by decide)) 0)))), ((funext fun j9 => n_82.2 38 0 j9 (show (3800 : Nat) ∉ _ from by decide)).trans (((congrFun (congrFun est_80 38) 0).trans (congrFun (gU_k (by decide)) 0)).trans ((congrFun (congrFun est_79 38) 0).trans (congrFun (gU_k (by decide)) 0)))), ((n_82.2 0 0 55 (show (55 : Nat) ∉ _ from by decide)).trans (((congrFun (congrFun (congrFun est_80 0) 0) 55).trans (congrFun (congrFun (gU_k (by decide)) 0) 55)).trans ((congrFun (congrFun (congrFun est_79 0) 0) 55).trans (congrFun (congrFun (gU_k (by decide)) 0) 55)))), ((n_82.2 0 0 56 (show (56 : Nat) ∉ _ from by decide)).trans (((congrFun (congrFun (congrFun est_80 0) 0) 56).trans (congrFun (congrFun (gU_k (by decide)) 0) 56)).trans ((congrFun (congrFun (congrFun est_79 0) 0) 56).trans (congrFun (congrFun (gU_k (by decide)) 0) 56)))), ((n_82.2 0 0 0 (show (0 : Nat) ∉ _ from by decide)).trans (((congrFun (congrFun (congrFun est_80 0) 0) 0).trans (congrFun (congrFun (gU_k (by decide)) 0) 0)).trans ((congrFun (congrFun (congrFun est_79 0) 0) 0).trans (congrFun (congrFun (gU_k (by decide)) 0) 0))))⟩, (x_78 : Int32), (by rw [show st_82 33 0 = (upd (sv25 33 0) (y25_0.toNatClampNeg) (x_78 : Int32)) from ((funext (fun j9 => n_82.2 33 0 j9 (show (3300 : Nat) ∉ _ from by decide))).trans ((congrFun (congrFun est_80 33) 0).trans ((congrFun (gU_k (by decide)) 0).trans ((congrFun (congrFun est_79 33) 0).trans ((gU_at _ _ _ _ _).trans (congrArg (fun f9 => upd f9 (y25_0.toNatClampNeg) (x_78 : Int32)) rfl)))))), hx9]), by omega, by omega⟩ hM hS (lv_sub hl [2, 3, 4, 5, 6, 7] rfl)
      · have ic_77 := gz_nlt (rfl : x_76.toInt = x_76.toInt) (by decide : (1 : Int32).toInt = 1) c_77
        have hn9 := hS9.nx (fr := 0) (wh := x_76.toInt) (d := x_34.toInt) hB_sv25.1 hok (by omega) hwf (by omega) (Or.inr ⟨rfl, fun h9 => by have h8 := h9.1; have h7 := h9.2; omega⟩) (fun _ => by omega) (fun h9 => absurd h9 (by decide))
        rw [if_neg (by decide), if_neg (by omega)] at hn9
        obtain ⟨x_83, ex_83⟩ : ∃ y : Int32, y = y25_0 + (-1) := ⟨_, rfl⟩
        try have tx_83 : x_83.toInt = y25_0.toInt + (-1) := by rw [ex_83]; exact gz_addI (x := y25_0.toInt) (y := (-1)) rfl (by decide) (by omega) (by omega)
        refine lv_iinc (v := (x_83)) (lv' := [(3, .int x_83), (7, .int x_76), (6, .int 0), (5, .int x_34), (4, .int x_29), (0, .ref (ad 0 0)), (1, .int x), (2, .int y)]) hx hb dX10_plan_385 hl (k := 4) rfl (by rw [ex_83]; rfl) (by decide) rfl (fun ls hl => ?_)
        refine lv_goto (tgt := 195) hx hb dX10_plan_388 (by decide) ?_
        exact ih_25 sv25 (x_83 : Int32) H _ ls (by exact pMu_d (y := y25_0) (by omega) (by omega) (show (0 : Int) ≤ _ ∧ _ ≤ (8 : Int) from hB_sv25.1 33 0 _) hme25) hB_sv25 (by omega) (by omega) (hS9.back hn9 rfl (by omega)) hv25_3 hv25_4 hv25_5 hv25_6 hv25_7 hM hS (lv_sub hl [0, 5, 6, 7] rfl)
    · have ic_75 := gz_nlt (rfl : x_34.toInt = x_34.toInt) (rfl : x_74.toInt = x_74.toInt) c_75
      refine lv_iconst (v := 1) hx hb dX10_plan_324 (by decide) ?_
      refine lv_goto (tgt := 329) hx hb dX10_plan_325 (by decide) ?_
      refine lv_istore (lv' := [(6, .int 1), (5, .int x_34), (4, .int x_29), (3, .int y25_0), (0, .ref (ad 0 0)), (1, .int x), (2, .int y)]) hx hb dX10_plan_329 hl (by decide) rfl (fun ls hl => ?_)
      refine lv_aload_n hx hb dX10_plan_331 rfl (lv_at hl 4 rfl) ?_
      refine gs_get (C := RX10) (T := TX10) (N := 59) hx hb hts inX10 hown hK hM 0 0 49 (by decide) rfl rfl (by decide) (hts _ gm_946) (fun _ h9 => h9) rfl dX10_plan_332 ?_
      refine lv_iload_n hx hb dX10_plan_335 rfl (lv_at hl 3 rfl) ?_
      refine gs_iald hx hb hK hM 33 0 (by decide) rfl (vp_in_iff.mpr ⟨by omega, by omega⟩) dX10_plan_336 ?_
      refine lv_topi (fun x_84 ex_84 => ?_)
      have qx_84 : x_84.toInt = (sv25 33 0 (y25_0.toNatClampNeg)).toInt := congrArg Int32.toInt ex_84
      have bx_84 : (0 : Int) ≤ x_84.toInt ∧ x_84.toInt ≤ (8 : Int) := by rw [qx_84]; exact hB_sv25.1 33 0 (y25_0.toNatClampNeg)
      have hq9 : x_84.toInt = (sv25 33 0 as9.length).toInt := (by rw [qx_84, hx9])
      have hb9 : (0 : Int) ≤ (sv25 33 0 as9.length).toInt ∧ (sv25 33 0 as9.length).toInt ≤ (8 : Int) := hB_sv25.1 33 0 _
      refine lv_istore (lv' := [(7, .int x_84), (6, .int 1), (5, .int x_34), (4, .int x_29), (3, .int y25_0), (0, .ref (ad 0 0)), (1, .int x), (2, .int y)]) hx hb dX10_plan_337 hl (by decide) rfl (fun ls hl => ?_)
      refine lv_iload hx hb dX10_plan_339 (lv_at hl 1 rfl) ?_
      refine lv_if_eq (tgt := 369) hx hb dX10_plan_341 (by decide) (fun h9 => absurd h9 (by decide)) (fun _ => ?_)
      have lp85 : ∀ (n85 : Nat)  (y85_0 : Int32) (H : Heap) (locs : List Loc) (ls : Array Slot), (8 - y85_0.toInt).toNat < n85 →  ((sv25 33 0 y25_0.toNatClampNeg).toInt ≤ y85_0.toInt) → (0 ≤ y85_0.toInt) → (y85_0.toInt ≤ 8) → (noA (cdM rs sv25 y25_0.toNatClampNeg x_29.toNatClampNeg) (x_84.toInt - 1) y85_0.toInt) → gM G (shM cy ad) cnM ad sv25 H → va_S A s.heap H locs → lv_has ls 8 [(7, .int y85_0), (6, .int 1), (5, .int x_34), (4, .int x_29), (3, .int y25_0), (0, .ref (ad 0 0)), (1, .int x), (2, .int y)] → W p l e ({ frames := 2, cells := 0, slots := 0, locals := 53 } : Room) s m [.ref (ad 0 0), .int x, .int y].toArray below meth c H locs 0 0 Q (F0 m 344 ls []) := by
        intro n85
        induction n85 with
        | zero => intro  y85_0 H locs ls h9; exact absurd h9 (Nat.not_lt_zero _)
        | succ n85 ih_85 =>
          intro  y85_0 H locs ls hme85  hv85_0 hv85_1 hv85_2 hv85_3 hM hS hl
          refine lv_iload hx hb dX10_plan_344 (lv_at hl 0 rfl) ?_
          refine lv_bipush (v := 8) hx hb dX10_plan_346 (by decide) ?_
          refine lv_icmp_ge (tgt := 369) hx hb dX10_plan_348 (by decide) (fun c_86 => ?_) (fun c_86 => ?_)
          · have ic_86 := gz_le (by decide : (8 : Int32).toInt = 8) (rfl : y85_0.toInt = y85_0.toInt) c_86
            refine lv_iload hx hb dX10_plan_369 (lv_at hl 0 rfl) ?_
            refine lv_iload hx hb dX10_plan_371 (lv_at hl 1 rfl) ?_
            refine lv_if_eq (tgt := 381) hx hb dX10_plan_373 (by decide) (fun h9 => absurd h9 (by decide)) (fun _ => ?_)
            refine lv_bipush (v := 8) hx hb dX10_plan_376 (by decide) ?_
            refine lv_goto (tgt := 382) hx hb dX10_plan_378 (by decide) ?_
            refine lv_icmp_lt (tgt := 391) hx hb dX10_plan_382 (by decide) (fun c_87 => ?_) (fun c_87 => ?_)
            · have ic_87 := gz_lt (rfl : y85_0.toInt = y85_0.toInt) (by decide : (8 : Int32).toInt = 8) c_87
              exfalso; omega
            · have ic_87 := gz_nlt (rfl : y85_0.toInt = y85_0.toInt) (by decide : (8 : Int32).toInt = 8) c_87
              have hn9 := hS9.nx (fr := 1) (wh := y85_0.toInt) (d := x_34.toInt) hB_sv25.1 hok (by omega) hwf (by omega) (Or.inl ⟨rfl, by omega, by omega⟩) (fun h9 => absurd h9 (by decide)) (fun _ => ⟨by omega, by omega, (by have h9 := hv85_3; rw [hx9, hh9] at h9; rw [← hq9]; exact h9), (fun h9 => by exfalso; omega)⟩)
              rw [if_pos rfl, if_neg (by omega)] at hn9
              obtain ⟨x_88, ex_88⟩ : ∃ y : Int32, y = y25_0 + (-1) := ⟨_, rfl⟩
              try have tx_88 : x_88.toInt = y25_0.toInt + (-1) := by rw [ex_88]; exact gz_addI (x := y25_0.toInt) (y := (-1)) rfl (by decide) (by omega) (by omega)
              refine lv_iinc (v := (x_88)) (lv' := [(3, .int x_88), (7, .int y85_0), (6, .int 1), (5, .int x_34), (4, .int x_29), (0, .ref (ad 0 0)), (1, .int x), (2, .int y)]) hx hb dX10_plan_385 hl (k := 4) rfl (by rw [ex_88]; rfl) (by decide) rfl (fun ls hl => ?_)
              refine lv_goto (tgt := 195) hx hb dX10_plan_388 (by decide) ?_
              exact ih_25 sv25 (x_88 : Int32) H _ ls (by exact pMu_d (y := y25_0) (by omega) (by omega) (show (0 : Int) ≤ _ ∧ _ ≤ (8 : Int) from hB_sv25.1 33 0 _) hme25) hB_sv25 (by omega) (by omega) (hS9.back hn9 rfl (by omega)) hv25_3 hv25_4 hv25_5 hv25_6 hv25_7 hM hS (lv_sub hl [0, 5, 6, 7] rfl)
          · have ic_86 := gz_nle (by decide : (8 : Int32).toInt = 8) (rfl : y85_0.toInt = y85_0.toInt) c_86
            refine lv_aload_n hx hb dX10_plan_351 rfl (lv_at hl 5 rfl) ?_
            refine lv_iload_n hx hb dX10_plan_352 rfl (lv_at hl 4 rfl) ?_
            refine lv_iload hx hb dX10_plan_353 (lv_at hl 3 rfl) ?_
            refine lv_iload hx hb dX10_plan_355 (lv_at hl 0 rfl) ?_
            refine gs_calli (va_runV (As := [.int y25_0, .int x_29, .int y85_0]) (rest := []) ⟨hx, hb, hml, hown, hts⟩ (m_mayDo l G cy sK sV ad H.size sv25 hB_sv25.1 y25_0 x_29 y85_0 y25_0.toInt x_29.toInt y85_0.toInt rfl rfl rfl (by first | decide | omega) (by first | decide | omega) (by first | decide | omega) (by first | decide | omega) (by first | decide | omega) (by first | decide | omega) rs bk ((congrArg Int32.toInt ((hB_sv25.2 0 0 28 (show (28 : Nat) ∉ _ from by decide)))).trans hbk) ((congrArg Int32.toInt ((hB_sv25.2 0 0 29 (show (29 : Nat) ∉ _ from by decide)))).trans hru) (LM.all hLM (mA.trans mA.rf (mA.frame hB_sv25.2 (by decide)))) hwf) ⟨(gz_cb (n := 3) hts gm_1277 gm_12 gm_1280 ⟨by decide +kernel, by decide +kernel, by decide +kernel⟩ ⟨Nat.le_of_ble_eq_true rfl, Nat.le_of_ble_eq_true rfl⟩), hts _ gm_1279, hts _ gs_57⟩ (gs_preV hK hov hE hI hM hm hS hA 0 0 (by decide) rfl rfl) rfl rfl hl.1 rfl (lv_room (Nat.le_of_ble_eq_true rfl)) dX10_plan_357 ⟨Nat.le_of_ble_eq_true rfl, Nat.le_of_ble_eq_true rfl⟩) hm hS hA (fun r_89 st_89 H locs hw_89 hM hS => ?_)
            obtain ⟨n_89, hw_89⟩ := hw_89
            have n_89 := gBN.nil n_89
            subst n_89
            rcases hw_89 with ⟨rfl, hw_89_0⟩ | ⟨rfl, hw_89_0⟩
            · skip
              refine lv_if_ne (tgt := 369) hx hb dX10_plan_360 (by decide) (fun _ => ?_) (fun h9 => absurd h9 (by decide))
              refine lv_iload hx hb dX10_plan_369 (lv_at hl 0 rfl) ?_
              refine lv_iload hx hb dX10_plan_371 (lv_at hl 1 rfl) ?_
              refine lv_if_eq (tgt := 381) hx hb dX10_plan_373 (by decide) (fun h9 => absurd h9 (by decide)) (fun _ => ?_)
              refine lv_bipush (v := 8) hx hb dX10_plan_376 (by decide) ?_
              refine lv_goto (tgt := 382) hx hb dX10_plan_378 (by decide) ?_
              refine lv_icmp_lt (tgt := 391) hx hb dX10_plan_382 (by decide) (fun c_90 => ?_) (fun c_90 => ?_)
              · have ic_90 := gz_lt (rfl : y85_0.toInt = y85_0.toInt) (by decide : (8 : Int32).toInt = 8) c_90
                have hn9 := hS9.nx (fr := 1) (wh := y85_0.toInt) (d := x_34.toInt) hB_sv25.1 hok (by omega) hwf (by omega) (Or.inl ⟨rfl, by omega, by omega⟩) (fun h9 => absurd h9 (by decide)) (fun _ => ⟨by omega, by omega, (by have h9 := hv85_3; rw [hx9, hh9] at h9; rw [← hq9]; exact h9), (fun h9 => by have h8 := hw_89_0; rw [hx9, hh9] at h8; exact h8)⟩)
                rw [if_pos rfl, if_pos (by omega)] at hn9
                refine lv_aload_n hx hb dX10_plan_391 rfl (lv_at hl 5 rfl) ?_
                refine gs_get (C := RX10) (T := TX10) (N := 59) hx hb hts inX10 hown hK hM 0 0 49 (by decide) rfl rfl (by decide) (hts _ gm_946) (fun _ h9 => h9) rfl dX10_plan_392 ?_
                refine lv_iload_n hx hb dX10_plan_395 rfl (lv_at hl 4 rfl) ?_
                refine lv_iload hx hb dX10_plan_396 (lv_at hl 0 rfl) ?_
                refine lv_iconst (v := 1) hx hb dX10_plan_398 (by decide) ?_
                refine lv_iadd hx hb dX10_plan_399 ?_
                refine lv_topi (fun x_91 ex_91 => ?_)
                try have tx_91 : x_91.toInt = y85_0.toInt + 1 := by rw [ex_91]; exact gz_addP (x := y85_0.toInt) (y := 1) rfl (by decide) (by omega) (by omega)
                refine gs_iast hx hb hK hI hm hM hS 33 0 (by decide) (fun _ => rfl) (vp_in_iff.mpr ⟨by omega, by omega⟩) dX10_plan_400 (fun st_92 H locs est_92 hM hS => ?_)
                have hB_st_92 : gBN bM kM [0, 55, 56, 57, 58, 2900, 3000, 3100, 3200, 3300, 3400, 3500, 3600, 3700, 3800] st st_92 := by rw [est_92]; exact hB_sv25.up (show (3300 : Nat) ∈ _ from by decide) (show (0 : Int) ≤ x_91.toInt from by omega) (show x_91.toInt ≤ (8 : Int) from by omega)
                refine lv_iload hx hb dX10_plan_401 (lv_at hl 1 rfl) ?_
                refine lv_if_eq (tgt := 426) hx hb dX10_plan_403 (by decide) (fun h9 => absurd h9 (by decide)) (fun _ => ?_)
                refine lv_aload_n hx hb dX10_plan_406 rfl (lv_at hl 5 rfl) ?_
                refine gs_get (C := RX10) (T := TX10) (N := 59) hx hb hts inX10 hown hK hM 0 0 57 (by decide) rfl rfl (by decide) (hts _ gm_954) (fun _ h9 => h9) rfl dX10_plan_407 ?_
                refine lv_topi (fun x_93 ex_93 => ?_)
                have ex_93 : (sv25 0 0 57) = x_93 := Eq.symm (ex_93.trans ((congrFun (congrFun (congrFun est_92 0) 0) 57).trans (congrFun (congrFun (gU_k (by decide)) 0) 57)))
                subst ex_93
                refine lv_iload_n hx hb dX10_plan_410 rfl (lv_at hl 7 rfl) ?_
                refine lv_icmp_ne (tgt := 416) hx hb dX10_plan_411 (by decide) (fun c_95 => ?_) (fun c_95 => ?_)
                · have ic_95 := gz_ne (rfl : (sv25 0 0 57).toInt = (sv25 0 0 57).toInt) (rfl : y.toInt = y.toInt) c_95
                  refine lv_aload_n hx hb dX10_plan_416 rfl (lv_at hl 5 rfl) ?_
                  refine lv_dup hx hb dX10_plan_417 rfl ?_
                  refine gs_get (C := RX10) (T := TX10) (N := 59) hx hb hts inX10 hown hK hM 0 0 57 (by decide) rfl rfl (by decide) (hts _ gm_954) (fun _ h9 => h9) rfl dX10_plan_418 ?_
                  refine lv_topi (fun x_96 ex_96 => ?_)
                  have ex_96 : (sv25 0 0 57) = x_96 := Eq.symm (ex_96.trans ((congrFun (congrFun (congrFun est_92 0) 0) 57).trans (congrFun (congrFun (gU_k (by decide)) 0) 57)))
                  subst ex_96
                  refine lv_iconst (v := 1) hx hb dX10_plan_421 (by decide) ?_
                  refine lv_iadd hx hb dX10_plan_422 ?_
                  refine lv_topi (fun x_98 ex_98 => ?_)
                  try have tx_98 : x_98.toInt = (sv25 0 0 57).toInt + 1 := by rw [ex_98]; exact gz_addP (x := (sv25 0 0 57).toInt) (y := 1) rfl (by decide) (by omega) (by omega)
                  refine gs_put (C := RX10) (T := TX10) (N := 59) (ty := .int) (val := .int x_98) hx hb hts inX10 tyX10 tyX10_ok nmX10 hown hK hI hm hM hS 0 0 57 (by decide) rfl rfl (by decide) (hts _ gm_954) (fun _ h9 => h9) rfl (x_98 : Int32) rfl (by decide +kernel) rfl rfl (Nat.le_of_ble_eq_true rfl) dX10_plan_423 (fun st_99 H locs est_99 hM hS => ?_)
                  have hB_st_99 : gBN bM kM [0, 55, 56, 57, 58, 2900, 3000, 3100, 3200, 3300, 3400, 3500, 3600, 3700, 3800] st st_99 := by rw [est_99]; exact hB_st_92.up (show (57 : Nat) ∈ _ from by decide) (gi_lo _) (gi_hi _)
                  refine lv_aload_n hx hb dX10_plan_426 rfl (lv_at hl 5 rfl) ?_
                  refine gs_get (C := RX10) (T := TX10) (N := 59) hx hb hts inX10 hown hK hM 0 0 50 (by decide) rfl rfl (by decide) (hts _ gm_947) (fun _ h9 => h9) rfl dX10_plan_427 ?_
                  refine lv_iload_n hx hb dX10_plan_430 rfl (lv_at hl 4 rfl) ?_
                  refine lv_iload hx hb dX10_plan_431 (lv_at hl 1 rfl) ?_
                  refine lv_if_eq (tgt := 441) hx hb dX10_plan_433 (by decide) (fun h9 => absurd h9 (by decide)) (fun _ => ?_)
                  refine lv_iload hx hb dX10_plan_436 (lv_at hl 0 rfl) ?_
                  refine lv_goto (tgt := 443) hx hb dX10_plan_438 (by decide) ?_
                  refine gs_iast hx hb hK hI hm hM hS 34 0 (by decide) (fun _ => rfl) (vp_in_iff.mpr ⟨by omega, by omega⟩) dX10_plan_443 (fun st_100 H locs est_100 hM hS => ?_)
                  have hB_st_100 : gBN bM kM [0, 55, 56, 57, 58, 2900, 3000, 3100, 3200, 3300, 3400, 3500, 3600, 3700, 3800] st st_100 := by rw [est_100]; exact hB_st_99.up (show (3400 : Nat) ∈ _ from by decide) (gi_lo _) (gi_hi _)
                  refine lv_aload_n hx hb dX10_plan_444 rfl (lv_at hl 5 rfl) ?_
                  refine lv_iload_n hx hb dX10_plan_445 rfl (lv_at hl 4 rfl) ?_
                  refine lv_iload hx hb dX10_plan_446 (lv_at hl 3 rfl) ?_
                  refine lv_aload_n hx hb dX10_plan_448 rfl (lv_at hl 5 rfl) ?_
                  refine gs_get (C := RX10) (T := TX10) (N := 59) hx hb hts inX10 hown hK hM 0 0 50 (by decide) rfl rfl (by decide) (hts _ gm_947) (fun _ h9 => h9) rfl dX10_plan_449 ?_
                  refine lv_iload_n hx hb dX10_plan_452 rfl (lv_at hl 4 rfl) ?_
                  refine gs_iald hx hb hK hM 34 0 (by decide) rfl (vp_in_iff.mpr ⟨by omega, by omega⟩) dX10_plan_453 ?_
                  refine lv_topi (fun x_101 ex_101 => ?_)
                  have qx_101 : x_101.toInt = (st_100 34 0 (y25_0.toNatClampNeg)).toInt := congrArg Int32.toInt ex_101
                  have rx_101 : x_101.toInt = (y85_0 : Int32).toInt := by rw [ex_101]; exact congrArg Int32.toInt (((congrFun (congrFun (congrFun est_100 34) 0) (y25_0.toNatClampNeg)).trans (gU_same _ _ _ _ _)))
                  refine lv_iload hx hb dX10_plan_454 (lv_at hl 2 rfl) ?_
                  refine gs_callv (va_runV (As := [.int y25_0, .int x_29, .int x_101, .int x_34]) (rest := []) ⟨hx, hb, hml, hown, hts⟩ (m_goes l G cy sK sV ad H.size st_100 hB_st_100.1 y25_0 x_29 x_101 x_34 y25_0.toInt x_29.toInt x_101.toInt x_34.toInt rfl rfl rfl rfl (by first | decide | omega) (by first | decide | omega) (by first | decide | omega) (by first | decide | omega) (by first | decide | omega)) ⟨(gz_cb (n := 4) hts gm_1281 gm_12 gm_1284 ⟨by decide +kernel, by decide +kernel, by decide +kernel⟩ ⟨Nat.le_of_ble_eq_true rfl, Nat.le_of_ble_eq_true rfl⟩), hts _ gm_1283, hts _ gs_58⟩ (gs_preV hK hov hE hI hM hm hS hA 0 0 (by decide) rfl rfl) rfl rfl hl.1 rfl (lv_room (Nat.le_of_ble_eq_true rfl)) dX10_plan_456 ⟨Nat.le_of_ble_eq_true rfl, Nat.le_of_ble_eq_true rfl⟩) hm hS hA (fun st_102 H locs hw_102 hM hS => ?_)
                  obtain ⟨n_102, hw_102⟩ := hw_102
                  have hB_st_102 : gBN bM kM [0, 55, 56, 57, 58, 2900, 3000, 3100, 3200, 3300, 3400, 3500, 3600, 3700, 3800] st st_102 := hB_st_100.call n_102 (by decide)
                  have hw_102_0 := hw_102
                  have hj9 : jM rs st st_102 as9 y85_0.toInt := hS9.perf (v := st_100) (v33 := (x_91 : Int32)) (v34 := (y85_0 : Int32)) hB_st_100.1 hok (by omega) (by have h7 : (0 : Int) ≤ (st 0 0 7).toInt ∧ (st 0 0 7).toInt ≤ (199 : Int) := hB 0 0 7; exact h7) hn9 (by omega) ⟨(((congrFun (congrFun est_100 29) 0).trans (congrFun (gU_k (by decide)) 0)).trans (((congrFun (congrFun est_99 29) 0).trans (congrFun (gU_k (by decide)) 0)).trans ((congrFun (congrFun est_92 29) 0).trans (congrFun (gU_k (by decide)) 0)))), (((congrFun (congrFun est_100 30) 0).trans (congrFun (gU_k (by decide)) 0)).trans (((congrFun (congrFun est_99 30) 0).trans (congrFun (gU_k (by decide)) 0)).trans ((congrFun (congrFun est_92 30) 0).trans (congrFun (gU_k (by decide)) 0)))), (((congrFun (congrFun est_100 31) 0).trans (congrFun (gU_k (by decide)) 0)).trans (((congrFun (congrFun est_99 31) 0).trans (congrFun (gU_k (by decide)) 0)).trans ((congrFun (congrFun est_92 31) 0).trans (congrFun (gU_k (by decide)) 0)))), (((congrFun (congrFun est_100 32) 0).trans (congrFun (gU_k (by decide)) 0)).trans (((congrFun (congrFun est_99 32) 0).trans (congrFun (gU_k (by decide)) 0)).trans ((congrFun (congrFun est_92 32) 0).trans (congrFun (gU_k (by decide)) 0)))), (((congrFun (congrFun est_100 35) 0).trans (congrFun (gU_k (by decide)) 0)).trans (((congrFun (congrFun est_99 35) 0).trans (congrFun (gU_k (by decide)) 0)).trans ((congrFun (congrFun est_92 35) 0).trans (congrFun (gU_k (by decide)) 0)))), (((congrFun (congrFun est_100 36) 0).trans (congrFun (gU_k (by decide)) 0)).trans (((congrFun (congrFun est_99 36) 0).trans (congrFun (gU_k (by decide)) 0)).trans ((congrFun (congrFun est_92 36) 0).trans (congrFun (gU_k (by decide)) 0))))⟩ ⟨((congrFun (congrFun est_100 22) 0).trans ((congrFun (gU_k (by decide)) 0).trans ((congrFun (congrFun est_99 22) 0).trans ((congrFun (gU_k (by decide)) 0).trans ((congrFun (congrFun est_92 22) 0).trans ((congrFun (gU_k (by decide)) 0).trans ((funext (fun j9 => hB_sv25.2 22 0 j9 (show (2200 : Nat) ∉ _ from by decide))).trans rfl))))))), ((congrFun (congrFun est_100 23) 0).trans ((congrFun (gU_k (by decide)) 0).trans ((congrFun (congrFun est_99 23) 0).trans ((congrFun (gU_k (by decide)) 0).trans ((congrFun (congrFun est_92 23) 0).trans ((congrFun (gU_k (by decide)) 0).trans ((funext (fun j9 => hB_sv25.2 23 0 j9 (show (2300 : Nat) ∉ _ from by decide))).trans rfl))))))), ((congrFun (congrFun est_100 24) 0).trans ((congrFun (gU_k (by decide)) 0).trans ((congrFun (congrFun est_99 24) 0).trans ((congrFun (gU_k (by decide)) 0).trans ((congrFun (congrFun est_92 24) 0).trans ((congrFun (gU_k (by decide)) 0).trans ((funext (fun j9 => hB_sv25.2 24 0 j9 (show (2400 : Nat) ∉ _ from by decide))).trans rfl))))))), ((congrFun (congrFun est_100 25) 0).trans ((congrFun (gU_k (by decide)) 0).trans ((congrFun (congrFun est_99 25) 0).trans ((congrFun (gU_k (by decide)) 0).trans ((congrFun (congrFun est_92 25) 0).trans ((congrFun (gU_k (by decide)) 0).trans ((funext (fun j9 => hB_sv25.2 25 0 j9 (show (2500 : Nat) ∉ _ from by decide))).trans rfl))))))), ((congrFun (congrFun est_100 3) 0).trans ((congrFun (gU_k (by decide)) 0).trans ((congrFun (congrFun est_99 3) 0).trans ((congrFun (gU_k (by decide)) 0).trans ((congrFun (congrFun est_92 3) 0).trans ((congrFun (gU_k (by decide)) 0).trans ((funext (fun j9 => hB_sv25.2 3 0 j9 (show (300 : Nat) ∉ _ from by decide))).trans rfl))))))), ((congrFun (congrFun est_100 2) 0).trans ((congrFun (gU_k (by decide)) 0).trans ((congrFun (congrFun est_99 2) 0).trans ((congrFun (gU_k (by decide)) 0).trans ((congrFun (congrFun est_92 2) 0).trans ((congrFun (gU_k (by decide)) 0).trans ((funext (fun j9 => hB_sv25.2 2 0 j9 (show (200 : Nat) ∉ _ from by decide))).trans rfl))))))), ((congrFun (congrFun est_100 28) 0).trans ((congrFun (gU_k (by decide)) 0).trans ((congrFun (congrFun est_99 28) 0).trans ((congrFun (gU_k (by decide)) 0).trans ((congrFun (congrFun est_92 28) 0).trans ((congrFun (gU_k (by decide)) 0).trans ((funext (fun j9 => hB_sv25.2 28 0 j9 (show (2800 : Nat) ∉ _ from by decide))).trans rfl))))))), ((congrFun (congrFun est_100 6) 0).trans ((congrFun (gU_k (by decide)) 0).trans ((congrFun (congrFun est_99 6) 0).trans ((congrFun (gU_k (by decide)) 0).trans ((congrFun (congrFun est_92 6) 0).trans ((congrFun (gU_k (by decide)) 0).trans ((funext (fun j9 => hB_sv25.2 6 0 j9 (show (600 : Nat) ∉ _ from by decide))).trans rfl))))))), (((congrFun (congrFun (congrFun est_100 0) 0) 7).trans (congrFun (congrFun (gU_k (by decide)) 0) 7)).trans (((congrFun (congrFun (congrFun est_99 0) 0) 7).trans (gU_other (by decide))).trans (((congrFun (congrFun (congrFun est_92 0) 0) 7).trans (congrFun (congrFun (gU_k (by decide)) 0) 7)).trans (hB_sv25.2 0 0 7 (show (7 : Nat) ∉ _ from by decide))))), ((congrFun (congrFun est_100 1) 0).trans ((congrFun (gU_k (by decide)) 0).trans ((congrFun (congrFun est_99 1) 0).trans ((congrFun (gU_k (by decide)) 0).trans ((congrFun (congrFun est_92 1) 0).trans ((congrFun (gU_k (by decide)) 0).trans ((funext (fun j9 => hB_sv25.2 1 0 j9 (show (100 : Nat) ∉ _ from by decide))).trans rfl)))))))⟩ ⟨((funext (fun j9 => n_102.2 22 0 j9 (show (2200 : Nat) ∉ _ from by decide))).trans ((congrFun (congrFun est_100 22) 0).trans ((congrFun (gU_k (by decide)) 0).trans ((congrFun (congrFun est_99 22) 0).trans ((congrFun (gU_k (by decide)) 0).trans ((congrFun (congrFun est_92 22) 0).trans ((congrFun (gU_k (by decide)) 0).trans ((funext (fun j9 => hB_sv25.2 22 0 j9 (show (2200 : Nat) ∉ _ from by decide))).trans rfl)))))))), ((funext (fun j9 => n_102.2 23 0 j9 (show (2300 : Nat) ∉ _ from by decide))).trans ((congrFun (congrFun est_100 23) 0).trans ((congrFun (gU_k (by decide)) 0).trans ((congrFun (congrFun est_99 23) 0).trans ((congrFun (gU_k (by decide)) 0).trans ((congrFun (congrFun est_92 23) 0).trans ((congrFun (gU_k (by decide)) 0).trans ((funext (fun j9 => hB_sv25.2 23 0 j9 (show (2300 : Nat) ∉ _ from by decide))).trans rfl)))))))), ((funext (fun j9 => n_102.2 24 0 j9 (show (2400 : Nat) ∉ _ from by decide))).trans ((congrFun (congrFun est_100 24) 0).trans ((congrFun (gU_k (by decide)) 0).trans ((congrFun (congrFun est_99 24) 0).trans ((congrFun (gU_k (by decide)) 0).trans ((congrFun (congrFun est_92 24) 0).trans ((congrFun (gU_k (by decide)) 0).trans ((funext (fun j9 => hB_sv25.2 24 0 j9 (show (2400 : Nat) ∉ _ from by decide))).trans rfl)))))))), ((funext (fun j9 => n_102.2 25 0 j9 (show (2500 : Nat) ∉ _ from by decide))).trans ((congrFun (congrFun est_100 25) 0).trans ((congrFun (gU_k (by decide)) 0).trans ((congrFun (congrFun est_99 25) 0).trans ((congrFun (gU_k (by decide)) 0).trans ((congrFun (congrFun est_92 25) 0).trans ((congrFun (gU_k (by decide)) 0).trans ((funext (fun j9 => hB_sv25.2 25 0 j9 (show (2500 : Nat) ∉ _ from by decide))).trans rfl)))))))), ((funext (fun j9 => n_102.2 3 0 j9 (show (300 : Nat) ∉ _ from by decide))).trans ((congrFun (congrFun est_100 3) 0).trans ((congrFun (gU_k (by decide)) 0).trans ((congrFun (congrFun est_99 3) 0).trans ((congrFun (gU_k (by decide)) 0).trans ((congrFun (congrFun est_92 3) 0).trans ((congrFun (gU_k (by decide)) 0).trans ((funext (fun j9 => hB_sv25.2 3 0 j9 (show (300 : Nat) ∉ _ from by decide))).trans rfl)))))))), ((funext (fun j9 => n_102.2 2 0 j9 (show (200 : Nat) ∉ _ from by decide))).trans ((congrFun (congrFun est_100 2) 0).trans ((congrFun (gU_k (by decide)) 0).trans ((congrFun (congrFun est_99 2) 0).trans ((congrFun (gU_k (by decide)) 0).trans ((congrFun (congrFun est_92 2) 0).trans ((congrFun (gU_k (by decide)) 0).trans ((funext (fun j9 => hB_sv25.2 2 0 j9 (show (200 : Nat) ∉ _ from by decide))).trans rfl)))))))), ((funext (fun j9 => n_102.2 28 0 j9 (show (2800 : Nat) ∉ _ from by decide))).trans ((congrFun (congrFun est_100 28) 0).trans ((congrFun (gU_k (by decide)) 0).trans ((congrFun (congrFun est_99 28) 0).trans ((congrFun (gU_k (by decide)) 0).trans ((congrFun (congrFun est_92 28) 0).trans ((congrFun (gU_k (by decide)) 0).trans ((funext (fun j9 => hB_sv25.2 28 0 j9 (show (2800 : Nat) ∉ _ from by decide))).trans rfl)))))))), ((funext (fun j9 => n_102.2 6 0 j9 (show (600 : Nat) ∉ _ from by decide))).trans ((congrFun (congrFun est_100 6) 0).trans ((congrFun (gU_k (by decide)) 0).trans ((congrFun (congrFun est_99 6) 0).trans ((congrFun (gU_k (by decide)) 0).trans ((congrFun (congrFun est_92 6) 0).trans ((congrFun (gU_k (by decide)) 0).trans ((funext (fun j9 => hB_sv25.2 6 0 j9 (show (600 : Nat) ∉ _ from by decide))).trans rfl)))))))), ((n_102.2 0 0 7 (show (7 : Nat) ∉ _ from by decide)).trans (((congrFun (congrFun (congrFun est_100 0) 0) 7).trans (congrFun (congrFun (gU_k (by decide)) 0) 7)).trans (((congrFun (congrFun (congrFun est_99 0) 0) 7).trans (gU_other (by decide))).trans (((congrFun (congrFun (congrFun est_92 0) 0) 7).trans (congrFun (congrFun (gU_k (by decide)) 0) 7)).trans (hB_sv25.2 0 0 7 (show (7 : Nat) ∉ _ from by decide)))))), ((funext (fun j9 => n_102.2 1 0 j9 (show (100 : Nat) ∉ _ from by decide))).trans ((congrFun (congrFun est_100 1) 0).trans ((congrFun (gU_k (by decide)) 0).trans ((congrFun (congrFun est_99 1) 0).trans ((congrFun (gU_k (by decide)) 0).trans ((congrFun (congrFun est_92 1) 0).trans ((congrFun (gU_k (by decide)) 0).trans ((funext (fun j9 => hB_sv25.2 1 0 j9 (show (100 : Nat) ∉ _ from by decide))).trans rfl))))))))⟩ (by have h9 := hw_102_0; rw [hx9, hh9, show x_101.toInt = y85_0.toInt by omega] at h9; exact h9) hd9 (by rw [show st_102 33 0 = (upd (sv25 33 0) (y25_0.toNatClampNeg) (x_91 : Int32)) from ((funext (fun j9 => n_102.2 33 0 j9 (show (3300 : Nat) ∉ _ from by decide))).trans ((congrFun (congrFun est_100 33) 0).trans ((congrFun (gU_k (by decide)) 0).trans ((congrFun (congrFun est_99 33) 0).trans ((congrFun (gU_k (by decide)) 0).trans ((congrFun (congrFun est_92 33) 0).trans ((gU_at _ _ _ _ _).trans (congrArg (fun f9 => upd f9 (y25_0.toNatClampNeg) (x_91 : Int32)) rfl)))))))), hx9]) (by rw [if_neg (by omega)]; omega) (by rw [show st_102 34 0 = (upd (sv25 34 0) (y25_0.toNatClampNeg) (y85_0 : Int32)) from ((funext (fun j9 => n_102.2 34 0 j9 (show (3400 : Nat) ∉ _ from by decide))).trans ((congrFun (congrFun est_100 34) 0).trans ((gU_at _ _ _ _ _).trans (congrArg (fun f9 => upd f9 (y25_0.toNatClampNeg) (y85_0 : Int32)) ((congrFun (congrFun est_99 34) 0).trans ((congrFun (gU_k (by decide)) 0).trans ((congrFun (congrFun est_92 34) 0).trans ((congrFun (gU_k (by decide)) 0).trans rfl)))))))), hx9]) rfl
                  exact jn35 st_102  H _ ls hB_st_102 ⟨y85_0.toInt, hn9, by omega, (Or.inr (by omega)), hj9, (by rw [if_neg (by omega)]; have h9 : (st_102 0 0 57).toInt = (x_98 : Int32).toInt := congrArg Int32.toInt ((n_102.2 0 0 57 (show (57 : Nat) ∉ _ from by decide)).trans (((congrFun (congrFun (congrFun est_100 0) 0) 57).trans (congrFun (congrFun (gU_k (by decide)) 0) 57)).trans ((congrFun (congrFun (congrFun est_99 0) 0) 57).trans (gU_same _ _ _ _ _)))); omega), ((congrArg Int32.toInt ((n_102.2 0 0 58 (show (58 : Nat) ∉ _ from by decide)).trans (((congrFun (congrFun (congrFun est_100 0) 0) 58).trans (congrFun (congrFun (gU_k (by decide)) 0) 58)).trans (((congrFun (congrFun (congrFun est_99 0) 0) 58).trans (gU_other (by decide))).trans ((congrFun (congrFun (congrFun est_92 0) 0) 58).trans (congrFun (congrFun (gU_k (by decide)) 0) 58)))))).trans h58_9), ⟨((funext fun j9 => n_102.2 37 0 j9 (show (3700 : Nat) ∉ _ from by decide)).trans (((congrFun (congrFun est_100 37) 0).trans (congrFun (gU_k (by decide)) 0)).trans (((congrFun (congrFun est_99 37) 0).trans (congrFun (gU_k (by decide)) 0)).trans ((congrFun (congrFun est_92 37) 0).trans (congrFun (gU_k (by decide)) 0))))), ((funext fun j9 => n_102.2 38 0 j9 (show (3800 : Nat) ∉ _ from by decide)).trans (((congrFun (congrFun est_100 38) 0).trans (congrFun (gU_k (by decide)) 0)).trans (((congrFun (congrFun est_99 38) 0).trans (congrFun (gU_k (by decide)) 0)).trans ((congrFun (congrFun est_92 38) 0).trans (congrFun (gU_k (by decide)) 0))))), ((n_102.2 0 0 55 (show (55 : Nat) ∉ _ from by decide)).trans (((congrFun (congrFun (congrFun est_100 0) 0) 55).trans (congrFun (congrFun (gU_k (by decide)) 0) 55)).trans (((congrFun (congrFun (congrFun est_99 0) 0) 55).trans (gU_other (by decide))).trans ((congrFun (congrFun (congrFun est_92 0) 0) 55).trans (congrFun (congrFun (gU_k (by decide)) 0) 55))))), ((n_102.2 0 0 56 (show (56 : Nat) ∉ _ from by decide)).trans (((congrFun (congrFun (congrFun est_100 0) 0) 56).trans (congrFun (congrFun (gU_k (by decide)) 0) 56)).trans (((congrFun (congrFun (congrFun est_99 0) 0) 56).trans (gU_other (by decide))).trans ((congrFun (congrFun (congrFun est_92 0) 0) 56).trans (congrFun (congrFun (gU_k (by decide)) 0) 56))))), ((n_102.2 0 0 0 (show (0 : Nat) ∉ _ from by decide)).trans (((congrFun (congrFun (congrFun est_100 0) 0) 0).trans (congrFun (congrFun (gU_k (by decide)) 0) 0)).trans (((congrFun (congrFun (congrFun est_99 0) 0) 0).trans (gU_other (by decide))).trans ((congrFun (congrFun (congrFun est_92 0) 0) 0).trans (congrFun (congrFun (gU_k (by decide)) 0) 0)))))⟩, (x_91 : Int32), (by rw [show st_102 33 0 = (upd (sv25 33 0) (y25_0.toNatClampNeg) (x_91 : Int32)) from ((funext (fun j9 => n_102.2 33 0 j9 (show (3300 : Nat) ∉ _ from by decide))).trans ((congrFun (congrFun est_100 33) 0).trans ((congrFun (gU_k (by decide)) 0).trans ((congrFun (congrFun est_99 33) 0).trans ((congrFun (gU_k (by decide)) 0).trans ((congrFun (congrFun est_92 33) 0).trans ((gU_at _ _ _ _ _).trans (congrArg (fun f9 => upd f9 (y25_0.toNatClampNeg) (x_91 : Int32)) rfl)))))))), hx9]), by omega, by omega⟩ hM hS (lv_sub hl [2, 3, 4, 5, 6, 7] rfl)
                · have ic_95 := gz_eqn (rfl : (sv25 0 0 57).toInt = (sv25 0 0 57).toInt) (rfl : y.toInt = y.toInt) c_95
                  refine lv_iconst (v := 2) hx hb dX10_plan_414 (by decide) ?_
                  rw [← hQe]
                  exact gs_iret hx hb hr hlocks hM hS rfl ⟨hB_st_92, (Or.inr (Or.inr ⟨⟨by omega, by omega⟩, ⟨hHd9, by omega, by omega, by omega⟩, ((congrArg Int32.toInt ((congrFun (congrFun (congrFun est_92 0) 0) 0).trans (congrFun (congrFun (gU_k (by decide)) 0) 0))).trans hv25_7), as9, f9, hS9.cut hn9 (by omega) (by omega) (by have h9 : (st_92 0 0 57).toInt = (sv25 0 0 57).toInt := congrArg Int32.toInt ((congrFun (congrFun (congrFun est_92 0) 0) 57).trans (congrFun (congrFun (gU_k (by decide)) 0) 57)); omega), ((congrArg Int32.toInt ((congrFun (congrFun (congrFun est_92 0) 0) 58).trans (congrFun (congrFun (gU_k (by decide)) 0) 58))).trans h58_9), Or.inr ⟨by decide, ((congrFun (congrFun est_92 37) 0).trans (congrFun (gU_k (by decide)) 0)).trans hv25_3, ((congrFun (congrFun est_92 38) 0).trans (congrFun (gU_k (by decide)) 0)).trans hv25_4, ((congrFun (congrFun (congrFun est_92 0) 0) 55).trans (congrFun (congrFun (gU_k (by decide)) 0) 55)).trans hv25_5, ((congrFun (congrFun (congrFun est_92 0) 0) 56).trans (congrFun (congrFun (gU_k (by decide)) 0) 56)).trans hv25_6⟩⟩))⟩ (by exact Nat.le_refl _) (by exact Nat.le_refl _) dX10_plan_415
              · have ic_90 := gz_nlt (rfl : y85_0.toInt = y85_0.toInt) (by decide : (8 : Int32).toInt = 8) c_90
                exfalso; omega
            · skip
              refine lv_if_ne (tgt := 369) hx hb dX10_plan_360 (by decide) (fun h9 => absurd (by decide) h9) (fun _ => ?_)
              obtain ⟨x_103, ex_103⟩ : ∃ y : Int32, y = y85_0 + 1 := ⟨_, rfl⟩
              try have tx_103 : x_103.toInt = y85_0.toInt + 1 := by rw [ex_103]; exact gz_addP (x := y85_0.toInt) (y := 1) rfl (by decide) (by omega) (by omega)
              refine lv_iinc (v := (x_103)) (lv' := [(7, .int x_103), (6, .int 1), (5, .int x_34), (4, .int x_29), (3, .int y25_0), (0, .ref (ad 0 0)), (1, .int x), (2, .int y)]) hx hb dX10_plan_363 hl (k := 0) rfl (by rw [ex_103]; rfl) (by decide) rfl (fun ls hl => ?_)
              refine lv_goto (tgt := 344) hx hb dX10_plan_366 (by decide) ?_
              exact ih_85  (x_103 : Int32) H _ ls (by omega)  (by omega) (by omega) (by omega) (noA.step hv85_3 (by omega) hw_89_0) hM hS (lv_sub hl [0, 1, 2, 3, 4, 5, 6, 7] rfl)
      exact lp85 ((8 - (x_84 : Int32).toInt).toNat + 1)  (x_84 : Int32) H _ ls (Nat.lt_succ_self _)  (by omega) (by omega) (by omega) (noA.nil (by omega)) hM hS (lv_sub hl [0, 1, 2, 3, 4, 5, 6, 7] rfl)
set_option maxHeartbeats 4000000 in
set_option maxRecDepth 100000 in
/-- WellCourtModel.plan -/
theorem m_plan (l : Launch) (G : va_G) (cy : Nat → ClassId) (sK sV : Nat → Nat) (ad : Nat → Nat → Nat) (sz : Nat) (st : gS) (hB : gBd bM st) (x : Int32) (y : Int32) (Xx : Int) (Xy : Int) (kx : x.toInt = Xx) (ky : y.toInt = Xy) (rs : List Rl) (bk : Nat) (hbk : (st 0 0 28).toInt = (bk : Int)) (hru : (st 0 0 29).toInt = (rs.length : Int)) (hLM : LM rs st bk) (hwf : ∀ r ∈ rs, wfR r) (hok : okM st) : gsMi l yX10_plan cX10_plan 8 (some .int) ({ frames := 2, cells := 0, slots := 0, locals := 53 } : Room) G cy sK sV (shM cy ad) cnM ad sz [.ref (ad 0 0), .int x, .int y] st (fun (r : Int32) (u : gS) => gBN bM kM [0, 55, 56, 57, 58, 2900, 3000, 3100, 3200, 3300, 3400, 3500, 3600, 3700, 3800] st u ∧ (((¬ (1 ≤ Xy ∧ Xy ≤ 50000) ∧ r.toInt = 0 ∧ (u 0 0 0).toInt = 1 ∧ frM st u) ∨ ((1 ≤ Xy ∧ Xy ≤ 50000) ∧ ¬ ((∃ h : Nat, h < 4 ∧ ¬ (st 22 0 h).toInt = 0) ∧ 1 ≤ Xx ∧ Xx ≤ 14 ∧ (st 0 0 7).toInt + Xx ≤ 199) ∧ r.toInt = -1 ∧ (u 0 0 0).toInt = 0 ∧ frM st u) ∨ ((1 ≤ Xy ∧ Xy ≤ 50000) ∧ ((∃ h : Nat, h < 4 ∧ ¬ (st 22 0 h).toInt = 0) ∧ 1 ≤ Xx ∧ Xx ≤ 14 ∧ (st 0 0 7).toInt + Xx ≤ 199) ∧ (u 0 0 0).toInt = 0 ∧ ∃ (as9 : List Int) (f9 : Int), sFE (evM rs st) Xx Xy f9 r.toInt as9 ∧ (u 0 0 58).toInt = f9 ∧ ((r.toInt = 0 ∧ pdM st u as9 x) ∨ (1 ≤ r.toInt ∧ u 37 0 = st 37 0 ∧ u 38 0 = st 38 0 ∧ u 0 0 55 = st 0 0 55 ∧ u 0 0 56 = st 0 0 56)))))) := by
  refine gs_start (fun A => gsQi G (shM cy ad) cnM ad _ A) (by decide) (Nat.le_of_ble_eq_true rfl) ?_
  intro p e s m below meth c A ls H hx hb hr hml hlocks hown hts hK hov hE hI hM hm hS hA hl
  have hl : lv_has ls 8 [(0, .ref (ad 0 0)), (1, .int x), (2, .int y)] := hl
  have hB_st : gBN bM kM [0, 55, 56, 57, 58, 2900, 3000, 3100, 3200, 3300, 3400, 3500, 3600, 3700, 3800] st st := gBN.rf hB
  generalize hQe : MQ below _ _ s _ _ A = Q
  refine lv_aload_n hx hb dX10_plan_0 rfl (lv_at hl 0 rfl) ?_
  refine lv_iload_n hx hb dX10_plan_1 rfl (lv_at hl 2 rfl) ?_
  refine lv_iconst (v := 1) hx hb dX10_plan_2 (by decide) ?_
  refine lv_icmp_lt (tgt := 13) hx hb dX10_plan_3 (by decide) (fun c_1 => ?_) (fun c_1 => ?_)
  · have ic_1 := gz_lt (rfl : y.toInt = y.toInt) (by decide : (1 : Int32).toInt = 1) c_1
    refine lv_iconst (v := 1) hx hb dX10_plan_13 (by decide) ?_
    refine lv_goto (tgt := 18) hx hb dX10_plan_14 (by decide) ?_
    refine gs_put (C := RX10) (T := TX10) (N := 59) (ty := .int) (val := .int 1) hx hb hts inX10 tyX10 tyX10_ok nmX10 hown hK hI hm hM hS 0 0 0 (by decide) rfl rfl (by decide) (hts _ gm_897) (fun _ h9 => h9) rfl (1 : Int32) rfl (by decide +kernel) rfl rfl (Nat.le_of_ble_eq_true rfl) dX10_plan_18 (fun st_2 H locs est_2 hM hS => ?_)
    have hB_st_2 : gBN bM kM [0, 55, 56, 57, 58, 2900, 3000, 3100, 3200, 3300, 3400, 3500, 3600, 3700, 3800] st st_2 := by rw [est_2]; exact hB_st.up (show (0 : Nat) ∈ _ from by decide) (gi_lo _) (gi_hi _)
    refine lv_aload_n hx hb dX10_plan_21 rfl (lv_at hl 0 rfl) ?_
    refine gs_get (C := RX10) (T := TX10) (N := 59) hx hb hts inX10 hown hK hM 0 0 0 (by decide) rfl rfl (by decide) (hts _ gm_897) (fun _ h9 => h9) rfl dX10_plan_22 ?_
    refine lv_topi (fun x_3 ex_3 => ?_)
    have ex_3 : (1 : Int32) = x_3 := Eq.symm (ex_3.trans ((congrFun (congrFun (congrFun est_2 0) 0) 0).trans (gU_same _ _ _ _ _)))
    subst ex_3
    refine lv_iconst (v := 1) hx hb dX10_plan_25 (by decide) ?_
    refine lv_icmp_ne (tgt := 31) hx hb dX10_plan_26 (by decide) (fun h9 => absurd (by decide) h9) (fun _ => ?_)
    refine lv_iconst (v := 0) hx hb dX10_plan_29 (by decide) ?_
    rw [← hQe]
    exact gs_iret hx hb hr hlocks hM hS rfl ⟨hB_st_2, (Or.inl ⟨by omega, by decide, (by rw [show st_2 0 0 0 = (1 : Int32) from ((congrFun (congrFun (congrFun est_2 0) 0) 0).trans (gU_same _ _ _ _ _))]; decide), (frM.up est_2)⟩)⟩ (by exact Nat.le_refl _) (by exact Nat.le_refl _) dX10_plan_30
  · have ic_1 := gz_nlt (rfl : y.toInt = y.toInt) (by decide : (1 : Int32).toInt = 1) c_1
    refine lv_iload_n hx hb dX10_plan_6 rfl (lv_at hl 2 rfl) ?_
    refine lv_ldcw (v := 50000) hx hb hown (hts _ gm_1272) dX10_plan_7 ?_
    refine lv_icmp_le (tgt := 17) hx hb dX10_plan_10 (by decide) (fun c_4 => ?_) (fun c_4 => ?_)
    · have ic_4 := gz_le (rfl : y.toInt = y.toInt) (by decide : (50000 : Int32).toInt = 50000) c_4
      refine lv_iconst (v := 0) hx hb dX10_plan_17 (by decide) ?_
      refine gs_put (C := RX10) (T := TX10) (N := 59) (ty := .int) (val := .int 0) hx hb hts inX10 tyX10 tyX10_ok nmX10 hown hK hI hm hM hS 0 0 0 (by decide) rfl rfl (by decide) (hts _ gm_897) (fun _ h9 => h9) rfl (0 : Int32) rfl (by decide +kernel) rfl rfl (Nat.le_of_ble_eq_true rfl) dX10_plan_18 (fun st_5 H locs est_5 hM hS => ?_)
      have hB_st_5 : gBN bM kM [0, 55, 56, 57, 58, 2900, 3000, 3100, 3200, 3300, 3400, 3500, 3600, 3700, 3800] st st_5 := by rw [est_5]; exact hB_st.up (show (0 : Nat) ∈ _ from by decide) (gi_lo _) (gi_hi _)
      refine lv_aload_n hx hb dX10_plan_21 rfl (lv_at hl 0 rfl) ?_
      refine gs_get (C := RX10) (T := TX10) (N := 59) hx hb hts inX10 hown hK hM 0 0 0 (by decide) rfl rfl (by decide) (hts _ gm_897) (fun _ h9 => h9) rfl dX10_plan_22 ?_
      refine lv_topi (fun x_6 ex_6 => ?_)
      have ex_6 : (0 : Int32) = x_6 := Eq.symm (ex_6.trans ((congrFun (congrFun (congrFun est_5 0) 0) 0).trans (gU_same _ _ _ _ _)))
      subst ex_6
      refine lv_iconst (v := 1) hx hb dX10_plan_25 (by decide) ?_
      refine lv_icmp_ne (tgt := 31) hx hb dX10_plan_26 (by decide) (fun _ => ?_) (fun h9 => absurd h9 (by decide))
      have jn7 : ∀   (H : Heap) (locs : List Loc) (ls : Array Slot),  ((∃ h : Nat, h < 4 ∧ ¬ (st 22 0 h).toInt = 0)) → gM G (shM cy ad) cnM ad st_5 H → va_S A s.heap H locs → lv_has ls 8 [(0, .ref (ad 0 0)), (1, .int x), (2, .int y)] → W p l e ({ frames := 2, cells := 0, slots := 0, locals := 53 } : Room) s m [.ref (ad 0 0), .int x, .int y].toArray below meth c H locs 0 0 Q (F0 m 67 ls []) := by
        intro   H locs ls  hv7_0 hM hS hl
        have hHd9 : (∃ h : Nat, h < 4 ∧ ¬ (st 22 0 h).toInt = 0) := hv7_0
        refine lv_iload_n hx hb dX10_plan_67 rfl (lv_at hl 1 rfl) ?_
        refine lv_iconst (v := 1) hx hb dX10_plan_68 (by decide) ?_
        refine lv_icmp_lt (tgt := 90) hx hb dX10_plan_69 (by decide) (fun c_8 => ?_) (fun c_8 => ?_)
        · have ic_8 := gz_lt (rfl : x.toInt = x.toInt) (by decide : (1 : Int32).toInt = 1) c_8
          refine lv_iconst (v := (-1)) hx hb dX10_plan_90 (by decide) ?_
          rw [← hQe]
          exact gs_iret hx hb hr hlocks hM hS rfl ⟨hB_st_5, (Or.inr (Or.inl ⟨⟨by omega, by omega⟩, (fun h9 => by obtain ⟨⟨h, h4, hn⟩, h8⟩ := h9; first | (exfalso; omega) | (have e9 : h = 0 ∨ h = 1 ∨ h = 2 ∨ h = 3 := (by omega); rcases e9 with e9 | e9 | e9 | e9 <;> (subst e9; omega))), by decide, (by rw [show st_5 0 0 0 = (0 : Int32) from ((congrFun (congrFun (congrFun est_5 0) 0) 0).trans (gU_same _ _ _ _ _))]; decide), (frM.up est_5)⟩))⟩ (by exact Nat.le_refl _) (by exact Nat.le_refl _) dX10_plan_91
        · have ic_8 := gz_nlt (rfl : x.toInt = x.toInt) (by decide : (1 : Int32).toInt = 1) c_8
          refine lv_iload_n hx hb dX10_plan_72 rfl (lv_at hl 1 rfl) ?_
          refine lv_bipush (v := 14) hx hb dX10_plan_73 (by decide) ?_
          refine lv_icmp_gt (tgt := 90) hx hb dX10_plan_75 (by decide) (fun c_9 => ?_) (fun c_9 => ?_)
          · have ic_9 := gz_lt (by decide : (14 : Int32).toInt = 14) (rfl : x.toInt = x.toInt) c_9
            refine lv_iconst (v := (-1)) hx hb dX10_plan_90 (by decide) ?_
            rw [← hQe]
            exact gs_iret hx hb hr hlocks hM hS rfl ⟨hB_st_5, (Or.inr (Or.inl ⟨⟨by omega, by omega⟩, (fun h9 => by obtain ⟨⟨h, h4, hn⟩, h8⟩ := h9; first | (exfalso; omega) | (have e9 : h = 0 ∨ h = 1 ∨ h = 2 ∨ h = 3 := (by omega); rcases e9 with e9 | e9 | e9 | e9 <;> (subst e9; omega))), by decide, (by rw [show st_5 0 0 0 = (0 : Int32) from ((congrFun (congrFun (congrFun est_5 0) 0) 0).trans (gU_same _ _ _ _ _))]; decide), (frM.up est_5)⟩))⟩ (by exact Nat.le_refl _) (by exact Nat.le_refl _) dX10_plan_91
          · have ic_9 := gz_nlt (by decide : (14 : Int32).toInt = 14) (rfl : x.toInt = x.toInt) c_9
            refine lv_aload_n hx hb dX10_plan_78 rfl (lv_at hl 0 rfl) ?_
            refine gs_get (C := RX10) (T := TX10) (N := 59) hx hb hts inX10 hown hK hM 0 0 7 (by decide) rfl rfl (by decide) (hts _ gm_904) (fun _ h9 => h9) rfl dX10_plan_79 ?_
            refine lv_topi (fun x_10 ex_10 => ?_)
            have ex_10 : (st 0 0 7) = x_10 := Eq.symm (ex_10.trans ((congrFun (congrFun (congrFun est_5 0) 0) 7).trans (gU_other (by decide))))
            subst ex_10
            have bf_11 : (0 : Int) ≤ (st 0 0 7).toInt ∧ (st 0 0 7).toInt ≤ (199 : Int) := hB_st.1 0 0 7
            refine lv_iload_n hx hb dX10_plan_82 rfl (lv_at hl 1 rfl) ?_
            refine lv_iadd hx hb dX10_plan_83 ?_
            refine lv_topi (fun x_12 ex_12 => ?_)
            try have tx_12 : x_12.toInt = (st 0 0 7).toInt + x.toInt := by rw [ex_12]; exact gz_addI (x := (st 0 0 7).toInt) (y := x.toInt) rfl rfl (by omega) (by omega)
            refine lv_sipush (v := 199) hx hb dX10_plan_84 (by decide) ?_
            refine lv_icmp_le (tgt := 92) hx hb dX10_plan_87 (by decide) (fun c_13 => ?_) (fun c_13 => ?_)
            · have ic_13 := gz_le (rfl : x_12.toInt = x_12.toInt) (by decide : (199 : Int32).toInt = 199) c_13
              refine lv_aload_n hx hb dX10_plan_92 rfl (lv_at hl 0 rfl) ?_
              refine lv_iconst (v := 0) hx hb dX10_plan_93 (by decide) ?_
              refine gs_put (C := RX10) (T := TX10) (N := 59) (ty := .int) (val := .int 0) hx hb hts inX10 tyX10 tyX10_ok nmX10 hown hK hI hm hM hS 0 0 57 (by decide) rfl rfl (by decide) (hts _ gm_954) (fun _ h9 => h9) rfl (0 : Int32) rfl (by decide +kernel) rfl rfl (Nat.le_of_ble_eq_true rfl) dX10_plan_94 (fun st_14 H locs est_14 hM hS => ?_)
              have hB_st_14 : gBN bM kM [0, 55, 56, 57, 58, 2900, 3000, 3100, 3200, 3300, 3400, 3500, 3600, 3700, 3800] st st_14 := by rw [est_14]; exact hB_st_5.up (show (57 : Nat) ∈ _ from by decide) (gi_lo _) (gi_hi _)
              refine lv_aload_n hx hb dX10_plan_97 rfl (lv_at hl 0 rfl) ?_
              refine lv_iconst (v := 0) hx hb dX10_plan_98 (by decide) ?_
              refine gs_put (C := RX10) (T := TX10) (N := 59) (ty := .int) (val := .int 0) hx hb hts inX10 tyX10 tyX10_ok nmX10 hown hK hI hm hM hS 0 0 58 (by decide) rfl rfl (by decide) (hts _ gm_955) (fun _ h9 => h9) rfl (0 : Int32) rfl (by decide +kernel) rfl rfl (Nat.le_of_ble_eq_true rfl) dX10_plan_99 (fun st_15 H locs est_15 hM hS => ?_)
              have hB_st_15 : gBN bM kM [0, 55, 56, 57, 58, 2900, 3000, 3100, 3200, 3300, 3400, 3500, 3600, 3700, 3800] st st_15 := by rw [est_15]; exact hB_st_14.up (show (58 : Nat) ∈ _ from by decide) (gi_lo _) (gi_hi _)
              refine lv_iconst (v := 0) hx hb dX10_plan_102 (by decide) ?_
              refine lv_istore_n (lv' := [(3, .int 0), (0, .ref (ad 0 0)), (1, .int x), (2, .int y)]) hx hb dX10_plan_103 rfl hl (by decide) rfl (fun ls hl => ?_)
              have lp16 : ∀ (n16 : Nat) (sv16 : gS) (y16_0 : Int32) (H : Heap) (locs : List Loc) (ls : Array Slot), (6 - y16_0.toInt).toNat < n16 → gBN bM kM [0, 55, 56, 57, 58, 2900, 3000, 3100, 3200, 3300, 3400, 3500, 3600, 3700, 3800] st sv16 → (0 ≤ y16_0.toInt) → (clM st sv16 y16_0.toInt) → ((sv16 0 0 57).toInt = 0) → ((sv16 0 0 58).toInt = 0) → ((sv16 0 0 0).toInt = 0) → (sv16 37 0 = st 37 0) → (sv16 38 0 = st 38 0) → (sv16 0 0 55 = st 0 0 55) → (sv16 0 0 56 = st 0 0 56) → gM G (shM cy ad) cnM ad sv16 H → va_S A s.heap H locs → lv_has ls 8 [(3, .int y16_0), (0, .ref (ad 0 0)), (1, .int x), (2, .int y)] → W p l e ({ frames := 2, cells := 0, slots := 0, locals := 53 } : Room) s m [.ref (ad 0 0), .int x, .int y].toArray below meth c H locs 0 0 Q (F0 m 104 ls []) := by
                intro n16
                induction n16 with
                | zero => intro sv16 y16_0 H locs ls h9; exact absurd h9 (Nat.not_lt_zero _)
                | succ n16 ih_16 =>
                  intro sv16 y16_0 H locs ls hme16 hB_sv16 hv16_0 hv16_1 hv16_2 hv16_3 hv16_4 hv16_5 hv16_6 hv16_7 hv16_8 hM hS hl
                  refine lv_iload_n hx hb dX10_plan_104 rfl (lv_at hl 0 rfl) ?_
                  refine lv_bipush (v := 6) hx hb dX10_plan_105 (by decide) ?_
                  refine lv_icmp_ge (tgt := 128) hx hb dX10_plan_107 (by decide) (fun c_17 => ?_) (fun c_17 => ?_)
                  · have ic_17 := gz_le (by decide : (6 : Int32).toInt = 6) (rfl : y16_0.toInt = y16_0.toInt) c_17
                    refine lv_iconst (v := 0) hx hb dX10_plan_128 (by decide) ?_
                    refine lv_istore_n (lv' := [(3, .int 0), (0, .ref (ad 0 0)), (1, .int x), (2, .int y)]) hx hb dX10_plan_129 rfl hl (by decide) rfl (fun ls hl => ?_)
                    have lp18 : ∀ (n18 : Nat) (sv18 : gS) (y18_0 : Int32) (H : Heap) (locs : List Loc) (ls : Array Slot), (4 - y18_0.toInt).toNat < n18 → gBN bM kM [0, 55, 56, 57, 58, 2900, 3000, 3100, 3200, 3300, 3400, 3500, 3600, 3700, 3800] st sv18 → (0 ≤ y18_0.toInt) → (hdM st sv18 y18_0.toInt) → (clM st sv18 6) → ((sv18 0 0 57).toInt = 0) → ((sv18 0 0 58).toInt = 0) → ((sv18 0 0 0).toInt = 0) → (sv18 37 0 = st 37 0) → (sv18 38 0 = st 38 0) → (sv18 0 0 55 = st 0 0 55) → (sv18 0 0 56 = st 0 0 56) → gM G (shM cy ad) cnM ad sv18 H → va_S A s.heap H locs → lv_has ls 8 [(3, .int y18_0), (0, .ref (ad 0 0)), (1, .int x), (2, .int y)] → W p l e ({ frames := 2, cells := 0, slots := 0, locals := 53 } : Room) s m [.ref (ad 0 0), .int x, .int y].toArray below meth c H locs 0 0 Q (F0 m 130 ls []) := by
                      intro n18
                      induction n18 with
                      | zero => intro sv18 y18_0 H locs ls h9; exact absurd h9 (Nat.not_lt_zero _)
                      | succ n18 ih_18 =>
                        intro sv18 y18_0 H locs ls hme18 hB_sv18 hv18_0 hv18_1 hv18_2 hv18_3 hv18_4 hv18_5 hv18_6 hv18_7 hv18_8 hv18_9 hM hS hl
                        refine lv_iload_n hx hb dX10_plan_130 rfl (lv_at hl 0 rfl) ?_
                        refine lv_iconst (v := 4) hx hb dX10_plan_131 (by decide) ?_
                        refine lv_icmp_ge (tgt := 175) hx hb dX10_plan_132 (by decide) (fun c_19 => ?_) (fun c_19 => ?_)
                        · have ic_19 := gz_le (by decide : (4 : Int32).toInt = 4) (rfl : y18_0.toInt = y18_0.toInt) c_19
                          refine lv_iconst (v := 0) hx hb dX10_plan_175 (by decide) ?_
                          refine lv_istore_n (lv' := [(3, .int 0), (0, .ref (ad 0 0)), (1, .int x), (2, .int y)]) hx hb dX10_plan_176 rfl hl (by decide) rfl (fun ls hl => ?_)
                          refine lv_aload_n hx hb dX10_plan_177 rfl (lv_at hl 1 rfl) ?_
                          refine gs_get (C := RX10) (T := TX10) (N := 59) hx hb hts inX10 hown hK hM 0 0 49 (by decide) rfl rfl (by decide) (hts _ gm_946) (fun _ h9 => h9) rfl dX10_plan_178 ?_
                          refine lv_iconst (v := 0) hx hb dX10_plan_181 (by decide) ?_
                          refine lv_iconst (v := 0) hx hb dX10_plan_182 (by decide) ?_
                          refine gs_iast hx hb hK hI hm hM hS 33 0 (by decide) (fun _ => rfl) (vp_in_iff.mpr (by decide)) dX10_plan_183 (fun st_20 H locs est_20 hM hS => ?_)
                          have est_20 : st_20 = gU sv18 33 0 0 (0 : Int32) := est_20
                          have hB_st_20 : gBN bM kM [0, 55, 56, 57, 58, 2900, 3000, 3100, 3200, 3300, 3400, 3500, 3600, 3700, 3800] st st_20 := by rw [est_20]; exact hB_sv18.up (show (3300 : Nat) ∈ _ from by decide) (show (0 : Int) ≤ ((0 : Int32)).toInt from by decide) (show ((0 : Int32)).toInt ≤ (8 : Int) from by decide)
                          refine lv_aload_n hx hb dX10_plan_184 rfl (lv_at hl 1 rfl) ?_
                          refine lv_iconst (v := 0) hx hb dX10_plan_185 (by decide) ?_
                          refine lv_aload_n hx hb dX10_plan_186 rfl (lv_at hl 1 rfl) ?_
                          refine gs_get (C := RX10) (T := TX10) (N := 59) hx hb hts inX10 hown hK hM 0 0 7 (by decide) rfl rfl (by decide) (hts _ gm_904) (fun _ h9 => h9) rfl dX10_plan_187 ?_
                          refine lv_topi (fun x_21 ex_21 => ?_)
                          have ex_21 : (st 0 0 7) = x_21 := Eq.symm (ex_21.trans (((congrFun (congrFun (congrFun est_20 0) 0) 7).trans (congrFun (congrFun (gU_k (by decide)) 0) 7)).trans (hB_sv18.2 0 0 7 (show (7 : Nat) ∉ _ from by decide))))
                          subst ex_21
                          have bf_22 : (0 : Int) ≤ (st 0 0 7).toInt ∧ (st 0 0 7).toInt ≤ (199 : Int) := hB_st.1 0 0 7
                          refine lv_iconst (v := 1) hx hb dX10_plan_190 (by decide) ?_
                          refine lv_iadd hx hb dX10_plan_191 ?_
                          refine lv_topi (fun x_23 ex_23 => ?_)
                          try have tx_23 : x_23.toInt = (st 0 0 7).toInt + 1 := by rw [ex_23]; exact gz_addP (x := (st 0 0 7).toInt) (y := 1) rfl (by decide) (by omega) (by omega)
                          refine gs_callv (va_runV (As := [.int 0, .int x_23]) (rest := []) ⟨hx, hb, hml, hown, hts⟩ (m_dawn l G cy sK sV ad H.size st_20 hB_st_20.1 (0 : Int32) x_23 0 x_23.toInt (by decide) rfl (by first | decide | omega) (by first | decide | omega) (by first | decide | omega) (by first | decide | omega) rs bk ((congrArg Int32.toInt ((((congrFun (congrFun (congrFun est_20 0) 0) 28).trans (congrFun (congrFun (gU_k (by decide)) 0) 28)).trans (hB_sv18.2 0 0 28 (show (28 : Nat) ∉ _ from by decide))))).trans hbk) ((congrArg Int32.toInt ((((congrFun (congrFun (congrFun est_20 0) 0) 29).trans (congrFun (congrFun (gU_k (by decide)) 0) 29)).trans (hB_sv18.2 0 0 29 (show (29 : Nat) ∉ _ from by decide))))).trans hru) (LM.all hLM (mA.trans (mA.trans mA.rf (mA.frame hB_sv18.2 (by decide))) (mA.upk est_20 (by decide))))) ⟨(gz_cb (n := 2) hts gm_1273 gm_12 gm_1276 ⟨by decide +kernel, by decide +kernel, by decide +kernel⟩ ⟨Nat.le_of_ble_eq_true rfl, Nat.le_of_ble_eq_true rfl⟩), hts _ gm_1275, hts _ gs_56⟩ (gs_preV hK hov hE hI hM hm hS hA 0 0 (by decide) rfl rfl) rfl rfl hl.1 rfl (lv_room (Nat.le_of_ble_eq_true rfl)) dX10_plan_192 ⟨Nat.le_of_ble_eq_true rfl, Nat.le_of_ble_eq_true rfl⟩) hm hS hA (fun st_24 H locs hw_24 hM hS => ?_)
                          obtain ⟨n_24, hw_24⟩ := hw_24
                          have hB_st_24 : gBN bM kM [0, 55, 56, 57, 58, 2900, 3000, 3100, 3200, 3300, 3400, 3500, 3600, 3700, 3800] st st_24 := hB_st_20.call n_24 (by decide)
                          have hw_24_0 := hw_24
                          have lp25 : ∀ (n25 : Nat) (sv25 : gS) (y25_0 : Int32) (H : Heap) (locs : List Loc) (ls : Array Slot), pMu (sv25 33 0) (y25_0.toInt + 1).toNat < n25 → gBN bM kM [0, 55, 56, 57, 58, 2900, 3000, 3100, 3200, 3300, 3400, 3500, 3600, 3700, 3800] st sv25 → (-1 ≤ y25_0.toInt) → (y25_0.toInt ≤ 4 * Xx) → (loM rs st sv25 Xx Xy y25_0.toInt) → (sv25 37 0 = st 37 0) → (sv25 38 0 = st 38 0) → (sv25 0 0 55 = st 0 0 55) → (sv25 0 0 56 = st 0 0 56) → ((sv25 0 0 0).toInt = 0) → gM G (shM cy ad) cnM ad sv25 H → va_S A s.heap H locs → lv_has ls 8 [(3, .int y25_0), (0, .ref (ad 0 0)), (1, .int x), (2, .int y)] → W p l e ({ frames := 2, cells := 0, slots := 0, locals := 53 } : Room) s m [.ref (ad 0 0), .int x, .int y].toArray below meth c H locs 0 0 Q (F0 m 195 ls []) := by
                            intro n25
                            induction n25 with
                            | zero => intro sv25 y25_0 H locs ls h9; exact absurd h9 (Nat.not_lt_zero _)
                            | succ n25 ih_25 =>
                              intro sv25 y25_0 H locs ls hme25 hB_sv25 hv25_0 hv25_1 hv25_2 hv25_3 hv25_4 hv25_5 hv25_6 hv25_7 hM hS hl
                              refine lv_iload_n hx hb dX10_plan_195 rfl (lv_at hl 0 rfl) ?_
                              refine lv_if_lt (tgt := 542) hx hb dX10_plan_196 (by decide) (fun c_26 => ?_) (fun c_26 => ?_)
                              · have ic_26 := gz_lt (rfl : y25_0.toInt = y25_0.toInt) (by decide : (0 : Int32).toInt = 0) c_26
                                refine lv_iconst (v := 1) hx hb dX10_plan_542 (by decide) ?_
                                rw [← hQe]
                                exact gs_iret hx hb hr hlocks hM hS rfl ⟨hB_sv25, (by obtain ⟨as9, f9, h1, h2⟩ := loM.neg hv25_2 (by omega) (by omega); exact Or.inr (Or.inr ⟨⟨by omega, by omega⟩, ⟨hHd9, by omega, by omega, by omega⟩, hv25_7, as9, f9, h1, h2, Or.inr ⟨by decide, hv25_3, hv25_4, hv25_5, hv25_6⟩⟩))⟩ (by exact Nat.le_refl _) (by exact Nat.le_refl _) dX10_plan_543
                              · have ic_26 := gz_nlt (rfl : y25_0.toInt = y25_0.toInt) (by decide : (0 : Int32).toInt = 0) c_26
                                refine lv_iload_n hx hb dX10_plan_199 rfl (lv_at hl 0 rfl) ?_
                                refine lv_iconst (v := 4) hx hb dX10_plan_200 (by decide) ?_
                                refine lv_iload_n hx hb dX10_plan_201 rfl (lv_at hl 2 rfl) ?_
                                refine lv_imul hx hb dX10_plan_202 ?_
                                refine lv_topi (fun x_27 ex_27 => ?_)
                                try have tx_27 : x_27.toInt = 4 * x.toInt := by rw [ex_27]; exact gz_mulI (x := 4) (y := x.toInt) (by decide) rfl (by omega) (by omega)
                                refine lv_icmp_ne (tgt := 281) hx hb dX10_plan_203 (by decide) (fun c_28 => ?_) (fun c_28 => ?_)
                                · have ic_28 := gz_ne (rfl : y25_0.toInt = y25_0.toInt) (rfl : x_27.toInt = x_27.toInt) c_28
                                  exact m_plan_b l G cy sK sV ad sz st hB x y Xx Xy kx ky rs bk hbk hru hLM hwf hok p e s m below meth c A hx hb hr hml hlocks hown hts hK hov hE hI hm hA Q hQe n25 ih_25 sv25 y25_0 hme25 hB_sv25 hv25_0 hv25_1 hv25_2 hv25_3 hv25_4 hv25_5 hv25_6 hv25_7 (by omega) (by omega) (by omega) (by omega) (by have hb0 : (0 : Int) ≤ (st 0 0 7).toInt ∧ (st 0 0 7).toInt ≤ (199 : Int) := hB_st.1 0 0 7; omega) (by omega) (by omega) hHd9 H _ ls hM hS hl
                                · have ic_28 := gz_eqn (rfl : y25_0.toInt = y25_0.toInt) (rfl : x_27.toInt = x_27.toInt) c_28
                                  refine lv_iconst (v := 0) hx hb dX10_plan_206 (by decide) ?_
                                  refine lv_istore (lv' := [(4, .int 0), (3, .int y25_0), (0, .ref (ad 0 0)), (1, .int x), (2, .int y)]) hx hb dX10_plan_207 hl (by decide) rfl (fun ls hl => ?_)
                                  have lp104 : ∀ (n104 : Nat) (sv104 : gS) (y104_0 : Int32) (H : Heap) (locs : List Loc) (ls : Array Slot), (56 - y104_0.toInt).toNat < n104 → gBN bM kM [0, 55, 56, 57, 58, 2900, 3000, 3100, 3200, 3300, 3400, 3500, 3600, 3700, 3800] st sv104 → (0 ≤ y104_0.toInt) → (pcM sv25 sv104 y104_0.toInt) → (sv104 34 0 = sv25 34 0) → (sv104 0 0 58 = sv25 0 0 58) → ((sv104 0 0 0).toInt = 0) → gM G (shM cy ad) cnM ad sv104 H → va_S A s.heap H locs → lv_has ls 8 [(4, .int y104_0), (3, .int y25_0), (0, .ref (ad 0 0)), (1, .int x), (2, .int y)] → W p l e ({ frames := 2, cells := 0, slots := 0, locals := 53 } : Room) s m [.ref (ad 0 0), .int x, .int y].toArray below meth c H locs 0 0 Q (F0 m 209 ls []) := by
                                    intro n104
                                    induction n104 with
                                    | zero => intro sv104 y104_0 H locs ls h9; exact absurd h9 (Nat.not_lt_zero _)
                                    | succ n104 ih_104 =>
                                      intro sv104 y104_0 H locs ls hme104 hB_sv104 hv104_0 hv104_1 hv104_2 hv104_3 hv104_4 hM hS hl
                                      refine lv_iload hx hb dX10_plan_209 (lv_at hl 0 rfl) ?_
                                      refine lv_iload_n hx hb dX10_plan_211 rfl (lv_at hl 1 rfl) ?_
                                      refine lv_icmp_ge (tgt := 235) hx hb dX10_plan_212 (by decide) (fun c_105 => ?_) (fun c_105 => ?_)
                                      · have ic_105 := gz_le (rfl : y25_0.toInt = y25_0.toInt) (rfl : y104_0.toInt = y104_0.toInt) c_105
                                        refine lv_iconst (v := 0) hx hb dX10_plan_235 (by decide) ?_
                                        refine lv_istore (lv' := [(4, .int 0), (3, .int y25_0), (0, .ref (ad 0 0)), (1, .int x), (2, .int y)]) hx hb dX10_plan_236 hl (by decide) rfl (fun ls hl => ?_)
                                        have lp106 : ∀ (n106 : Nat) (sv106 : gS) (y106_0 : Int32) (H : Heap) (locs : List Loc) (ls : Array Slot), (4 - y106_0.toInt).toNat < n106 → gBN bM kM [0, 55, 56, 57, 58, 2900, 3000, 3100, 3200, 3300, 3400, 3500, 3600, 3700, 3800] st sv106 → (0 ≤ y106_0.toInt) → (phM st sv106 y106_0.toInt) → (pcM sv25 sv106 (4 * Xx)) → (sv106 0 0 58 = sv25 0 0 58) → ((sv106 0 0 0).toInt = 0) → gM G (shM cy ad) cnM ad sv106 H → va_S A s.heap H locs → lv_has ls 8 [(4, .int y106_0), (3, .int y25_0), (0, .ref (ad 0 0)), (1, .int x), (2, .int y)] → W p l e ({ frames := 2, cells := 0, slots := 0, locals := 53 } : Room) s m [.ref (ad 0 0), .int x, .int y].toArray below meth c H locs 0 0 Q (F0 m 238 ls []) := by
                                          intro n106
                                          induction n106 with
                                          | zero => intro sv106 y106_0 H locs ls h9; exact absurd h9 (Nat.not_lt_zero _)
                                          | succ n106 ih_106 =>
                                            intro sv106 y106_0 H locs ls hme106 hB_sv106 hv106_0 hv106_1 hv106_2 hv106_3 hv106_4 hM hS hl
                                            refine lv_iload hx hb dX10_plan_238 (lv_at hl 0 rfl) ?_
                                            refine lv_iconst (v := 4) hx hb dX10_plan_240 (by decide) ?_
                                            refine lv_icmp_ge (tgt := 264) hx hb dX10_plan_241 (by decide) (fun c_107 => ?_) (fun c_107 => ?_)
                                            · have ic_107 := gz_le (by decide : (4 : Int32).toInt = 4) (rfl : y106_0.toInt = y106_0.toInt) c_107
                                              refine lv_aload_n hx hb dX10_plan_264 rfl (lv_at hl 2 rfl) ?_
                                              refine lv_aload_n hx hb dX10_plan_265 rfl (lv_at hl 2 rfl) ?_
                                              refine gs_get (C := RX10) (T := TX10) (N := 59) hx hb hts inX10 hown hK hM 0 0 7 (by decide) rfl rfl (by decide) (hts _ gm_904) (fun _ h9 => h9) rfl dX10_plan_266 ?_
                                              refine lv_topi (fun x_108 ex_108 => ?_)
                                              have ex_108 : (st 0 0 7) = x_108 := Eq.symm (ex_108.trans (hB_sv106.2 0 0 7 (show (7 : Nat) ∉ _ from by decide)))
                                              subst ex_108
                                              have bf_109 : (0 : Int) ≤ (st 0 0 7).toInt ∧ (st 0 0 7).toInt ≤ (199 : Int) := hB_st.1 0 0 7
                                              refine lv_iconst (v := 1) hx hb dX10_plan_269 (by decide) ?_
                                              refine lv_iadd hx hb dX10_plan_270 ?_
                                              refine lv_topi (fun x_110 ex_110 => ?_)
                                              try have tx_110 : x_110.toInt = (st 0 0 7).toInt + 1 := by rw [ex_110]; exact gz_addP (x := (st 0 0 7).toInt) (y := 1) rfl (by decide) (by omega) (by omega)
                                              refine gs_put (C := RX10) (T := TX10) (N := 59) (ty := .int) (val := .int x_110) hx hb hts inX10 tyX10 tyX10_ok nmX10 hown hK hI hm hM hS 0 0 55 (by decide) rfl rfl (by decide) (hts _ gm_952) (fun _ h9 => h9) rfl (x_110 : Int32) rfl (by decide +kernel) rfl rfl (Nat.le_of_ble_eq_true rfl) dX10_plan_271 (fun st_111 H locs est_111 hM hS => ?_)
                                              have hB_st_111 : gBN bM kM [0, 55, 56, 57, 58, 2900, 3000, 3100, 3200, 3300, 3400, 3500, 3600, 3700, 3800] st st_111 := by rw [est_111]; exact hB_sv106.up (show (55 : Nat) ∈ _ from by decide) (show (-1 : Int) ≤ x_110.toInt from by omega) (show x_110.toInt ≤ (199 : Int) from by omega)
                                              refine lv_aload_n hx hb dX10_plan_274 rfl (lv_at hl 2 rfl) ?_
                                              refine lv_iload_n hx hb dX10_plan_275 rfl (lv_at hl 3 rfl) ?_
                                              refine gs_put (C := RX10) (T := TX10) (N := 59) (ty := .int) (val := .int x) hx hb hts inX10 tyX10 tyX10_ok nmX10 hown hK hI hm hM hS 0 0 56 (by decide) rfl rfl (by decide) (hts _ gm_953) (fun _ h9 => h9) rfl (x : Int32) rfl (by decide +kernel) rfl rfl (Nat.le_of_ble_eq_true rfl) dX10_plan_276 (fun st_112 H locs est_112 hM hS => ?_)
                                              have hB_st_112 : gBN bM kM [0, 55, 56, 57, 58, 2900, 3000, 3100, 3200, 3300, 3400, 3500, 3600, 3700, 3800] st st_112 := by rw [est_112]; exact hB_st_111.up (show (56 : Nat) ∈ _ from by decide) (show (0 : Int) ≤ x.toInt from by omega) (show x.toInt ≤ (14 : Int) from by omega)
                                              refine lv_iconst (v := 0) hx hb dX10_plan_279 (by decide) ?_
                                              rw [← hQe]
                                              exact gs_iret hx hb hr hlocks hM hS rfl ⟨hB_st_112, (by obtain ⟨as9, f9, h1, h2, h3, h4⟩ := loM.fin hv25_2 (by omega) (by omega); exact Or.inr (Or.inr ⟨⟨by omega, by omega⟩, ⟨hHd9, by omega, by omega, by omega⟩, (congrArg Int32.toInt (((congrFun (congrFun (congrFun est_112 0) 0) 0).trans (gU_other (by decide))).trans ((congrFun (congrFun (congrFun est_111 0) 0) 0).trans (gU_other (by decide))))).trans hv106_4, as9, f9, h1, (congrArg Int32.toInt ((((congrFun (congrFun (congrFun est_112 0) 0) 58).trans (gU_other (by decide))).trans ((congrFun (congrFun (congrFun est_111 0) 0) 58).trans (gU_other (by decide)))).trans hv106_3)).trans h3, Or.inl ⟨by decide, ⟨(fun j9 h9 => by rw [show st_112 37 0 = sv106 37 0 from (((congrFun (congrFun est_112 37) 0).trans (congrFun (gU_k (by decide)) 0)).trans ((congrFun (congrFun est_111 37) 0).trans (congrFun (gU_k (by decide)) 0))), hv106_2 j9 (by omega)]; exact h4 j9 (by omega)), (fun h9 h8 => by rw [show st_112 38 0 = sv106 38 0 from (((congrFun (congrFun est_112 38) 0).trans (congrFun (gU_k (by decide)) 0)).trans ((congrFun (congrFun est_111 38) 0).trans (congrFun (gU_k (by decide)) 0)))]; exact hv106_1 h9 (by omega)), (by have h9 : (st_112 0 0 55).toInt = (x_110 : Int32).toInt := congrArg Int32.toInt (((congrFun (congrFun (congrFun est_112 0) 0) 55).trans (gU_other (by decide))).trans ((congrFun (congrFun (congrFun est_111 0) 0) 55).trans (gU_same _ _ _ _ _))); have h79 : (sv106 0 0 7).toInt = (st 0 0 7).toInt := congrArg Int32.toInt (hB_sv106.2 0 0 7 (show (7 : Nat) ∉ _ from by decide)); omega), ((congrFun (congrFun (congrFun est_112 0) 0) 56).trans (gU_same _ _ _ _ _)), by omega⟩⟩⟩))⟩ (by exact Nat.le_refl _) (by exact Nat.le_refl _) dX10_plan_280
                                            · have ic_107 := gz_nle (by decide : (4 : Int32).toInt = 4) (rfl : y106_0.toInt = y106_0.toInt) c_107
                                              refine lv_aload_n hx hb dX10_plan_244 rfl (lv_at hl 2 rfl) ?_
                                              refine gs_get (C := RX10) (T := TX10) (N := 59) hx hb hts inX10 hown hK hM 0 0 54 (by decide) rfl rfl (by decide) (hts _ gm_951) (fun _ h9 => h9) rfl dX10_plan_245 ?_
                                              refine lv_iload hx hb dX10_plan_248 (lv_at hl 0 rfl) ?_
                                              refine lv_aload_n hx hb dX10_plan_250 rfl (lv_at hl 2 rfl) ?_
                                              refine gs_get (C := RX10) (T := TX10) (N := 59) hx hb hts inX10 hown hK hM 0 0 38 (by decide) rfl rfl (by decide) (hts _ gm_935) (fun _ h9 => h9) rfl dX10_plan_251 ?_
                                              refine lv_iload hx hb dX10_plan_254 (lv_at hl 0 rfl) ?_
                                              refine gs_zald hx hb hK hM 22 0 (by decide) rfl (vp_in_iff.mpr ⟨by omega, by omega⟩) dX10_plan_256 ?_
                                              refine lv_topi (fun x_113 ex_113 => ?_)
                                              have qx_113 : x_113.toInt = (sv106 22 0 (y106_0.toNatClampNeg)).toInt := congrArg Int32.toInt ex_113
                                              have rx_113 : x_113.toInt = ((st 22 0 (y106_0.toNatClampNeg)) : Int32).toInt := by rw [ex_113]; exact congrArg Int32.toInt ((hB_sv106.2 22 0 (y106_0.toNatClampNeg) (show (2200 : Nat) ∉ _ from by decide)))
                                              refine gs_zast hx hb hK hI hm hM hS 38 0 (by decide) (fun _ => rfl) (vp_in_iff.mpr ⟨by omega, by omega⟩) dX10_plan_257 (fun st_114 H locs est_114 hM hS => ?_)
                                              have hB_st_114 : gBN bM kM [0, 55, 56, 57, 58, 2900, 3000, 3100, 3200, 3300, 3400, 3500, 3600, 3700, 3800] st st_114 := by rw [est_114]; exact hB_sv106.up (show (3800 : Nat) ∈ _ from by decide) (gi_lo _) (gi_hi _)
                                              obtain ⟨x_115, ex_115⟩ : ∃ y : Int32, y = y106_0 + 1 := ⟨_, rfl⟩
                                              try have tx_115 : x_115.toInt = y106_0.toInt + 1 := by rw [ex_115]; exact gz_addP (x := y106_0.toInt) (y := 1) rfl (by decide) (by omega) (by omega)
                                              refine lv_iinc (v := (x_115)) (lv' := [(4, .int x_115), (3, .int y25_0), (0, .ref (ad 0 0)), (1, .int x), (2, .int y)]) hx hb dX10_plan_258 hl (k := 0) rfl (by rw [ex_115]; rfl) (by decide) rfl (fun ls hl => ?_)
                                              refine lv_goto (tgt := 238) hx hb dX10_plan_261 (by decide) ?_
                                              exact ih_106 st_114 (x_115 : Int32) H _ ls (by omega) hB_st_114 (by omega) (phM.step (v := x_113) hv106_1 (by omega) (by omega) ((congrFun (congrFun est_114 38) 0).trans ((gU_at _ _ _ _ _).trans (congrArg (fun f9 => upd f9 (y106_0.toNatClampNeg) ((vp_nar .boolean x_113) : Int32)) rfl))) (ex_113.trans (hB_sv106.2 22 0 (y106_0.toNatClampNeg) (show (2200 : Nat) ∉ _ from by decide)))) (fun j9 h9 => (congrFun ((congrFun (congrFun est_114 37) 0).trans (congrFun (gU_k (by decide)) 0)) j9).trans (hv106_2 j9 h9)) (((congrFun (congrFun (congrFun est_114 0) 0) 58).trans (congrFun (congrFun (gU_k (by decide)) 0) 58)).trans hv106_3) ((congrArg Int32.toInt ((congrFun (congrFun (congrFun est_114 0) 0) 0).trans (congrFun (congrFun (gU_k (by decide)) 0) 0))).trans hv106_4) hM hS (lv_sub hl [0, 1, 2, 3, 4] rfl)
                                        exact lp106 ((4 - ((0 : Int32) : Int32).toInt).toNat + 1) sv104 ((0 : Int32) : Int32) H _ ls (Nat.lt_succ_self _) hB_sv104 (by have hl0 : (0 : Int32).toInt = 0 := (by decide); omega) (phM.nil (by decide)) (fun j9 h9 => hv104_1 j9 (by omega)) hv104_3 hv104_4 hM hS (lv_sub hl [0, 1, 2, 3, 4] rfl)
                                      · have ic_105 := gz_nle (rfl : y25_0.toInt = y25_0.toInt) (rfl : y104_0.toInt = y104_0.toInt) c_105
                                        have lc_105 := gi_hi y25_0
                                        refine lv_aload_n hx hb dX10_plan_215 rfl (lv_at hl 2 rfl) ?_
                                        refine gs_get (C := RX10) (T := TX10) (N := 59) hx hb hts inX10 hown hK hM 0 0 53 (by decide) rfl rfl (by decide) (hts _ gm_950) (fun _ h9 => h9) rfl dX10_plan_216 ?_
                                        refine lv_iload hx hb dX10_plan_219 (lv_at hl 0 rfl) ?_
                                        refine lv_aload_n hx hb dX10_plan_221 rfl (lv_at hl 2 rfl) ?_
                                        refine gs_get (C := RX10) (T := TX10) (N := 59) hx hb hts inX10 hown hK hM 0 0 50 (by decide) rfl rfl (by decide) (hts _ gm_947) (fun _ h9 => h9) rfl dX10_plan_222 ?_
                                        refine lv_iload hx hb dX10_plan_225 (lv_at hl 0 rfl) ?_
                                        refine gs_iald hx hb hK hM 34 0 (by decide) rfl (vp_in_iff.mpr ⟨by omega, by omega⟩) dX10_plan_227 ?_
                                        refine lv_topi (fun x_116 ex_116 => ?_)
                                        have qx_116 : x_116.toInt = (sv104 34 0 (y104_0.toNatClampNeg)).toInt := congrArg Int32.toInt ex_116
                                        refine gs_iast hx hb hK hI hm hM hS 37 0 (by decide) (fun _ => rfl) (vp_in_iff.mpr ⟨by omega, by omega⟩) dX10_plan_228 (fun st_117 H locs est_117 hM hS => ?_)
                                        have hB_st_117 : gBN bM kM [0, 55, 56, 57, 58, 2900, 3000, 3100, 3200, 3300, 3400, 3500, 3600, 3700, 3800] st st_117 := by rw [est_117]; exact hB_sv104.up (show (3700 : Nat) ∈ _ from by decide) (gi_lo _) (gi_hi _)
                                        obtain ⟨x_118, ex_118⟩ : ∃ y : Int32, y = y104_0 + 1 := ⟨_, rfl⟩
                                        try have tx_118 : x_118.toInt = y104_0.toInt + 1 := by rw [ex_118]; exact gz_addP (x := y104_0.toInt) (y := 1) rfl (by decide) (by omega) (by omega)
                                        refine lv_iinc (v := (x_118)) (lv' := [(4, .int x_118), (3, .int y25_0), (0, .ref (ad 0 0)), (1, .int x), (2, .int y)]) hx hb dX10_plan_229 hl (k := 0) rfl (by rw [ex_118]; rfl) (by decide) rfl (fun ls hl => ?_)
                                        refine lv_goto (tgt := 209) hx hb dX10_plan_232 (by decide) ?_
                                        exact ih_104 st_117 (x_118 : Int32) H _ ls (by omega) hB_st_117 (by omega) (pcM.step (v := x_116) hv104_1 (by omega) (by omega) ((congrFun (congrFun est_117 37) 0).trans ((gU_at _ _ _ _ _).trans (congrArg (fun f9 => upd f9 (y104_0.toNatClampNeg) (x_116 : Int32)) rfl))) (ex_116.trans (congrFun hv104_2 _))) (((congrFun (congrFun est_117 34) 0).trans (congrFun (gU_k (by decide)) 0)).trans hv104_2) (((congrFun (congrFun (congrFun est_117 0) 0) 58).trans (congrFun (congrFun (gU_k (by decide)) 0) 58)).trans hv104_3) ((congrArg Int32.toInt ((congrFun (congrFun (congrFun est_117 0) 0) 0).trans (congrFun (congrFun (gU_k (by decide)) 0) 0))).trans hv104_4) hM hS (lv_sub hl [0, 1, 2, 3, 4] rfl)
                                  exact lp104 ((56 - ((0 : Int32) : Int32).toInt).toNat + 1) sv25 ((0 : Int32) : Int32) H _ ls (Nat.lt_succ_self _) hB_sv25 (by have hl0 : (0 : Int32).toInt = 0 := (by decide); omega) (pcM.nil (by decide)) rfl rfl hv25_7 hM hS (lv_sub hl [0, 1, 2, 3, 4] rfl)
                          exact lp25 (pMu (st_24 33 0) (((0 : Int32) : Int32).toInt + 1).toNat + 1) st_24 ((0 : Int32) : Int32) H _ ls (Nat.lt_succ_self _) hB_st_24 (by have hl0 : (0 : Int32).toInt = 0 := (by decide); omega) (by have hl0 : (0 : Int32).toInt = 0 := (by decide); omega) (by rw [show (0 : Int32).toInt = 0 from by decide]; exact loM.new hwf hok (by omega) (by omega) (by have h7 : (0 : Int) ≤ (st 0 0 7).toInt ∧ (st 0 0 7).toInt ≤ (199 : Int) := hB 0 0 7; omega) ⟨((congrFun (congrFun est_20 22) 0).trans ((congrFun (gU_k (by decide)) 0).trans ((funext (fun j9 => hB_sv18.2 22 0 j9 (show (2200 : Nat) ∉ _ from by decide))).trans rfl))), ((congrFun (congrFun est_20 23) 0).trans ((congrFun (gU_k (by decide)) 0).trans ((funext (fun j9 => hB_sv18.2 23 0 j9 (show (2300 : Nat) ∉ _ from by decide))).trans rfl))), ((congrFun (congrFun est_20 24) 0).trans ((congrFun (gU_k (by decide)) 0).trans ((funext (fun j9 => hB_sv18.2 24 0 j9 (show (2400 : Nat) ∉ _ from by decide))).trans rfl))), ((congrFun (congrFun est_20 25) 0).trans ((congrFun (gU_k (by decide)) 0).trans ((funext (fun j9 => hB_sv18.2 25 0 j9 (show (2500 : Nat) ∉ _ from by decide))).trans rfl))), ((congrFun (congrFun est_20 3) 0).trans ((congrFun (gU_k (by decide)) 0).trans ((funext (fun j9 => hB_sv18.2 3 0 j9 (show (300 : Nat) ∉ _ from by decide))).trans rfl))), ((congrFun (congrFun est_20 2) 0).trans ((congrFun (gU_k (by decide)) 0).trans ((funext (fun j9 => hB_sv18.2 2 0 j9 (show (200 : Nat) ∉ _ from by decide))).trans rfl))), ((congrFun (congrFun est_20 28) 0).trans ((congrFun (gU_k (by decide)) 0).trans ((funext (fun j9 => hB_sv18.2 28 0 j9 (show (2800 : Nat) ∉ _ from by decide))).trans rfl))), ((congrFun (congrFun est_20 6) 0).trans ((congrFun (gU_k (by decide)) 0).trans ((funext (fun j9 => hB_sv18.2 6 0 j9 (show (600 : Nat) ∉ _ from by decide))).trans rfl))), (((congrFun (congrFun (congrFun est_20 0) 0) 7).trans (congrFun (congrFun (gU_k (by decide)) 0) 7)).trans (hB_sv18.2 0 0 7 (show (7 : Nat) ∉ _ from by decide))), ((congrFun (congrFun est_20 1) 0).trans ((congrFun (gU_k (by decide)) 0).trans ((funext (fun j9 => hB_sv18.2 1 0 j9 (show (100 : Nat) ∉ _ from by decide))).trans rfl)))⟩ ⟨((funext (fun j9 => n_24.2 22 0 j9 (show (2200 : Nat) ∉ _ from by decide))).trans ((congrFun (congrFun est_20 22) 0).trans ((congrFun (gU_k (by decide)) 0).trans ((funext (fun j9 => hB_sv18.2 22 0 j9 (show (2200 : Nat) ∉ _ from by decide))).trans rfl)))), ((funext (fun j9 => n_24.2 23 0 j9 (show (2300 : Nat) ∉ _ from by decide))).trans ((congrFun (congrFun est_20 23) 0).trans ((congrFun (gU_k (by decide)) 0).trans ((funext (fun j9 => hB_sv18.2 23 0 j9 (show (2300 : Nat) ∉ _ from by decide))).trans rfl)))), ((funext (fun j9 => n_24.2 24 0 j9 (show (2400 : Nat) ∉ _ from by decide))).trans ((congrFun (congrFun est_20 24) 0).trans ((congrFun (gU_k (by decide)) 0).trans ((funext (fun j9 => hB_sv18.2 24 0 j9 (show (2400 : Nat) ∉ _ from by decide))).trans rfl)))), ((funext (fun j9 => n_24.2 25 0 j9 (show (2500 : Nat) ∉ _ from by decide))).trans ((congrFun (congrFun est_20 25) 0).trans ((congrFun (gU_k (by decide)) 0).trans ((funext (fun j9 => hB_sv18.2 25 0 j9 (show (2500 : Nat) ∉ _ from by decide))).trans rfl)))), ((funext (fun j9 => n_24.2 3 0 j9 (show (300 : Nat) ∉ _ from by decide))).trans ((congrFun (congrFun est_20 3) 0).trans ((congrFun (gU_k (by decide)) 0).trans ((funext (fun j9 => hB_sv18.2 3 0 j9 (show (300 : Nat) ∉ _ from by decide))).trans rfl)))), ((funext (fun j9 => n_24.2 2 0 j9 (show (200 : Nat) ∉ _ from by decide))).trans ((congrFun (congrFun est_20 2) 0).trans ((congrFun (gU_k (by decide)) 0).trans ((funext (fun j9 => hB_sv18.2 2 0 j9 (show (200 : Nat) ∉ _ from by decide))).trans rfl)))), ((funext (fun j9 => n_24.2 28 0 j9 (show (2800 : Nat) ∉ _ from by decide))).trans ((congrFun (congrFun est_20 28) 0).trans ((congrFun (gU_k (by decide)) 0).trans ((funext (fun j9 => hB_sv18.2 28 0 j9 (show (2800 : Nat) ∉ _ from by decide))).trans rfl)))), ((funext (fun j9 => n_24.2 6 0 j9 (show (600 : Nat) ∉ _ from by decide))).trans ((congrFun (congrFun est_20 6) 0).trans ((congrFun (gU_k (by decide)) 0).trans ((funext (fun j9 => hB_sv18.2 6 0 j9 (show (600 : Nat) ∉ _ from by decide))).trans rfl)))), ((n_24.2 0 0 7 (show (7 : Nat) ∉ _ from by decide)).trans (((congrFun (congrFun (congrFun est_20 0) 0) 7).trans (congrFun (congrFun (gU_k (by decide)) 0) 7)).trans (hB_sv18.2 0 0 7 (show (7 : Nat) ∉ _ from by decide)))), ((funext (fun j9 => n_24.2 1 0 j9 (show (100 : Nat) ∉ _ from by decide))).trans ((congrFun (congrFun est_20 1) 0).trans ((congrFun (gU_k (by decide)) 0).trans ((funext (fun j9 => hB_sv18.2 1 0 j9 (show (100 : Nat) ∉ _ from by decide))).trans rfl))))⟩ (fun w9 h9 => (congrFun ((congrFun (congrFun est_20 29) 0).trans (congrFun (gU_k (by decide)) 0)) w9).trans (hv18_2 w9 h9)) (fun w9 h9 => by have h8 := hv18_1 w9 (by omega); rw [show st_20 30 0 = sv18 30 0 from ((congrFun (congrFun est_20 30) 0).trans (congrFun (gU_k (by decide)) 0)), show st_20 31 0 = sv18 31 0 from ((congrFun (congrFun est_20 31) 0).trans (congrFun (gU_k (by decide)) 0)), show st_20 32 0 = sv18 32 0 from ((congrFun (congrFun est_20 32) 0).trans (congrFun (gU_k (by decide)) 0))]; exact h8) (by have h9 := hw_24_0; rw [show (0 : Int32).toNatClampNeg = 0 from by decide] at h9; exact h9) (by have h9 : (st_20 0 0 7).toInt = (st 0 0 7).toInt := congrArg Int32.toInt (((congrFun (congrFun (congrFun est_20 0) 0) 7).trans (congrFun (congrFun (gU_k (by decide)) 0) 7)).trans (hB_sv18.2 0 0 7 (show (7 : Nat) ∉ _ from by decide))); have c_y := gs_cl (x := x_23) (by omega); omega) (funext fun j9 => n_24.2 30 0 j9 (show (3000 : Nat) ∉ _ from by decide)) (funext fun j9 => n_24.2 31 0 j9 (show (3100 : Nat) ∉ _ from by decide)) (funext fun j9 => n_24.2 32 0 j9 (show (3200 : Nat) ∉ _ from by decide)) (by have h9 : st_24 33 0 0 = 0 := ((n_24.2 33 0 0 (show (3300 : Nat) ∉ _ from by decide)).trans ((congrFun (congrFun (congrFun est_20 33) 0) 0).trans (gU_same _ _ _ _ _))); rw [h9]; decide) ((congrArg Int32.toInt (n_24.2 0 0 57 (show (57 : Nat) ∉ _ from by decide))).trans ((congrArg Int32.toInt ((congrFun (congrFun (congrFun est_20 0) 0) 57).trans (congrFun (congrFun (gU_k (by decide)) 0) 57))).trans hv18_3)) ((congrArg Int32.toInt (n_24.2 0 0 58 (show (58 : Nat) ∉ _ from by decide))).trans ((congrArg Int32.toInt ((congrFun (congrFun (congrFun est_20 0) 0) 58).trans (congrFun (congrFun (gU_k (by decide)) 0) 58))).trans hv18_4))) ((funext fun j9 => n_24.2 37 0 j9 (show (3700 : Nat) ∉ _ from by decide)).trans (((congrFun (congrFun est_20 37) 0).trans (congrFun (gU_k (by decide)) 0)).trans hv18_6)) ((funext fun j9 => n_24.2 38 0 j9 (show (3800 : Nat) ∉ _ from by decide)).trans (((congrFun (congrFun est_20 38) 0).trans (congrFun (gU_k (by decide)) 0)).trans hv18_7)) ((n_24.2 0 0 55 (show (55 : Nat) ∉ _ from by decide)).trans (((congrFun (congrFun (congrFun est_20 0) 0) 55).trans (congrFun (congrFun (gU_k (by decide)) 0) 55)).trans hv18_8)) ((n_24.2 0 0 56 (show (56 : Nat) ∉ _ from by decide)).trans (((congrFun (congrFun (congrFun est_20 0) 0) 56).trans (congrFun (congrFun (gU_k (by decide)) 0) 56)).trans hv18_9)) ((congrArg Int32.toInt (n_24.2 0 0 0 (show (0 : Nat) ∉ _ from by decide))).trans ((congrArg Int32.toInt ((congrFun (congrFun (congrFun est_20 0) 0) 0).trans (congrFun (congrFun (gU_k (by decide)) 0) 0))).trans hv18_5)) hM hS (lv_sub hl [0, 1, 2, 3] rfl)
                        · have ic_19 := gz_nle (by decide : (4 : Int32).toInt = 4) (rfl : y18_0.toInt = y18_0.toInt) c_19
                          refine lv_aload_n hx hb dX10_plan_135 rfl (lv_at hl 1 rfl) ?_
                          refine gs_get (C := RX10) (T := TX10) (N := 59) hx hb hts inX10 hown hK hM 0 0 46 (by decide) rfl rfl (by decide) (hts _ gm_943) (fun _ h9 => h9) rfl dX10_plan_136 ?_
                          refine lv_iload_n hx hb dX10_plan_139 rfl (lv_at hl 0 rfl) ?_
                          refine lv_aload_n hx hb dX10_plan_140 rfl (lv_at hl 1 rfl) ?_
                          refine gs_get (C := RX10) (T := TX10) (N := 59) hx hb hts inX10 hown hK hM 0 0 42 (by decide) rfl rfl (by decide) (hts _ gm_939) (fun _ h9 => h9) rfl dX10_plan_141 ?_
                          refine lv_iload_n hx hb dX10_plan_144 rfl (lv_at hl 0 rfl) ?_
                          refine gs_iald hx hb hK hM 26 0 (by decide) rfl (vp_in_iff.mpr ⟨by omega, by omega⟩) dX10_plan_145 ?_
                          refine lv_topi (fun x_119 ex_119 => ?_)
                          have qx_119 : x_119.toInt = (sv18 26 0 (y18_0.toNatClampNeg)).toInt := congrArg Int32.toInt ex_119
                          have bx_119 : (0 : Int) ≤ x_119.toInt ∧ x_119.toInt ≤ (5 : Int) := by rw [qx_119]; exact hB_sv18.1 26 0 (y18_0.toNatClampNeg)
                          have rx_119 : x_119.toInt = ((st 26 0 (y18_0.toNatClampNeg)) : Int32).toInt := by rw [ex_119]; exact congrArg Int32.toInt ((hB_sv18.2 26 0 (y18_0.toNatClampNeg) (show (2600 : Nat) ∉ _ from by decide)))
                          refine gs_iast hx hb hK hI hm hM hS 30 0 (by decide) (fun _ => rfl) (vp_in_iff.mpr ⟨by omega, by omega⟩) dX10_plan_146 (fun st_120 H locs est_120 hM hS => ?_)
                          have hB_st_120 : gBN bM kM [0, 55, 56, 57, 58, 2900, 3000, 3100, 3200, 3300, 3400, 3500, 3600, 3700, 3800] st st_120 := by rw [est_120]; exact hB_sv18.up (show (3000 : Nat) ∈ _ from by decide) (show (0 : Int) ≤ x_119.toInt from by omega) (show x_119.toInt ≤ (5 : Int) from by omega)
                          refine lv_aload_n hx hb dX10_plan_147 rfl (lv_at hl 1 rfl) ?_
                          refine gs_get (C := RX10) (T := TX10) (N := 59) hx hb hts inX10 hown hK hM 0 0 47 (by decide) rfl rfl (by decide) (hts _ gm_944) (fun _ h9 => h9) rfl dX10_plan_148 ?_
                          refine lv_iload_n hx hb dX10_plan_151 rfl (lv_at hl 0 rfl) ?_
                          refine lv_aload_n hx hb dX10_plan_152 rfl (lv_at hl 1 rfl) ?_
                          refine gs_get (C := RX10) (T := TX10) (N := 59) hx hb hts inX10 hown hK hM 0 0 7 (by decide) rfl rfl (by decide) (hts _ gm_904) (fun _ h9 => h9) rfl dX10_plan_153 ?_
                          refine lv_topi (fun x_121 ex_121 => ?_)
                          have ex_121 : (st 0 0 7) = x_121 := Eq.symm (ex_121.trans (((congrFun (congrFun (congrFun est_120 0) 0) 7).trans (congrFun (congrFun (gU_k (by decide)) 0) 7)).trans (hB_sv18.2 0 0 7 (show (7 : Nat) ∉ _ from by decide))))
                          subst ex_121
                          have bf_122 : (0 : Int) ≤ (st 0 0 7).toInt ∧ (st 0 0 7).toInt ≤ (199 : Int) := hB_st.1 0 0 7
                          refine gs_iast hx hb hK hI hm hM hS 31 0 (by decide) (fun _ => rfl) (vp_in_iff.mpr ⟨by omega, by omega⟩) dX10_plan_156 (fun st_123 H locs est_123 hM hS => ?_)
                          have hB_st_123 : gBN bM kM [0, 55, 56, 57, 58, 2900, 3000, 3100, 3200, 3300, 3400, 3500, 3600, 3700, 3800] st st_123 := by rw [est_123]; exact hB_st_120.up (show (3100 : Nat) ∈ _ from by decide) (gi_lo _) (gi_hi _)
                          refine lv_aload_n hx hb dX10_plan_157 rfl (lv_at hl 1 rfl) ?_
                          refine gs_get (C := RX10) (T := TX10) (N := 59) hx hb hts inX10 hown hK hM 0 0 48 (by decide) rfl rfl (by decide) (hts _ gm_945) (fun _ h9 => h9) rfl dX10_plan_158 ?_
                          refine lv_iload_n hx hb dX10_plan_161 rfl (lv_at hl 0 rfl) ?_
                          refine lv_aload_n hx hb dX10_plan_162 rfl (lv_at hl 1 rfl) ?_
                          refine gs_get (C := RX10) (T := TX10) (N := 59) hx hb hts inX10 hown hK hM 0 0 43 (by decide) rfl rfl (by decide) (hts _ gm_940) (fun _ h9 => h9) rfl dX10_plan_163 ?_
                          refine lv_iload_n hx hb dX10_plan_166 rfl (lv_at hl 0 rfl) ?_
                          refine gs_iald hx hb hK hM 27 0 (by decide) rfl (vp_in_iff.mpr ⟨by omega, by omega⟩) dX10_plan_167 ?_
                          refine lv_topi (fun x_124 ex_124 => ?_)
                          have qx_124 : x_124.toInt = (st_123 27 0 (y18_0.toNatClampNeg)).toInt := congrArg Int32.toInt ex_124
                          have rx_124 : x_124.toInt = ((st 27 0 (y18_0.toNatClampNeg)) : Int32).toInt := by rw [ex_124]; exact congrArg Int32.toInt ((((congrFun (congrFun (congrFun est_123 27) 0) (y18_0.toNatClampNeg)).trans (congrFun (congrFun (gU_k (by decide)) 0) (y18_0.toNatClampNeg))).trans (((congrFun (congrFun (congrFun est_120 27) 0) (y18_0.toNatClampNeg)).trans (congrFun (congrFun (gU_k (by decide)) 0) (y18_0.toNatClampNeg))).trans (hB_sv18.2 27 0 (y18_0.toNatClampNeg) (show (2700 : Nat) ∉ _ from by decide)))))
                          refine gs_iast hx hb hK hI hm hM hS 32 0 (by decide) (fun _ => rfl) (vp_in_iff.mpr ⟨by omega, by omega⟩) dX10_plan_168 (fun st_125 H locs est_125 hM hS => ?_)
                          have hB_st_125 : gBN bM kM [0, 55, 56, 57, 58, 2900, 3000, 3100, 3200, 3300, 3400, 3500, 3600, 3700, 3800] st st_125 := by rw [est_125]; exact hB_st_123.up (show (3200 : Nat) ∈ _ from by decide) (gi_lo _) (gi_hi _)
                          obtain ⟨x_126, ex_126⟩ : ∃ y : Int32, y = y18_0 + 1 := ⟨_, rfl⟩
                          try have tx_126 : x_126.toInt = y18_0.toInt + 1 := by rw [ex_126]; exact gz_addP (x := y18_0.toInt) (y := 1) rfl (by decide) (by omega) (by omega)
                          refine lv_iinc (v := (x_126)) (lv' := [(3, .int x_126), (0, .ref (ad 0 0)), (1, .int x), (2, .int y)]) hx hb dX10_plan_169 hl (k := 0) rfl (by rw [ex_126]; rfl) (by decide) rfl (fun ls hl => ?_)
                          refine lv_goto (tgt := 130) hx hb dX10_plan_172 (by decide) ?_
                          exact ih_18 st_125 (x_126 : Int32) H _ ls (by omega) hB_st_125 (by omega) (hdM.step (a := x_119) (b := (st 0 0 7)) (c := x_124) hv18_1 (by omega) (by omega) ((congrFun (congrFun est_125 30) 0).trans ((congrFun (gU_k (by decide)) 0).trans ((congrFun (congrFun est_123 30) 0).trans ((congrFun (gU_k (by decide)) 0).trans ((congrFun (congrFun est_120 30) 0).trans ((gU_at _ _ _ _ _).trans (congrArg (fun f9 => upd f9 (y18_0.toNatClampNeg) (x_119 : Int32)) rfl))))))) ((congrFun (congrFun est_125 31) 0).trans ((congrFun (gU_k (by decide)) 0).trans ((congrFun (congrFun est_123 31) 0).trans ((gU_at _ _ _ _ _).trans (congrArg (fun f9 => upd f9 (y18_0.toNatClampNeg) ((st 0 0 7) : Int32)) ((congrFun (congrFun est_120 31) 0).trans ((congrFun (gU_k (by decide)) 0).trans rfl))))))) ((congrFun (congrFun est_125 32) 0).trans ((gU_at _ _ _ _ _).trans (congrArg (fun f9 => upd f9 (y18_0.toNatClampNeg) (x_124 : Int32)) ((congrFun (congrFun est_123 32) 0).trans ((congrFun (gU_k (by decide)) 0).trans ((congrFun (congrFun est_120 32) 0).trans ((congrFun (gU_k (by decide)) 0).trans rfl))))))) (ex_119.trans (hB_sv18.2 26 0 (y18_0.toNatClampNeg) (show (2600 : Nat) ∉ _ from by decide))) rfl (ex_124.trans (((congrFun (congrFun (congrFun est_123 27) 0) (y18_0.toNatClampNeg)).trans (congrFun (congrFun (gU_k (by decide)) 0) (y18_0.toNatClampNeg))).trans (((congrFun (congrFun (congrFun est_120 27) 0) (y18_0.toNatClampNeg)).trans (congrFun (congrFun (gU_k (by decide)) 0) (y18_0.toNatClampNeg))).trans (hB_sv18.2 27 0 (y18_0.toNatClampNeg) (show (2700 : Nat) ∉ _ from by decide)))))) (fun w9 h9 => (congrFun (((congrFun (congrFun est_125 29) 0).trans (congrFun (gU_k (by decide)) 0)).trans (((congrFun (congrFun est_123 29) 0).trans (congrFun (gU_k (by decide)) 0)).trans ((congrFun (congrFun est_120 29) 0).trans (congrFun (gU_k (by decide)) 0)))) w9).trans (hv18_2 w9 h9)) ((congrArg Int32.toInt ((congrFun (congrFun (congrFun est_125 0) 0) 57).trans (congrFun (congrFun (gU_k (by decide)) 0) 57))).trans ((congrArg Int32.toInt ((congrFun (congrFun (congrFun est_123 0) 0) 57).trans (congrFun (congrFun (gU_k (by decide)) 0) 57))).trans ((congrArg Int32.toInt ((congrFun (congrFun (congrFun est_120 0) 0) 57).trans (congrFun (congrFun (gU_k (by decide)) 0) 57))).trans hv18_3))) ((congrArg Int32.toInt ((congrFun (congrFun (congrFun est_125 0) 0) 58).trans (congrFun (congrFun (gU_k (by decide)) 0) 58))).trans ((congrArg Int32.toInt ((congrFun (congrFun (congrFun est_123 0) 0) 58).trans (congrFun (congrFun (gU_k (by decide)) 0) 58))).trans ((congrArg Int32.toInt ((congrFun (congrFun (congrFun est_120 0) 0) 58).trans (congrFun (congrFun (gU_k (by decide)) 0) 58))).trans hv18_4))) ((congrArg Int32.toInt ((congrFun (congrFun (congrFun est_125 0) 0) 0).trans (congrFun (congrFun (gU_k (by decide)) 0) 0))).trans ((congrArg Int32.toInt ((congrFun (congrFun (congrFun est_123 0) 0) 0).trans (congrFun (congrFun (gU_k (by decide)) 0) 0))).trans ((congrArg Int32.toInt ((congrFun (congrFun (congrFun est_120 0) 0) 0).trans (congrFun (congrFun (gU_k (by decide)) 0) 0))).trans hv18_5))) (((congrFun (congrFun est_125 37) 0).trans (congrFun (gU_k (by decide)) 0)).trans (((congrFun (congrFun est_123 37) 0).trans (congrFun (gU_k (by decide)) 0)).trans (((congrFun (congrFun est_120 37) 0).trans (congrFun (gU_k (by decide)) 0)).trans hv18_6))) (((congrFun (congrFun est_125 38) 0).trans (congrFun (gU_k (by decide)) 0)).trans (((congrFun (congrFun est_123 38) 0).trans (congrFun (gU_k (by decide)) 0)).trans (((congrFun (congrFun est_120 38) 0).trans (congrFun (gU_k (by decide)) 0)).trans hv18_7))) (((congrFun (congrFun (congrFun est_125 0) 0) 55).trans (congrFun (congrFun (gU_k (by decide)) 0) 55)).trans (((congrFun (congrFun (congrFun est_123 0) 0) 55).trans (congrFun (congrFun (gU_k (by decide)) 0) 55)).trans (((congrFun (congrFun (congrFun est_120 0) 0) 55).trans (congrFun (congrFun (gU_k (by decide)) 0) 55)).trans hv18_8))) (((congrFun (congrFun (congrFun est_125 0) 0) 56).trans (congrFun (congrFun (gU_k (by decide)) 0) 56)).trans (((congrFun (congrFun (congrFun est_123 0) 0) 56).trans (congrFun (congrFun (gU_k (by decide)) 0) 56)).trans (((congrFun (congrFun (congrFun est_120 0) 0) 56).trans (congrFun (congrFun (gU_k (by decide)) 0) 56)).trans hv18_9))) hM hS (lv_sub hl [0, 1, 2, 3] rfl)
                    exact lp18 ((4 - ((0 : Int32) : Int32).toInt).toNat + 1) sv16 ((0 : Int32) : Int32) H _ ls (Nat.lt_succ_self _) hB_sv16 (by have hl0 : (0 : Int32).toInt = 0 := (by decide); omega) (hdM.nil (by decide)) (fun w9 h9 => hv16_1 w9 (by omega)) hv16_2 hv16_3 hv16_4 hv16_5 hv16_6 hv16_7 hv16_8 hM hS (lv_sub hl [0, 1, 2, 3] rfl)
                  · have ic_17 := gz_nle (by decide : (6 : Int32).toInt = 6) (rfl : y16_0.toInt = y16_0.toInt) c_17
                    refine lv_aload_n hx hb dX10_plan_110 rfl (lv_at hl 1 rfl) ?_
                    refine gs_get (C := RX10) (T := TX10) (N := 59) hx hb hts inX10 hown hK hM 0 0 45 (by decide) rfl rfl (by decide) (hts _ gm_942) (fun _ h9 => h9) rfl dX10_plan_111 ?_
                    refine lv_iload_n hx hb dX10_plan_114 rfl (lv_at hl 0 rfl) ?_
                    refine lv_aload_n hx hb dX10_plan_115 rfl (lv_at hl 1 rfl) ?_
                    refine gs_get (C := RX10) (T := TX10) (N := 59) hx hb hts inX10 hown hK hM 0 0 4 (by decide) rfl rfl (by decide) (hts _ gm_901) (fun _ h9 => h9) rfl dX10_plan_116 ?_
                    refine lv_iload_n hx hb dX10_plan_119 rfl (lv_at hl 0 rfl) ?_
                    refine gs_iald hx hb hK hM 4 0 (by decide) rfl (vp_in_iff.mpr ⟨by omega, by omega⟩) dX10_plan_120 ?_
                    refine lv_topi (fun x_127 ex_127 => ?_)
                    have qx_127 : x_127.toInt = (sv16 4 0 (y16_0.toNatClampNeg)).toInt := congrArg Int32.toInt ex_127
                    have rx_127 : x_127.toInt = ((st 4 0 (y16_0.toNatClampNeg)) : Int32).toInt := by rw [ex_127]; exact congrArg Int32.toInt ((hB_sv16.2 4 0 (y16_0.toNatClampNeg) (show (400 : Nat) ∉ _ from by decide)))
                    refine gs_iast hx hb hK hI hm hM hS 29 0 (by decide) (fun _ => rfl) (vp_in_iff.mpr ⟨by omega, by omega⟩) dX10_plan_121 (fun st_128 H locs est_128 hM hS => ?_)
                    have hB_st_128 : gBN bM kM [0, 55, 56, 57, 58, 2900, 3000, 3100, 3200, 3300, 3400, 3500, 3600, 3700, 3800] st st_128 := by rw [est_128]; exact hB_sv16.up (show (2900 : Nat) ∈ _ from by decide) (gi_lo _) (gi_hi _)
                    obtain ⟨x_129, ex_129⟩ : ∃ y : Int32, y = y16_0 + 1 := ⟨_, rfl⟩
                    try have tx_129 : x_129.toInt = y16_0.toInt + 1 := by rw [ex_129]; exact gz_addP (x := y16_0.toInt) (y := 1) rfl (by decide) (by omega) (by omega)
                    refine lv_iinc (v := (x_129)) (lv' := [(3, .int x_129), (0, .ref (ad 0 0)), (1, .int x), (2, .int y)]) hx hb dX10_plan_122 hl (k := 0) rfl (by rw [ex_129]; rfl) (by decide) rfl (fun ls hl => ?_)
                    refine lv_goto (tgt := 104) hx hb dX10_plan_125 (by decide) ?_
                    exact ih_16 st_128 (x_129 : Int32) H _ ls (by omega) hB_st_128 (by omega) (clM.step (v := x_127) hv16_1 (by omega) (by omega) ((congrFun (congrFun est_128 29) 0).trans ((gU_at _ _ _ _ _).trans (congrArg (fun f9 => upd f9 (y16_0.toNatClampNeg) (x_127 : Int32)) rfl))) (ex_127.trans (hB_sv16.2 4 0 (y16_0.toNatClampNeg) (show (400 : Nat) ∉ _ from by decide)))) ((congrArg Int32.toInt ((congrFun (congrFun (congrFun est_128 0) 0) 57).trans (congrFun (congrFun (gU_k (by decide)) 0) 57))).trans hv16_2) ((congrArg Int32.toInt ((congrFun (congrFun (congrFun est_128 0) 0) 58).trans (congrFun (congrFun (gU_k (by decide)) 0) 58))).trans hv16_3) ((congrArg Int32.toInt ((congrFun (congrFun (congrFun est_128 0) 0) 0).trans (congrFun (congrFun (gU_k (by decide)) 0) 0))).trans hv16_4) (((congrFun (congrFun est_128 37) 0).trans (congrFun (gU_k (by decide)) 0)).trans hv16_5) (((congrFun (congrFun est_128 38) 0).trans (congrFun (gU_k (by decide)) 0)).trans hv16_6) (((congrFun (congrFun (congrFun est_128 0) 0) 55).trans (congrFun (congrFun (gU_k (by decide)) 0) 55)).trans hv16_7) (((congrFun (congrFun (congrFun est_128 0) 0) 56).trans (congrFun (congrFun (gU_k (by decide)) 0) 56)).trans hv16_8) hM hS (lv_sub hl [0, 1, 2, 3] rfl)
              exact lp16 ((6 - ((0 : Int32) : Int32).toInt).toNat + 1) st_15 ((0 : Int32) : Int32) H _ ls (Nat.lt_succ_self _) hB_st_15 (by have hl0 : (0 : Int32).toInt = 0 := (by decide); omega) (clM.nil (by decide)) ((congrArg Int32.toInt ((congrFun (congrFun (congrFun est_15 0) 0) 57).trans (gU_other (by decide)))).trans (by rw [show st_14 0 0 57 = (0 : Int32) from ((congrFun (congrFun (congrFun est_14 0) 0) 57).trans (gU_same _ _ _ _ _))]; decide)) (by rw [show st_15 0 0 58 = (0 : Int32) from ((congrFun (congrFun (congrFun est_15 0) 0) 58).trans (gU_same _ _ _ _ _))]; decide) ((congrArg Int32.toInt ((congrFun (congrFun (congrFun est_15 0) 0) 0).trans (gU_other (by decide)))).trans ((congrArg Int32.toInt ((congrFun (congrFun (congrFun est_14 0) 0) 0).trans (gU_other (by decide)))).trans (by rw [show st_5 0 0 0 = (0 : Int32) from ((congrFun (congrFun (congrFun est_5 0) 0) 0).trans (gU_same _ _ _ _ _))]; decide))) (((congrFun (congrFun est_15 37) 0).trans (congrFun (gU_k (by decide)) 0)).trans (((congrFun (congrFun est_14 37) 0).trans (congrFun (gU_k (by decide)) 0)).trans ((congrFun (congrFun est_5 37) 0).trans (congrFun (gU_k (by decide)) 0)))) (((congrFun (congrFun est_15 38) 0).trans (congrFun (gU_k (by decide)) 0)).trans (((congrFun (congrFun est_14 38) 0).trans (congrFun (gU_k (by decide)) 0)).trans ((congrFun (congrFun est_5 38) 0).trans (congrFun (gU_k (by decide)) 0)))) (((congrFun (congrFun (congrFun est_15 0) 0) 55).trans (gU_other (by decide))).trans (((congrFun (congrFun (congrFun est_14 0) 0) 55).trans (gU_other (by decide))).trans ((congrFun (congrFun (congrFun est_5 0) 0) 55).trans (gU_other (by decide))))) (((congrFun (congrFun (congrFun est_15 0) 0) 56).trans (gU_other (by decide))).trans (((congrFun (congrFun (congrFun est_14 0) 0) 56).trans (gU_other (by decide))).trans ((congrFun (congrFun (congrFun est_5 0) 0) 56).trans (gU_other (by decide))))) hM hS (lv_sub hl [0, 1, 2, 3] rfl)
            · have ic_13 := gz_nle (rfl : x_12.toInt = x_12.toInt) (by decide : (199 : Int32).toInt = 199) c_13
              refine lv_iconst (v := (-1)) hx hb dX10_plan_90 (by decide) ?_
              rw [← hQe]
              exact gs_iret hx hb hr hlocks hM hS rfl ⟨hB_st_5, (Or.inr (Or.inl ⟨⟨by omega, by omega⟩, (fun h9 => by obtain ⟨⟨h, h4, hn⟩, h8⟩ := h9; first | (exfalso; omega) | (have e9 : h = 0 ∨ h = 1 ∨ h = 2 ∨ h = 3 := (by omega); rcases e9 with e9 | e9 | e9 | e9 <;> (subst e9; omega))), by decide, (by rw [show st_5 0 0 0 = (0 : Int32) from ((congrFun (congrFun (congrFun est_5 0) 0) 0).trans (gU_same _ _ _ _ _))]; decide), (frM.up est_5)⟩))⟩ (by exact Nat.le_refl _) (by exact Nat.le_refl _) dX10_plan_91
      refine lv_aload_n hx hb dX10_plan_31 rfl (lv_at hl 0 rfl) ?_
      refine gs_get (C := RX10) (T := TX10) (N := 59) hx hb hts inX10 hown hK hM 0 0 38 (by decide) rfl rfl (by decide) (hts _ gm_935) (fun _ h9 => h9) rfl dX10_plan_32 ?_
      refine lv_iconst (v := 0) hx hb dX10_plan_35 (by decide) ?_
      refine gs_zald hx hb hK hM 22 0 (by decide) rfl (vp_in_iff.mpr (by decide)) dX10_plan_36 ?_
      refine lv_topi (fun x_130 ex_130 => ?_)
      have qx_130 : x_130.toInt = (st_5 22 0 0).toInt := congrArg Int32.toInt ex_130
      have rx_130 : x_130.toInt = ((st 22 0 0) : Int32).toInt := by rw [ex_130]; exact congrArg Int32.toInt (((congrFun (congrFun (congrFun est_5 22) 0) 0).trans (congrFun (congrFun (gU_k (by decide)) 0) 0)))
      refine lv_if_ne (tgt := 67) hx hb dX10_plan_37 (by decide) (fun c_131 => ?_) (fun c_131 => ?_)
      · have ic_131 := gz_ne (rfl : x_130.toInt = x_130.toInt) (by decide : (0 : Int32).toInt = 0) c_131
        exact jn7   H _ ls  ⟨0, by decide, (by have h9 : (st_5 22 0 0).toInt = (st 22 0 0).toInt := congrArg Int32.toInt (congrFun ((congrFun (congrFun est_5 22) 0).trans ((congrFun (gU_k (by decide)) 0).trans rfl)) 0); omega)⟩ hM hS (lv_sub hl [0, 1, 2] rfl)
      · have ic_131 := gz_eqn (rfl : x_130.toInt = x_130.toInt) (by decide : (0 : Int32).toInt = 0) c_131
        refine lv_aload_n hx hb dX10_plan_40 rfl (lv_at hl 0 rfl) ?_
        refine gs_get (C := RX10) (T := TX10) (N := 59) hx hb hts inX10 hown hK hM 0 0 38 (by decide) rfl rfl (by decide) (hts _ gm_935) (fun _ h9 => h9) rfl dX10_plan_41 ?_
        refine lv_iconst (v := 1) hx hb dX10_plan_44 (by decide) ?_
        refine gs_zald hx hb hK hM 22 0 (by decide) rfl (vp_in_iff.mpr (by decide)) dX10_plan_45 ?_
        refine lv_topi (fun x_132 ex_132 => ?_)
        have qx_132 : x_132.toInt = (st_5 22 0 1).toInt := congrArg Int32.toInt ex_132
        have rx_132 : x_132.toInt = ((st 22 0 1) : Int32).toInt := by rw [ex_132]; exact congrArg Int32.toInt (((congrFun (congrFun (congrFun est_5 22) 0) 1).trans (congrFun (congrFun (gU_k (by decide)) 0) 1)))
        refine lv_if_ne (tgt := 67) hx hb dX10_plan_46 (by decide) (fun c_133 => ?_) (fun c_133 => ?_)
        · have ic_133 := gz_ne (rfl : x_132.toInt = x_132.toInt) (by decide : (0 : Int32).toInt = 0) c_133
          exact jn7   H _ ls  ⟨1, by decide, (by have h9 : (st_5 22 0 1).toInt = (st 22 0 1).toInt := congrArg Int32.toInt (congrFun ((congrFun (congrFun est_5 22) 0).trans ((congrFun (gU_k (by decide)) 0).trans rfl)) 1); omega)⟩ hM hS (lv_sub hl [0, 1, 2] rfl)
        · have ic_133 := gz_eqn (rfl : x_132.toInt = x_132.toInt) (by decide : (0 : Int32).toInt = 0) c_133
          refine lv_aload_n hx hb dX10_plan_49 rfl (lv_at hl 0 rfl) ?_
          refine gs_get (C := RX10) (T := TX10) (N := 59) hx hb hts inX10 hown hK hM 0 0 38 (by decide) rfl rfl (by decide) (hts _ gm_935) (fun _ h9 => h9) rfl dX10_plan_50 ?_
          refine lv_iconst (v := 2) hx hb dX10_plan_53 (by decide) ?_
          refine gs_zald hx hb hK hM 22 0 (by decide) rfl (vp_in_iff.mpr (by decide)) dX10_plan_54 ?_
          refine lv_topi (fun x_134 ex_134 => ?_)
          have qx_134 : x_134.toInt = (st_5 22 0 2).toInt := congrArg Int32.toInt ex_134
          have rx_134 : x_134.toInt = ((st 22 0 2) : Int32).toInt := by rw [ex_134]; exact congrArg Int32.toInt (((congrFun (congrFun (congrFun est_5 22) 0) 2).trans (congrFun (congrFun (gU_k (by decide)) 0) 2)))
          refine lv_if_ne (tgt := 67) hx hb dX10_plan_55 (by decide) (fun c_135 => ?_) (fun c_135 => ?_)
          · have ic_135 := gz_ne (rfl : x_134.toInt = x_134.toInt) (by decide : (0 : Int32).toInt = 0) c_135
            exact jn7   H _ ls  ⟨2, by decide, (by have h9 : (st_5 22 0 2).toInt = (st 22 0 2).toInt := congrArg Int32.toInt (congrFun ((congrFun (congrFun est_5 22) 0).trans ((congrFun (gU_k (by decide)) 0).trans rfl)) 2); omega)⟩ hM hS (lv_sub hl [0, 1, 2] rfl)
          · have ic_135 := gz_eqn (rfl : x_134.toInt = x_134.toInt) (by decide : (0 : Int32).toInt = 0) c_135
            refine lv_aload_n hx hb dX10_plan_58 rfl (lv_at hl 0 rfl) ?_
            refine gs_get (C := RX10) (T := TX10) (N := 59) hx hb hts inX10 hown hK hM 0 0 38 (by decide) rfl rfl (by decide) (hts _ gm_935) (fun _ h9 => h9) rfl dX10_plan_59 ?_
            refine lv_iconst (v := 3) hx hb dX10_plan_62 (by decide) ?_
            refine gs_zald hx hb hK hM 22 0 (by decide) rfl (vp_in_iff.mpr (by decide)) dX10_plan_63 ?_
            refine lv_topi (fun x_136 ex_136 => ?_)
            have qx_136 : x_136.toInt = (st_5 22 0 3).toInt := congrArg Int32.toInt ex_136
            have rx_136 : x_136.toInt = ((st 22 0 3) : Int32).toInt := by rw [ex_136]; exact congrArg Int32.toInt (((congrFun (congrFun (congrFun est_5 22) 0) 3).trans (congrFun (congrFun (gU_k (by decide)) 0) 3)))
            refine lv_if_eq (tgt := 90) hx hb dX10_plan_64 (by decide) (fun c_137 => ?_) (fun c_137 => ?_)
            · have ic_137 := gz_eq (rfl : x_136.toInt = x_136.toInt) (by decide : (0 : Int32).toInt = 0) c_137
              refine lv_iconst (v := (-1)) hx hb dX10_plan_90 (by decide) ?_
              rw [← hQe]
              exact gs_iret hx hb hr hlocks hM hS rfl ⟨hB_st_5, (Or.inr (Or.inl ⟨⟨by omega, by omega⟩, (fun h9 => by obtain ⟨⟨h, h4, hn⟩, h8⟩ := h9; first | (exfalso; omega) | (have e9 : h = 0 ∨ h = 1 ∨ h = 2 ∨ h = 3 := (by omega); rcases e9 with e9 | e9 | e9 | e9 <;> (subst e9; omega))), by decide, (by rw [show st_5 0 0 0 = (0 : Int32) from ((congrFun (congrFun (congrFun est_5 0) 0) 0).trans (gU_same _ _ _ _ _))]; decide), (frM.up est_5)⟩))⟩ (by exact Nat.le_refl _) (by exact Nat.le_refl _) dX10_plan_91
            · have ic_137 := gz_ne (rfl : x_136.toInt = x_136.toInt) (by decide : (0 : Int32).toInt = 0) c_137
              exact jn7   H _ ls  ⟨3, by decide, (by have h9 : (st_5 22 0 3).toInt = (st 22 0 3).toInt := congrArg Int32.toInt (congrFun ((congrFun (congrFun est_5 22) 0).trans ((congrFun (gU_k (by decide)) 0).trans rfl)) 3); omega)⟩ hM hS (lv_sub hl [0, 1, 2] rfl)
    · have ic_4 := gz_nle (rfl : y.toInt = y.toInt) (by decide : (50000 : Int32).toInt = 50000) c_4
      refine lv_iconst (v := 1) hx hb dX10_plan_13 (by decide) ?_
      refine lv_goto (tgt := 18) hx hb dX10_plan_14 (by decide) ?_
      refine gs_put (C := RX10) (T := TX10) (N := 59) (ty := .int) (val := .int 1) hx hb hts inX10 tyX10 tyX10_ok nmX10 hown hK hI hm hM hS 0 0 0 (by decide) rfl rfl (by decide) (hts _ gm_897) (fun _ h9 => h9) rfl (1 : Int32) rfl (by decide +kernel) rfl rfl (Nat.le_of_ble_eq_true rfl) dX10_plan_18 (fun st_138 H locs est_138 hM hS => ?_)
      have hB_st_138 : gBN bM kM [0, 55, 56, 57, 58, 2900, 3000, 3100, 3200, 3300, 3400, 3500, 3600, 3700, 3800] st st_138 := by rw [est_138]; exact hB_st.up (show (0 : Nat) ∈ _ from by decide) (gi_lo _) (gi_hi _)
      refine lv_aload_n hx hb dX10_plan_21 rfl (lv_at hl 0 rfl) ?_
      refine gs_get (C := RX10) (T := TX10) (N := 59) hx hb hts inX10 hown hK hM 0 0 0 (by decide) rfl rfl (by decide) (hts _ gm_897) (fun _ h9 => h9) rfl dX10_plan_22 ?_
      refine lv_topi (fun x_139 ex_139 => ?_)
      have ex_139 : (1 : Int32) = x_139 := Eq.symm (ex_139.trans ((congrFun (congrFun (congrFun est_138 0) 0) 0).trans (gU_same _ _ _ _ _)))
      subst ex_139
      refine lv_iconst (v := 1) hx hb dX10_plan_25 (by decide) ?_
      refine lv_icmp_ne (tgt := 31) hx hb dX10_plan_26 (by decide) (fun h9 => absurd (by decide) h9) (fun _ => ?_)
      refine lv_iconst (v := 0) hx hb dX10_plan_29 (by decide) ?_
      rw [← hQe]
      exact gs_iret hx hb hr hlocks hM hS rfl ⟨hB_st_138, (Or.inl ⟨by omega, by decide, (by rw [show st_138 0 0 0 = (1 : Int32) from ((congrFun (congrFun (congrFun est_138 0) 0) 0).trans (gU_same _ _ _ _ _))]; decide), (frM.up est_138)⟩)⟩ (by exact Nat.le_refl _) (by exact Nat.le_refl _) dX10_plan_30
