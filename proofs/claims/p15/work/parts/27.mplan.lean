theorem gm_950 : (Jvm.Cond.fieldLink "WellCourtModel" (112 : Nat) "WellCourtModel" "next" "[I") ∈ gz_T := gz_at 950 (by decide +kernel) rfl
theorem gm_951 : (Jvm.Cond.fieldLink "WellCourtModel" (115 : Nat) "WellCourtModel" "chosen" "[I") ∈ gz_T := gz_at 951 (by decide +kernel) rfl
theorem gm_1276 : (Jvm.Cond.constant "WellCourtModel" (298 : Nat) (50000 : Int32)) ∈ gz_T := gz_at 1276 (by decide +kernel) rfl
theorem gm_1277 : (Jvm.Cond.methodLink "WellCourtModel" (305 : Nat) ({ cls := "WellCourtModel", name := "dawn", desc := "(II)V" } : Jvm.MethodName)) ∈ gz_T := gz_at 1277 (by decide +kernel) rfl
theorem gm_1279 : (Jvm.Cond.instanceMethod ({ cls := "WellCourtModel", name := "dawn", desc := "(II)V" } : Jvm.MethodName)) ∈ gz_T := gz_at 1279 (by decide +kernel) rfl
theorem gm_1280 : (Jvm.Cond.code ({ cls := "WellCourtModel", name := "dawn", desc := "(II)V" } : Jvm.MethodName) prog_12_method_49_code (6 : Nat) (Option.none : Option Jvm.ClassFile.FieldType)) ∈ gz_T := gz_at 1280 (by decide +kernel) rfl
theorem gm_1281 : (Jvm.Cond.methodLink "WellCourtModel" (312 : Nat) ({ cls := "WellCourtModel", name := "mayDo", desc := "(III)Z" } : Jvm.MethodName)) ∈ gz_T := gz_at 1281 (by decide +kernel) rfl
theorem gm_1283 : (Jvm.Cond.instanceMethod ({ cls := "WellCourtModel", name := "mayDo", desc := "(III)Z" } : Jvm.MethodName)) ∈ gz_T := gz_at 1283 (by decide +kernel) rfl
theorem gm_1284 : (Jvm.Cond.code ({ cls := "WellCourtModel", name := "mayDo", desc := "(III)Z" } : Jvm.MethodName) prog_12_method_50_code (5 : Nat) (Option.some Jvm.ClassFile.FieldType.boolean)) ∈ gz_T := gz_at 1284 (by decide +kernel) rfl
theorem gm_1285 : (Jvm.Cond.methodLink "WellCourtModel" (315 : Nat) ({ cls := "WellCourtModel", name := "goes", desc := "(IIII)V" } : Jvm.MethodName)) ∈ gz_T := gz_at 1285 (by decide +kernel) rfl
theorem gm_1287 : (Jvm.Cond.instanceMethod ({ cls := "WellCourtModel", name := "goes", desc := "(IIII)V" } : Jvm.MethodName)) ∈ gz_T := gz_at 1287 (by decide +kernel) rfl
theorem gm_1288 : (Jvm.Cond.code ({ cls := "WellCourtModel", name := "goes", desc := "(IIII)V" } : Jvm.MethodName) prog_12_method_51_code (7 : Nat) (Option.none : Option Jvm.ClassFile.FieldType)) ∈ gz_T := gz_at 1288 (by decide +kernel) rfl
theorem gm_1289 : (Jvm.Cond.methodLink "WellCourtModel" (319 : Nat) ({ cls := "WellCourtModel", name := "isGood", desc := "(II)Z" } : Jvm.MethodName)) ∈ gz_T := gz_at 1289 (by decide +kernel) rfl
theorem gm_1291 : (Jvm.Cond.instanceMethod ({ cls := "WellCourtModel", name := "isGood", desc := "(II)Z" } : Jvm.MethodName)) ∈ gz_T := gz_at 1291 (by decide +kernel) rfl
theorem gm_1292 : (Jvm.Cond.code ({ cls := "WellCourtModel", name := "isGood", desc := "(II)Z" } : Jvm.MethodName) prog_12_method_52_code (4 : Nat) (Option.some Jvm.ClassFile.FieldType.boolean)) ∈ gz_T := gz_at 1292 (by decide +kernel) rfl
theorem gs_56 : (Jvm.Cond.selects "WellCourtModel" ({ cls := "WellCourtModel", name := "dawn", desc := "(II)V" } : Jvm.MethodName) ({ cls := "WellCourtModel", name := "dawn", desc := "(II)V" } : Jvm.MethodName)) ∈ gz_T := gz_sel 56 (by decide +kernel) rfl
theorem gs_57 : (Jvm.Cond.selects "WellCourtModel" ({ cls := "WellCourtModel", name := "mayDo", desc := "(III)Z" } : Jvm.MethodName) ({ cls := "WellCourtModel", name := "mayDo", desc := "(III)Z" } : Jvm.MethodName)) ∈ gz_T := gz_sel 57 (by decide +kernel) rfl
theorem gs_58 : (Jvm.Cond.selects "WellCourtModel" ({ cls := "WellCourtModel", name := "goes", desc := "(IIII)V" } : Jvm.MethodName) ({ cls := "WellCourtModel", name := "goes", desc := "(IIII)V" } : Jvm.MethodName)) ∈ gz_T := gz_sel 58 (by decide +kernel) rfl
theorem gs_59 : (Jvm.Cond.selects "WellCourtModel" ({ cls := "WellCourtModel", name := "isGood", desc := "(II)Z" } : Jvm.MethodName) ({ cls := "WellCourtModel", name := "isGood", desc := "(II)Z" } : Jvm.MethodName)) ∈ gz_T := gz_sel 59 (by decide +kernel) rfl
theorem dX10_plan_0 : decode cX10_plan 0 = .ok (.aload_n 0, 1) := by decide +kernel
theorem dX10_plan_1 : decode cX10_plan 1 = .ok (.iload_n 2, 1) := by decide +kernel
theorem dX10_plan_2 : decode cX10_plan 2 = .ok (.iconst 1, 1) := by decide +kernel
theorem dX10_plan_3 : decode cX10_plan 3 = .ok (.if_icmp .lt 10, 3) := by decide +kernel
theorem dX10_plan_6 : decode cX10_plan 6 = .ok (.iload_n 2, 1) := by decide +kernel
theorem dX10_plan_7 : decode cX10_plan 7 = .ok (.ldc_w 298, 3) := by decide +kernel
theorem dX10_plan_10 : decode cX10_plan 10 = .ok (.if_icmp .le 7, 3) := by decide +kernel
theorem dX10_plan_13 : decode cX10_plan 13 = .ok (.iconst 1, 1) := by decide +kernel
theorem dX10_plan_14 : decode cX10_plan 14 = .ok (.goto 4, 3) := by decide +kernel
theorem dX10_plan_17 : decode cX10_plan 17 = .ok (.iconst 0, 1) := by decide +kernel
theorem dX10_plan_18 : decode cX10_plan 18 = .ok (.putfield 1, 3) := by decide +kernel
theorem dX10_plan_21 : decode cX10_plan 21 = .ok (.aload_n 0, 1) := by decide +kernel
theorem dX10_plan_22 : decode cX10_plan 22 = .ok (.getfield 1, 3) := by decide +kernel
theorem dX10_plan_25 : decode cX10_plan 25 = .ok (.iconst 1, 1) := by decide +kernel
theorem dX10_plan_26 : decode cX10_plan 26 = .ok (.if_icmp .ne 5, 3) := by decide +kernel
theorem dX10_plan_29 : decode cX10_plan 29 = .ok (.iconst 0, 1) := by decide +kernel
theorem dX10_plan_30 : decode cX10_plan 30 = .ok (.ireturn, 1) := by decide +kernel
theorem dX10_plan_31 : decode cX10_plan 31 = .ok (.aload_n 0, 1) := by decide +kernel
theorem dX10_plan_32 : decode cX10_plan 32 = .ok (.getfield 79, 3) := by decide +kernel
theorem dX10_plan_35 : decode cX10_plan 35 = .ok (.iconst 0, 1) := by decide +kernel
theorem dX10_plan_36 : decode cX10_plan 36 = .ok (.baload, 1) := by decide +kernel
theorem dX10_plan_37 : decode cX10_plan 37 = .ok (.ifCond .ne 30, 3) := by decide +kernel
theorem dX10_plan_40 : decode cX10_plan 40 = .ok (.aload_n 0, 1) := by decide +kernel
theorem dX10_plan_41 : decode cX10_plan 41 = .ok (.getfield 79, 3) := by decide +kernel
theorem dX10_plan_44 : decode cX10_plan 44 = .ok (.iconst 1, 1) := by decide +kernel
theorem dX10_plan_45 : decode cX10_plan 45 = .ok (.baload, 1) := by decide +kernel
theorem dX10_plan_46 : decode cX10_plan 46 = .ok (.ifCond .ne 21, 3) := by decide +kernel
theorem dX10_plan_49 : decode cX10_plan 49 = .ok (.aload_n 0, 1) := by decide +kernel
theorem dX10_plan_50 : decode cX10_plan 50 = .ok (.getfield 79, 3) := by decide +kernel
theorem dX10_plan_53 : decode cX10_plan 53 = .ok (.iconst 2, 1) := by decide +kernel
theorem dX10_plan_54 : decode cX10_plan 54 = .ok (.baload, 1) := by decide +kernel
theorem dX10_plan_55 : decode cX10_plan 55 = .ok (.ifCond .ne 12, 3) := by decide +kernel
theorem dX10_plan_58 : decode cX10_plan 58 = .ok (.aload_n 0, 1) := by decide +kernel
theorem dX10_plan_59 : decode cX10_plan 59 = .ok (.getfield 79, 3) := by decide +kernel
theorem dX10_plan_62 : decode cX10_plan 62 = .ok (.iconst 3, 1) := by decide +kernel
theorem dX10_plan_63 : decode cX10_plan 63 = .ok (.baload, 1) := by decide +kernel
theorem dX10_plan_64 : decode cX10_plan 64 = .ok (.ifCond .eq 26, 3) := by decide +kernel
theorem dX10_plan_67 : decode cX10_plan 67 = .ok (.iload_n 1, 1) := by decide +kernel
theorem dX10_plan_68 : decode cX10_plan 68 = .ok (.iconst 1, 1) := by decide +kernel
theorem dX10_plan_69 : decode cX10_plan 69 = .ok (.if_icmp .lt 21, 3) := by decide +kernel
theorem dX10_plan_72 : decode cX10_plan 72 = .ok (.iload_n 1, 1) := by decide +kernel
theorem dX10_plan_73 : decode cX10_plan 73 = .ok (.bipush 14, 2) := by decide +kernel
theorem dX10_plan_75 : decode cX10_plan 75 = .ok (.if_icmp .gt 15, 3) := by decide +kernel
theorem dX10_plan_78 : decode cX10_plan 78 = .ok (.aload_n 0, 1) := by decide +kernel
theorem dX10_plan_79 : decode cX10_plan 79 = .ok (.getfield 213, 3) := by decide +kernel
theorem dX10_plan_82 : decode cX10_plan 82 = .ok (.iload_n 1, 1) := by decide +kernel
theorem dX10_plan_83 : decode cX10_plan 83 = .ok (.iadd, 1) := by decide +kernel
theorem dX10_plan_84 : decode cX10_plan 84 = .ok (.sipush 199, 3) := by decide +kernel
theorem dX10_plan_87 : decode cX10_plan 87 = .ok (.if_icmp .le 5, 3) := by decide +kernel
theorem dX10_plan_90 : decode cX10_plan 90 = .ok (.iconst (-1), 1) := by decide +kernel
theorem dX10_plan_91 : decode cX10_plan 91 = .ok (.ireturn, 1) := by decide +kernel
theorem dX10_plan_92 : decode cX10_plan 92 = .ok (.aload_n 0, 1) := by decide +kernel
theorem dX10_plan_93 : decode cX10_plan 93 = .ok (.iconst 0, 1) := by decide +kernel
theorem dX10_plan_94 : decode cX10_plan 94 = .ok (.putfield 299, 3) := by decide +kernel
theorem dX10_plan_97 : decode cX10_plan 97 = .ok (.aload_n 0, 1) := by decide +kernel
theorem dX10_plan_98 : decode cX10_plan 98 = .ok (.iconst 0, 1) := by decide +kernel
theorem dX10_plan_99 : decode cX10_plan 99 = .ok (.putfield 302, 3) := by decide +kernel
theorem dX10_plan_102 : decode cX10_plan 102 = .ok (.iconst 0, 1) := by decide +kernel
theorem dX10_plan_103 : decode cX10_plan 103 = .ok (.istore_n 3, 1) := by decide +kernel
theorem dX10_plan_104 : decode cX10_plan 104 = .ok (.iload_n 3, 1) := by decide +kernel
theorem dX10_plan_105 : decode cX10_plan 105 = .ok (.bipush 6, 2) := by decide +kernel
theorem dX10_plan_107 : decode cX10_plan 107 = .ok (.if_icmp .ge 21, 3) := by decide +kernel
theorem dX10_plan_110 : decode cX10_plan 110 = .ok (.aload_n 0, 1) := by decide +kernel
theorem dX10_plan_111 : decode cX10_plan 111 = .ok (.getfield 100, 3) := by decide +kernel
theorem dX10_plan_114 : decode cX10_plan 114 = .ok (.iload_n 3, 1) := by decide +kernel
theorem dX10_plan_115 : decode cX10_plan 115 = .ok (.aload_n 0, 1) := by decide +kernel
theorem dX10_plan_116 : decode cX10_plan 116 = .ok (.getfield 24, 3) := by decide +kernel
theorem dX10_plan_119 : decode cX10_plan 119 = .ok (.iload_n 3, 1) := by decide +kernel
theorem dX10_plan_120 : decode cX10_plan 120 = .ok (.iaload, 1) := by decide +kernel
theorem dX10_plan_121 : decode cX10_plan 121 = .ok (.iastore, 1) := by decide +kernel
theorem dX10_plan_122 : decode cX10_plan 122 = .ok (.iinc 3 1, 3) := by decide +kernel
theorem dX10_plan_125 : decode cX10_plan 125 = .ok (.goto (-21), 3) := by decide +kernel
theorem dX10_plan_128 : decode cX10_plan 128 = .ok (.iconst 0, 1) := by decide +kernel
theorem dX10_plan_129 : decode cX10_plan 129 = .ok (.istore_n 3, 1) := by decide +kernel
theorem dX10_plan_130 : decode cX10_plan 130 = .ok (.iload_n 3, 1) := by decide +kernel
theorem dX10_plan_131 : decode cX10_plan 131 = .ok (.iconst 4, 1) := by decide +kernel
theorem dX10_plan_132 : decode cX10_plan 132 = .ok (.if_icmp .ge 43, 3) := by decide +kernel
theorem dX10_plan_135 : decode cX10_plan 135 = .ok (.aload_n 0, 1) := by decide +kernel
theorem dX10_plan_136 : decode cX10_plan 136 = .ok (.getfield 103, 3) := by decide +kernel
theorem dX10_plan_139 : decode cX10_plan 139 = .ok (.iload_n 3, 1) := by decide +kernel
theorem dX10_plan_140 : decode cX10_plan 140 = .ok (.aload_n 0, 1) := by decide +kernel
theorem dX10_plan_141 : decode cX10_plan 141 = .ok (.getfield 91, 3) := by decide +kernel
theorem dX10_plan_144 : decode cX10_plan 144 = .ok (.iload_n 3, 1) := by decide +kernel
theorem dX10_plan_145 : decode cX10_plan 145 = .ok (.iaload, 1) := by decide +kernel
theorem dX10_plan_146 : decode cX10_plan 146 = .ok (.iastore, 1) := by decide +kernel
theorem dX10_plan_147 : decode cX10_plan 147 = .ok (.aload_n 0, 1) := by decide +kernel
theorem dX10_plan_148 : decode cX10_plan 148 = .ok (.getfield 106, 3) := by decide +kernel
theorem dX10_plan_151 : decode cX10_plan 151 = .ok (.iload_n 3, 1) := by decide +kernel
theorem dX10_plan_152 : decode cX10_plan 152 = .ok (.aload_n 0, 1) := by decide +kernel
theorem dX10_plan_153 : decode cX10_plan 153 = .ok (.getfield 213, 3) := by decide +kernel
theorem dX10_plan_156 : decode cX10_plan 156 = .ok (.iastore, 1) := by decide +kernel
theorem dX10_plan_157 : decode cX10_plan 157 = .ok (.aload_n 0, 1) := by decide +kernel
theorem dX10_plan_158 : decode cX10_plan 158 = .ok (.getfield 109, 3) := by decide +kernel
theorem dX10_plan_161 : decode cX10_plan 161 = .ok (.iload_n 3, 1) := by decide +kernel
theorem dX10_plan_162 : decode cX10_plan 162 = .ok (.aload_n 0, 1) := by decide +kernel
theorem dX10_plan_163 : decode cX10_plan 163 = .ok (.getfield 94, 3) := by decide +kernel
theorem dX10_plan_166 : decode cX10_plan 166 = .ok (.iload_n 3, 1) := by decide +kernel
theorem dX10_plan_167 : decode cX10_plan 167 = .ok (.iaload, 1) := by decide +kernel
theorem dX10_plan_168 : decode cX10_plan 168 = .ok (.iastore, 1) := by decide +kernel
theorem dX10_plan_169 : decode cX10_plan 169 = .ok (.iinc 3 1, 3) := by decide +kernel
theorem dX10_plan_172 : decode cX10_plan 172 = .ok (.goto (-42), 3) := by decide +kernel
theorem dX10_plan_175 : decode cX10_plan 175 = .ok (.iconst 0, 1) := by decide +kernel
theorem dX10_plan_176 : decode cX10_plan 176 = .ok (.istore_n 3, 1) := by decide +kernel
theorem dX10_plan_177 : decode cX10_plan 177 = .ok (.aload_n 0, 1) := by decide +kernel
theorem dX10_plan_178 : decode cX10_plan 178 = .ok (.getfield 112, 3) := by decide +kernel
theorem dX10_plan_181 : decode cX10_plan 181 = .ok (.iconst 0, 1) := by decide +kernel
theorem dX10_plan_182 : decode cX10_plan 182 = .ok (.iconst 0, 1) := by decide +kernel
theorem dX10_plan_183 : decode cX10_plan 183 = .ok (.iastore, 1) := by decide +kernel
theorem dX10_plan_184 : decode cX10_plan 184 = .ok (.aload_n 0, 1) := by decide +kernel
theorem dX10_plan_185 : decode cX10_plan 185 = .ok (.iconst 0, 1) := by decide +kernel
theorem dX10_plan_186 : decode cX10_plan 186 = .ok (.aload_n 0, 1) := by decide +kernel
theorem dX10_plan_187 : decode cX10_plan 187 = .ok (.getfield 213, 3) := by decide +kernel
theorem dX10_plan_190 : decode cX10_plan 190 = .ok (.iconst 1, 1) := by decide +kernel
theorem dX10_plan_191 : decode cX10_plan 191 = .ok (.iadd, 1) := by decide +kernel
theorem dX10_plan_192 : decode cX10_plan 192 = .ok (.invokevirtual 305, 3) := by decide +kernel
theorem dX10_plan_195 : decode cX10_plan 195 = .ok (.iload_n 3, 1) := by decide +kernel
theorem dX10_plan_196 : decode cX10_plan 196 = .ok (.ifCond .lt 346, 3) := by decide +kernel
theorem dX10_plan_199 : decode cX10_plan 199 = .ok (.iload_n 3, 1) := by decide +kernel
theorem dX10_plan_200 : decode cX10_plan 200 = .ok (.iconst 4, 1) := by decide +kernel
theorem dX10_plan_201 : decode cX10_plan 201 = .ok (.iload_n 1, 1) := by decide +kernel
theorem dX10_plan_202 : decode cX10_plan 202 = .ok (.imul, 1) := by decide +kernel
theorem dX10_plan_203 : decode cX10_plan 203 = .ok (.if_icmp .ne 78, 3) := by decide +kernel
theorem dX10_plan_206 : decode cX10_plan 206 = .ok (.iconst 0, 1) := by decide +kernel
theorem dX10_plan_207 : decode cX10_plan 207 = .ok (.istore 4, 2) := by decide +kernel
theorem dX10_plan_209 : decode cX10_plan 209 = .ok (.iload 4, 2) := by decide +kernel
theorem dX10_plan_211 : decode cX10_plan 211 = .ok (.iload_n 3, 1) := by decide +kernel
theorem dX10_plan_212 : decode cX10_plan 212 = .ok (.if_icmp .ge 23, 3) := by decide +kernel
theorem dX10_plan_215 : decode cX10_plan 215 = .ok (.aload_n 0, 1) := by decide +kernel
theorem dX10_plan_216 : decode cX10_plan 216 = .ok (.getfield 124, 3) := by decide +kernel
theorem dX10_plan_219 : decode cX10_plan 219 = .ok (.iload 4, 2) := by decide +kernel
theorem dX10_plan_221 : decode cX10_plan 221 = .ok (.aload_n 0, 1) := by decide +kernel
theorem dX10_plan_222 : decode cX10_plan 222 = .ok (.getfield 115, 3) := by decide +kernel
theorem dX10_plan_225 : decode cX10_plan 225 = .ok (.iload 4, 2) := by decide +kernel
theorem dX10_plan_227 : decode cX10_plan 227 = .ok (.iaload, 1) := by decide +kernel
theorem dX10_plan_228 : decode cX10_plan 228 = .ok (.iastore, 1) := by decide +kernel
theorem dX10_plan_229 : decode cX10_plan 229 = .ok (.iinc 4 1, 3) := by decide +kernel
theorem dX10_plan_232 : decode cX10_plan 232 = .ok (.goto (-23), 3) := by decide +kernel
theorem dX10_plan_235 : decode cX10_plan 235 = .ok (.iconst 0, 1) := by decide +kernel
theorem dX10_plan_236 : decode cX10_plan 236 = .ok (.istore 4, 2) := by decide +kernel
theorem dX10_plan_238 : decode cX10_plan 238 = .ok (.iload 4, 2) := by decide +kernel
theorem dX10_plan_240 : decode cX10_plan 240 = .ok (.iconst 4, 1) := by decide +kernel
theorem dX10_plan_241 : decode cX10_plan 241 = .ok (.if_icmp .ge 23, 3) := by decide +kernel
theorem dX10_plan_244 : decode cX10_plan 244 = .ok (.aload_n 0, 1) := by decide +kernel
theorem dX10_plan_245 : decode cX10_plan 245 = .ok (.getfield 127, 3) := by decide +kernel
theorem dX10_plan_248 : decode cX10_plan 248 = .ok (.iload 4, 2) := by decide +kernel
theorem dX10_plan_250 : decode cX10_plan 250 = .ok (.aload_n 0, 1) := by decide +kernel
theorem dX10_plan_251 : decode cX10_plan 251 = .ok (.getfield 79, 3) := by decide +kernel
theorem dX10_plan_254 : decode cX10_plan 254 = .ok (.iload 4, 2) := by decide +kernel
theorem dX10_plan_256 : decode cX10_plan 256 = .ok (.baload, 1) := by decide +kernel
theorem dX10_plan_257 : decode cX10_plan 257 = .ok (.bastore, 1) := by decide +kernel
theorem dX10_plan_258 : decode cX10_plan 258 = .ok (.iinc 4 1, 3) := by decide +kernel
theorem dX10_plan_261 : decode cX10_plan 261 = .ok (.goto (-23), 3) := by decide +kernel
theorem dX10_plan_264 : decode cX10_plan 264 = .ok (.aload_n 0, 1) := by decide +kernel
theorem dX10_plan_265 : decode cX10_plan 265 = .ok (.aload_n 0, 1) := by decide +kernel
theorem dX10_plan_266 : decode cX10_plan 266 = .ok (.getfield 213, 3) := by decide +kernel
theorem dX10_plan_269 : decode cX10_plan 269 = .ok (.iconst 1, 1) := by decide +kernel
theorem dX10_plan_270 : decode cX10_plan 270 = .ok (.iadd, 1) := by decide +kernel
theorem dX10_plan_271 : decode cX10_plan 271 = .ok (.putfield 130, 3) := by decide +kernel
theorem dX10_plan_274 : decode cX10_plan 274 = .ok (.aload_n 0, 1) := by decide +kernel
theorem dX10_plan_275 : decode cX10_plan 275 = .ok (.iload_n 1, 1) := by decide +kernel
theorem dX10_plan_276 : decode cX10_plan 276 = .ok (.putfield 309, 3) := by decide +kernel
theorem dX10_plan_279 : decode cX10_plan 279 = .ok (.iconst 0, 1) := by decide +kernel
theorem dX10_plan_280 : decode cX10_plan 280 = .ok (.ireturn, 1) := by decide +kernel
theorem dX10_plan_281 : decode cX10_plan 281 = .ok (.iload_n 3, 1) := by decide +kernel
theorem dX10_plan_282 : decode cX10_plan 282 = .ok (.iconst 4, 1) := by decide +kernel
theorem dX10_plan_283 : decode cX10_plan 283 = .ok (.irem, 1) := by decide +kernel
theorem dX10_plan_284 : decode cX10_plan 284 = .ok (.istore 4, 2) := by decide +kernel
theorem dX10_plan_286 : decode cX10_plan 286 = .ok (.aload_n 0, 1) := by decide +kernel
theorem dX10_plan_287 : decode cX10_plan 287 = .ok (.getfield 213, 3) := by decide +kernel
theorem dX10_plan_290 : decode cX10_plan 290 = .ok (.iconst 1, 1) := by decide +kernel
theorem dX10_plan_291 : decode cX10_plan 291 = .ok (.iadd, 1) := by decide +kernel
theorem dX10_plan_292 : decode cX10_plan 292 = .ok (.iload_n 3, 1) := by decide +kernel
theorem dX10_plan_293 : decode cX10_plan 293 = .ok (.iconst 4, 1) := by decide +kernel
theorem dX10_plan_294 : decode cX10_plan 294 = .ok (.idiv, 1) := by decide +kernel
theorem dX10_plan_295 : decode cX10_plan 295 = .ok (.iadd, 1) := by decide +kernel
theorem dX10_plan_296 : decode cX10_plan 296 = .ok (.istore 5, 2) := by decide +kernel
theorem dX10_plan_298 : decode cX10_plan 298 = .ok (.aload_n 0, 1) := by decide +kernel
theorem dX10_plan_299 : decode cX10_plan 299 = .ok (.getfield 79, 3) := by decide +kernel
theorem dX10_plan_302 : decode cX10_plan 302 = .ok (.iload 4, 2) := by decide +kernel
theorem dX10_plan_304 : decode cX10_plan 304 = .ok (.baload, 1) := by decide +kernel
theorem dX10_plan_305 : decode cX10_plan 305 = .ok (.ifCond .eq 23, 3) := by decide +kernel
theorem dX10_plan_308 : decode cX10_plan 308 = .ok (.aload_n 0, 1) := by decide +kernel
theorem dX10_plan_309 : decode cX10_plan 309 = .ok (.getfield 106, 3) := by decide +kernel
theorem dX10_plan_312 : decode cX10_plan 312 = .ok (.iconst 4, 1) := by decide +kernel
theorem dX10_plan_313 : decode cX10_plan 313 = .ok (.iload_n 3, 1) := by decide +kernel
theorem dX10_plan_314 : decode cX10_plan 314 = .ok (.imul, 1) := by decide +kernel
theorem dX10_plan_315 : decode cX10_plan 315 = .ok (.iload 4, 2) := by decide +kernel
theorem dX10_plan_317 : decode cX10_plan 317 = .ok (.iadd, 1) := by decide +kernel
theorem dX10_plan_318 : decode cX10_plan 318 = .ok (.iaload, 1) := by decide +kernel
theorem dX10_plan_319 : decode cX10_plan 319 = .ok (.iload 5, 2) := by decide +kernel
theorem dX10_plan_321 : decode cX10_plan 321 = .ok (.if_icmp .gt 7, 3) := by decide +kernel
theorem dX10_plan_324 : decode cX10_plan 324 = .ok (.iconst 1, 1) := by decide +kernel
theorem dX10_plan_325 : decode cX10_plan 325 = .ok (.goto 4, 3) := by decide +kernel
theorem dX10_plan_328 : decode cX10_plan 328 = .ok (.iconst 0, 1) := by decide +kernel
theorem dX10_plan_329 : decode cX10_plan 329 = .ok (.istore 6, 2) := by decide +kernel
theorem dX10_plan_331 : decode cX10_plan 331 = .ok (.aload_n 0, 1) := by decide +kernel
theorem dX10_plan_332 : decode cX10_plan 332 = .ok (.getfield 112, 3) := by decide +kernel
theorem dX10_plan_335 : decode cX10_plan 335 = .ok (.iload_n 3, 1) := by decide +kernel
theorem dX10_plan_336 : decode cX10_plan 336 = .ok (.iaload, 1) := by decide +kernel
theorem dX10_plan_337 : decode cX10_plan 337 = .ok (.istore 7, 2) := by decide +kernel
theorem dX10_plan_339 : decode cX10_plan 339 = .ok (.iload 6, 2) := by decide +kernel
theorem dX10_plan_341 : decode cX10_plan 341 = .ok (.ifCond .eq 28, 3) := by decide +kernel
theorem dX10_plan_344 : decode cX10_plan 344 = .ok (.iload 7, 2) := by decide +kernel
theorem dX10_plan_346 : decode cX10_plan 346 = .ok (.bipush 8, 2) := by decide +kernel
theorem dX10_plan_348 : decode cX10_plan 348 = .ok (.if_icmp .ge 21, 3) := by decide +kernel
theorem dX10_plan_351 : decode cX10_plan 351 = .ok (.aload_n 0, 1) := by decide +kernel
theorem dX10_plan_352 : decode cX10_plan 352 = .ok (.iload_n 3, 1) := by decide +kernel
theorem dX10_plan_353 : decode cX10_plan 353 = .ok (.iload 4, 2) := by decide +kernel
theorem dX10_plan_355 : decode cX10_plan 355 = .ok (.iload 7, 2) := by decide +kernel
theorem dX10_plan_357 : decode cX10_plan 357 = .ok (.invokevirtual 312, 3) := by decide +kernel
theorem dX10_plan_360 : decode cX10_plan 360 = .ok (.ifCond .ne 9, 3) := by decide +kernel
theorem dX10_plan_363 : decode cX10_plan 363 = .ok (.iinc 7 1, 3) := by decide +kernel
theorem dX10_plan_366 : decode cX10_plan 366 = .ok (.goto (-22), 3) := by decide +kernel
theorem dX10_plan_369 : decode cX10_plan 369 = .ok (.iload 7, 2) := by decide +kernel
theorem dX10_plan_371 : decode cX10_plan 371 = .ok (.iload 6, 2) := by decide +kernel
theorem dX10_plan_373 : decode cX10_plan 373 = .ok (.ifCond .eq 8, 3) := by decide +kernel
theorem dX10_plan_376 : decode cX10_plan 376 = .ok (.bipush 8, 2) := by decide +kernel
theorem dX10_plan_378 : decode cX10_plan 378 = .ok (.goto 4, 3) := by decide +kernel
theorem dX10_plan_381 : decode cX10_plan 381 = .ok (.iconst 1, 1) := by decide +kernel
theorem dX10_plan_382 : decode cX10_plan 382 = .ok (.if_icmp .lt 9, 3) := by decide +kernel
theorem dX10_plan_385 : decode cX10_plan 385 = .ok (.iinc 3 (-1), 3) := by decide +kernel
theorem dX10_plan_388 : decode cX10_plan 388 = .ok (.goto (-193), 3) := by decide +kernel
theorem dX10_plan_391 : decode cX10_plan 391 = .ok (.aload_n 0, 1) := by decide +kernel
theorem dX10_plan_392 : decode cX10_plan 392 = .ok (.getfield 112, 3) := by decide +kernel
theorem dX10_plan_395 : decode cX10_plan 395 = .ok (.iload_n 3, 1) := by decide +kernel
theorem dX10_plan_396 : decode cX10_plan 396 = .ok (.iload 7, 2) := by decide +kernel
theorem dX10_plan_398 : decode cX10_plan 398 = .ok (.iconst 1, 1) := by decide +kernel
theorem dX10_plan_399 : decode cX10_plan 399 = .ok (.iadd, 1) := by decide +kernel
theorem dX10_plan_400 : decode cX10_plan 400 = .ok (.iastore, 1) := by decide +kernel
theorem dX10_plan_401 : decode cX10_plan 401 = .ok (.iload 6, 2) := by decide +kernel
theorem dX10_plan_403 : decode cX10_plan 403 = .ok (.ifCond .eq 23, 3) := by decide +kernel
theorem dX10_plan_406 : decode cX10_plan 406 = .ok (.aload_n 0, 1) := by decide +kernel
theorem dX10_plan_407 : decode cX10_plan 407 = .ok (.getfield 299, 3) := by decide +kernel
theorem dX10_plan_410 : decode cX10_plan 410 = .ok (.iload_n 2, 1) := by decide +kernel
theorem dX10_plan_411 : decode cX10_plan 411 = .ok (.if_icmp .ne 5, 3) := by decide +kernel
theorem dX10_plan_414 : decode cX10_plan 414 = .ok (.iconst 2, 1) := by decide +kernel
theorem dX10_plan_415 : decode cX10_plan 415 = .ok (.ireturn, 1) := by decide +kernel
theorem dX10_plan_416 : decode cX10_plan 416 = .ok (.aload_n 0, 1) := by decide +kernel
theorem dX10_plan_417 : decode cX10_plan 417 = .ok (.dup, 1) := by decide +kernel
theorem dX10_plan_418 : decode cX10_plan 418 = .ok (.getfield 299, 3) := by decide +kernel
theorem dX10_plan_421 : decode cX10_plan 421 = .ok (.iconst 1, 1) := by decide +kernel
theorem dX10_plan_422 : decode cX10_plan 422 = .ok (.iadd, 1) := by decide +kernel
theorem dX10_plan_423 : decode cX10_plan 423 = .ok (.putfield 299, 3) := by decide +kernel
theorem dX10_plan_426 : decode cX10_plan 426 = .ok (.aload_n 0, 1) := by decide +kernel
theorem dX10_plan_427 : decode cX10_plan 427 = .ok (.getfield 115, 3) := by decide +kernel
theorem dX10_plan_430 : decode cX10_plan 430 = .ok (.iload_n 3, 1) := by decide +kernel
theorem dX10_plan_431 : decode cX10_plan 431 = .ok (.iload 6, 2) := by decide +kernel
theorem dX10_plan_433 : decode cX10_plan 433 = .ok (.ifCond .eq 8, 3) := by decide +kernel
theorem dX10_plan_436 : decode cX10_plan 436 = .ok (.iload 7, 2) := by decide +kernel
theorem dX10_plan_438 : decode cX10_plan 438 = .ok (.goto 5, 3) := by decide +kernel
theorem dX10_plan_441 : decode cX10_plan 441 = .ok (.bipush 9, 2) := by decide +kernel
theorem dX10_plan_443 : decode cX10_plan 443 = .ok (.iastore, 1) := by decide +kernel
theorem dX10_plan_444 : decode cX10_plan 444 = .ok (.aload_n 0, 1) := by decide +kernel
theorem dX10_plan_445 : decode cX10_plan 445 = .ok (.iload_n 3, 1) := by decide +kernel
theorem dX10_plan_446 : decode cX10_plan 446 = .ok (.iload 4, 2) := by decide +kernel
theorem dX10_plan_448 : decode cX10_plan 448 = .ok (.aload_n 0, 1) := by decide +kernel
theorem dX10_plan_449 : decode cX10_plan 449 = .ok (.getfield 115, 3) := by decide +kernel
theorem dX10_plan_452 : decode cX10_plan 452 = .ok (.iload_n 3, 1) := by decide +kernel
theorem dX10_plan_453 : decode cX10_plan 453 = .ok (.iaload, 1) := by decide +kernel
theorem dX10_plan_454 : decode cX10_plan 454 = .ok (.iload 5, 2) := by decide +kernel
theorem dX10_plan_456 : decode cX10_plan 456 = .ok (.invokevirtual 315, 3) := by decide +kernel
theorem dX10_plan_459 : decode cX10_plan 459 = .ok (.iload 4, 2) := by decide +kernel
theorem dX10_plan_461 : decode cX10_plan 461 = .ok (.iconst 3, 1) := by decide +kernel
theorem dX10_plan_462 : decode cX10_plan 462 = .ok (.if_icmp .ne 18, 3) := by decide +kernel
theorem dX10_plan_465 : decode cX10_plan 465 = .ok (.aload_n 0, 1) := by decide +kernel
theorem dX10_plan_466 : decode cX10_plan 466 = .ok (.iload_n 3, 1) := by decide +kernel
theorem dX10_plan_467 : decode cX10_plan 467 = .ok (.iconst 1, 1) := by decide +kernel
theorem dX10_plan_468 : decode cX10_plan 468 = .ok (.iadd, 1) := by decide +kernel
theorem dX10_plan_469 : decode cX10_plan 469 = .ok (.iload 5, 2) := by decide +kernel
theorem dX10_plan_471 : decode cX10_plan 471 = .ok (.invokevirtual 319, 3) := by decide +kernel
theorem dX10_plan_474 : decode cX10_plan 474 = .ok (.ifCond .ne 6, 3) := by decide +kernel
theorem dX10_plan_477 : decode cX10_plan 477 = .ok (.goto (-282), 3) := by decide +kernel
theorem dX10_plan_480 : decode cX10_plan 480 = .ok (.iinc 3 1, 3) := by decide +kernel
theorem dX10_plan_483 : decode cX10_plan 483 = .ok (.aload_n 0, 1) := by decide +kernel
theorem dX10_plan_484 : decode cX10_plan 484 = .ok (.getfield 112, 3) := by decide +kernel
theorem dX10_plan_487 : decode cX10_plan 487 = .ok (.iload_n 3, 1) := by decide +kernel
theorem dX10_plan_488 : decode cX10_plan 488 = .ok (.iconst 0, 1) := by decide +kernel
theorem dX10_plan_489 : decode cX10_plan 489 = .ok (.iastore, 1) := by decide +kernel
theorem dX10_plan_490 : decode cX10_plan 490 = .ok (.iload 4, 2) := by decide +kernel
theorem dX10_plan_492 : decode cX10_plan 492 = .ok (.iconst 3, 1) := by decide +kernel
theorem dX10_plan_493 : decode cX10_plan 493 = .ok (.if_icmp .ge 6, 3) := by decide +kernel
theorem dX10_plan_496 : decode cX10_plan 496 = .ok (.goto (-301), 3) := by decide +kernel
theorem dX10_plan_499 : decode cX10_plan 499 = .ok (.aload_n 0, 1) := by decide +kernel
theorem dX10_plan_500 : decode cX10_plan 500 = .ok (.iload_n 3, 1) := by decide +kernel
theorem dX10_plan_501 : decode cX10_plan 501 = .ok (.iconst 4, 1) := by decide +kernel
theorem dX10_plan_502 : decode cX10_plan 502 = .ok (.idiv, 1) := by decide +kernel
theorem dX10_plan_503 : decode cX10_plan 503 = .ok (.aload_n 0, 1) := by decide +kernel
theorem dX10_plan_504 : decode cX10_plan 504 = .ok (.getfield 302, 3) := by decide +kernel
theorem dX10_plan_507 : decode cX10_plan 507 = .ok (.if_icmp .le 9, 3) := by decide +kernel
theorem dX10_plan_510 : decode cX10_plan 510 = .ok (.iload_n 3, 1) := by decide +kernel
theorem dX10_plan_511 : decode cX10_plan 511 = .ok (.iconst 4, 1) := by decide +kernel
theorem dX10_plan_512 : decode cX10_plan 512 = .ok (.idiv, 1) := by decide +kernel
theorem dX10_plan_513 : decode cX10_plan 513 = .ok (.goto 7, 3) := by decide +kernel
theorem dX10_plan_516 : decode cX10_plan 516 = .ok (.aload_n 0, 1) := by decide +kernel
theorem dX10_plan_517 : decode cX10_plan 517 = .ok (.getfield 302, 3) := by decide +kernel
theorem dX10_plan_520 : decode cX10_plan 520 = .ok (.putfield 302, 3) := by decide +kernel
theorem dX10_plan_523 : decode cX10_plan 523 = .ok (.iload_n 3, 1) := by decide +kernel
theorem dX10_plan_524 : decode cX10_plan 524 = .ok (.iconst 4, 1) := by decide +kernel
theorem dX10_plan_525 : decode cX10_plan 525 = .ok (.iload_n 1, 1) := by decide +kernel
theorem dX10_plan_526 : decode cX10_plan 526 = .ok (.imul, 1) := by decide +kernel
theorem dX10_plan_527 : decode cX10_plan 527 = .ok (.if_icmp .ge 12, 3) := by decide +kernel
theorem dX10_plan_530 : decode cX10_plan 530 = .ok (.aload_n 0, 1) := by decide +kernel
theorem dX10_plan_531 : decode cX10_plan 531 = .ok (.iload_n 3, 1) := by decide +kernel
theorem dX10_plan_532 : decode cX10_plan 532 = .ok (.iload 5, 2) := by decide +kernel
theorem dX10_plan_534 : decode cX10_plan 534 = .ok (.iconst 1, 1) := by decide +kernel
theorem dX10_plan_535 : decode cX10_plan 535 = .ok (.iadd, 1) := by decide +kernel
theorem dX10_plan_536 : decode cX10_plan 536 = .ok (.invokevirtual 305, 3) := by decide +kernel
theorem dX10_plan_539 : decode cX10_plan 539 = .ok (.goto (-344), 3) := by decide +kernel
theorem dX10_plan_542 : decode cX10_plan 542 = .ok (.iconst 1, 1) := by decide +kernel
theorem dX10_plan_543 : decode cX10_plan 543 = .ok (.ireturn, 1) := by decide +kernel
/-! the reference's search ends: a number that falls at every turn of its loop -/
def pMu (f : Nat → Int32) : Nat → Nat
  | 0 => 0
  | c + 1 => pMu f c + (9 - (f c).toInt).toNat * 10 ^ (57 - c)
theorem pMu_upd {f : Nat → Int32} {j : Nat} {v : Int32} : ∀ {c : Nat}, c ≤ j → pMu (upd f j v) c = pMu f c
  | 0, _ => rfl
  | c + 1, h => by
    show pMu (upd f j v) c + (9 - (upd f j v c).toInt).toNat * _ = pMu f c + _
    rw [pMu_upd (by omega), pk_un (by omega)]
theorem pMu_d {f : Nat → Int32} {y x : Int32} {n : Nat} (hx : x.toInt = y.toInt - 1) (h0 : 0 ≤ y.toInt) (h8 : (0 : Int) ≤ (f y.toNatClampNeg).toInt ∧ (f y.toNatClampNeg).toInt ≤ (8 : Int)) (hn : pMu f (y.toInt + 1).toNat < n + 1) : pMu f (x.toInt + 1).toNat < n := by
  have c1 := gs_cl h0
  have e1 : (y.toInt + 1).toNat = y.toNatClampNeg + 1 := by omega
  have e2 : (x.toInt + 1).toNat = y.toNatClampNeg := by omega
  rw [e1] at hn
  rw [e2]
  have h1 : pMu f (y.toNatClampNeg + 1) = pMu f y.toNatClampNeg + (9 - (f y.toNatClampNeg).toInt).toNat * 10 ^ (57 - y.toNatClampNeg) := rfl
  have h2 : 0 < (9 - (f y.toNatClampNeg).toInt).toNat * 10 ^ (57 - y.toNatClampNeg) := Nat.mul_pos (by omega) (Nat.pow_pos (by decide))
  omega
theorem pMu_s {f : Nat → Int32} {y v : Int32} {n : Nat} (h0 : 0 ≤ y.toInt) (h8 : (0 : Int) ≤ (f y.toNatClampNeg).toInt ∧ (f y.toNatClampNeg).toInt ≤ (8 : Int)) (hv : (f y.toNatClampNeg).toInt + 1 ≤ v.toInt) (hn : pMu f (y.toInt + 1).toNat < n + 1) : pMu (upd f y.toNatClampNeg v) (y.toInt + 1).toNat < n := by
  have c1 := gs_cl h0
  have e1 : (y.toInt + 1).toNat = y.toNatClampNeg + 1 := by omega
  rw [e1] at hn ⊢
  have h1 : pMu f (y.toNatClampNeg + 1) = pMu f y.toNatClampNeg + (9 - (f y.toNatClampNeg).toInt).toNat * 10 ^ (57 - y.toNatClampNeg) := rfl
  have h2 : pMu (upd f y.toNatClampNeg v) (y.toNatClampNeg + 1) = pMu (upd f y.toNatClampNeg v) y.toNatClampNeg + (9 - (upd f y.toNatClampNeg v y.toNatClampNeg).toInt).toNat * 10 ^ (57 - y.toNatClampNeg) := rfl
  rw [pMu_upd (Nat.le_refl _), pk_us] at h2
  have h3 : (9 - v.toInt).toNat * 10 ^ (57 - y.toNatClampNeg) < (9 - (f y.toNatClampNeg).toInt).toNat * 10 ^ (57 - y.toNatClampNeg) := Nat.mul_lt_mul_of_pos_right (by omega) (Nat.pow_pos (by decide))
  omega
theorem pMu_u {f : Nat → Int32} {y x v : Int32} {n : Nat} (h0 : 0 ≤ y.toInt) (hy : y.toInt ≤ 55) (hx : x.toInt = y.toInt + 1) (h8 : (0 : Int) ≤ (f y.toNatClampNeg).toInt ∧ (f y.toNatClampNeg).toInt ≤ (8 : Int)) (hv : (f y.toNatClampNeg).toInt + 1 ≤ v.toInt) (hv8 : v.toInt ≤ 8) (hn : pMu f (y.toInt + 1).toNat < n + 1) : pMu (upd (upd f y.toNatClampNeg v) x.toNatClampNeg (0 : Int32)) (x.toInt + 1).toNat < n := by
  have c1 := gs_cl h0
  have c2 := gs_cl (x := x) (by omega)
  obtain ⟨c, hc⟩ : ∃ c, c = y.toNatClampNeg := ⟨_, rfl⟩
  have e1 : (y.toInt + 1).toNat = c + 1 := by omega
  have e2 : x.toNatClampNeg = c + 1 := by omega
  have e3 : (x.toInt + 1).toNat = c + 1 + 1 := by omega
  rw [← hc] at h8 hv ⊢
  rw [e1] at hn
  rw [e2, e3]
  have h1 : pMu f (c + 1) = pMu f c + (9 - (f c).toInt).toNat * 10 ^ (57 - c) := rfl
  have h2 : pMu (upd (upd f c v) (c + 1) (0 : Int32)) (c + 1 + 1) = pMu (upd (upd f c v) (c + 1) (0 : Int32)) (c + 1) + (9 - (upd (upd f c v) (c + 1) (0 : Int32) (c + 1)).toInt).toNat * 10 ^ (57 - (c + 1)) := rfl
  rw [pMu_upd (Nat.le_refl _), pk_us] at h2
  have h3 : pMu (upd f c v) (c + 1) = pMu (upd f c v) c + (9 - (upd f c v c).toInt).toNat * 10 ^ (57 - c) := rfl
  rw [pMu_upd (Nat.le_refl _), pk_us] at h3
  have h4 : 10 ^ (57 - c) = 10 * 10 ^ (57 - (c + 1)) := by rw [show 57 - c = (57 - (c + 1)) + 1 by omega, Nat.pow_succ, Nat.mul_comm]
  have h5 : ((9 - (0 : Int32).toInt).toNat : Nat) = 9 := by decide
  have h6 : 0 < 10 ^ (57 - (c + 1)) := Nat.pow_pos (by decide)
  rw [h5] at h2
  rw [h4] at h1 h3
  have h7 : (9 - v.toInt).toNat + 1 ≤ (9 - (f c).toInt).toNat := by omega
  have h9 := Nat.mul_le_mul_right (10 * 10 ^ (57 - (c + 1))) h7
  rw [Nat.add_mul] at h9
  omega
set_option maxHeartbeats 4000000 in
set_option maxRecDepth 100000 in
/-- WellCourtModel.plan -/
theorem m_plan (l : Launch) (G : va_G) (cy : Nat → ClassId) (sK sV : Nat → Nat) (ad : Nat → Nat → Nat) (sz : Nat) (st : gS) (hB : gBd bM st) (x : Int32) (y : Int32) (Xx : Int) (Xy : Int) (kx : x.toInt = Xx) (ky : y.toInt = Xy) (rs : List Rl) (bk : Nat) (hbk : (st 0 0 28).toInt = (bk : Int)) (hru : (st 0 0 29).toInt = (rs.length : Int)) (hLM : LM rs st bk) (hwf : ∀ r ∈ rs, wfR r) : gsMi l yX10_plan cX10_plan 8 (some .int) ({ frames := 2, cells := 0, slots := 0, locals := 53 } : Room) G cy sK sV (shM cy ad) cnM ad sz [.ref (ad 0 0), .int x, .int y] st (fun (r : Int32) (u : gS) => gBN bM kM [0, 55, 56, 57, 58, 2900, 3000, 3100, 3200, 3300, 3400, 3500, 3600, 3700, 3800] st u ∧ (True)) := by
  refine gs_start (fun A => gsQi G (shM cy ad) cnM ad _ A) (by decide) (Nat.le_of_ble_eq_true rfl) ?_
  intro p e s m below meth c A ls H hx hb hr hml hlocks hown hts hK hov hE hI hM hm hS hA hl
  have hl : lv_has ls 8 [(0, .ref (ad 0 0)), (1, .int x), (2, .int y)] := hl
  have hB_st : gBN bM kM [0, 55, 56, 57, 58, 2900, 3000, 3100, 3200, 3300, 3400, 3500, 3600, 3700, 3800] st st := gBN.rf hB
  generalize hQe : MQ below _ _ s _ _ A = Q
  refine lv_aload_n hx hb dX10_plan_0 rfl (lv_at hl 0 rfl) ?_
  refine lv_iload_n hx hb dX10_plan_1 rfl (lv_at hl 2 rfl) ?_
  refine lv_iconst (v := 1) hx hb dX10_plan_2 (by decide) ?_
  refine lv_icmp_lt (tgt := 13) hx hb dX10_plan_3 (by decide) (fun c_1 => ?_) (fun c_1 => ?_)
  · have ic_1 := gz_lt (rfl : y.toInt = y.toInt) (by decide : (1 : Int32).toInt = 1) c_1
    refine lv_iconst (v := 1) hx hb dX10_plan_13 (by decide) ?_
    refine lv_goto (tgt := 18) hx hb dX10_plan_14 (by decide) ?_
    refine gs_put (C := RX10) (T := TX10) (N := 59) (ty := .int) (val := .int 1) hx hb hts inX10 tyX10 tyX10_ok nmX10 hown hK hI hm hM hS 0 0 0 (by decide) rfl rfl (by decide) (hts _ gm_901) (fun _ h9 => h9) rfl (1 : Int32) rfl (by decide +kernel) rfl rfl (Nat.le_of_ble_eq_true rfl) dX10_plan_18 (fun st_2 H locs est_2 hM hS => ?_)
    have hB_st_2 : gBN bM kM [0, 55, 56, 57, 58, 2900, 3000, 3100, 3200, 3300, 3400, 3500, 3600, 3700, 3800] st st_2 := by rw [est_2]; exact hB_st.up (show (0 : Nat) ∈ _ from by decide) (gi_lo _) (gi_hi _)
    refine lv_aload_n hx hb dX10_plan_21 rfl (lv_at hl 0 rfl) ?_
    refine gs_get (C := RX10) (T := TX10) (N := 59) hx hb hts inX10 hown hK hM 0 0 0 (by decide) rfl rfl (by decide) (hts _ gm_901) (fun _ h9 => h9) rfl dX10_plan_22 ?_
    refine lv_topi (fun x_3 ex_3 => ?_)
    have ex_3 : (1 : Int32) = x_3 := Eq.symm (ex_3.trans ((congrFun (congrFun (congrFun est_2 0) 0) 0).trans (gU_same _ _ _ _ _)))
    subst ex_3
    refine lv_iconst (v := 1) hx hb dX10_plan_25 (by decide) ?_
    refine lv_icmp_ne (tgt := 31) hx hb dX10_plan_26 (by decide) (fun h9 => absurd (by decide) h9) (fun _ => ?_)
    refine lv_iconst (v := 0) hx hb dX10_plan_29 (by decide) ?_
    rw [← hQe]
    exact gs_iret hx hb hr hlocks hM hS rfl ⟨hB_st_2, trivial⟩ (by exact Nat.le_refl _) (by exact Nat.le_refl _) dX10_plan_30
  · have ic_1 := gz_nlt (rfl : y.toInt = y.toInt) (by decide : (1 : Int32).toInt = 1) c_1
    refine lv_iload_n hx hb dX10_plan_6 rfl (lv_at hl 2 rfl) ?_
    refine lv_ldcw (v := 50000) hx hb hown (hts _ gm_1276) dX10_plan_7 ?_
    refine lv_icmp_le (tgt := 17) hx hb dX10_plan_10 (by decide) (fun c_4 => ?_) (fun c_4 => ?_)
    · have ic_4 := gz_le (rfl : y.toInt = y.toInt) (by decide : (50000 : Int32).toInt = 50000) c_4
      refine lv_iconst (v := 0) hx hb dX10_plan_17 (by decide) ?_
      refine gs_put (C := RX10) (T := TX10) (N := 59) (ty := .int) (val := .int 0) hx hb hts inX10 tyX10 tyX10_ok nmX10 hown hK hI hm hM hS 0 0 0 (by decide) rfl rfl (by decide) (hts _ gm_901) (fun _ h9 => h9) rfl (0 : Int32) rfl (by decide +kernel) rfl rfl (Nat.le_of_ble_eq_true rfl) dX10_plan_18 (fun st_5 H locs est_5 hM hS => ?_)
      have hB_st_5 : gBN bM kM [0, 55, 56, 57, 58, 2900, 3000, 3100, 3200, 3300, 3400, 3500, 3600, 3700, 3800] st st_5 := by rw [est_5]; exact hB_st.up (show (0 : Nat) ∈ _ from by decide) (gi_lo _) (gi_hi _)
      refine lv_aload_n hx hb dX10_plan_21 rfl (lv_at hl 0 rfl) ?_
      refine gs_get (C := RX10) (T := TX10) (N := 59) hx hb hts inX10 hown hK hM 0 0 0 (by decide) rfl rfl (by decide) (hts _ gm_901) (fun _ h9 => h9) rfl dX10_plan_22 ?_
      refine lv_topi (fun x_6 ex_6 => ?_)
      have ex_6 : (0 : Int32) = x_6 := Eq.symm (ex_6.trans ((congrFun (congrFun (congrFun est_5 0) 0) 0).trans (gU_same _ _ _ _ _)))
      subst ex_6
      refine lv_iconst (v := 1) hx hb dX10_plan_25 (by decide) ?_
      refine lv_icmp_ne (tgt := 31) hx hb dX10_plan_26 (by decide) (fun _ => ?_) (fun h9 => absurd h9 (by decide))
      have jn7 : ∀   (H : Heap) (locs : List Loc) (ls : Array Slot),   gM G (shM cy ad) cnM ad st_5 H → va_S A s.heap H locs → lv_has ls 8 [(0, .ref (ad 0 0)), (1, .int x), (2, .int y)] → W p l e ({ frames := 2, cells := 0, slots := 0, locals := 53 } : Room) s m [.ref (ad 0 0), .int x, .int y].toArray below meth c H locs 0 0 Q (F0 m 67 ls []) := by
        intro   H locs ls   hM hS hl
        refine lv_iload_n hx hb dX10_plan_67 rfl (lv_at hl 1 rfl) ?_
        refine lv_iconst (v := 1) hx hb dX10_plan_68 (by decide) ?_
        refine lv_icmp_lt (tgt := 90) hx hb dX10_plan_69 (by decide) (fun c_8 => ?_) (fun c_8 => ?_)
        · have ic_8 := gz_lt (rfl : x.toInt = x.toInt) (by decide : (1 : Int32).toInt = 1) c_8
          refine lv_iconst (v := (-1)) hx hb dX10_plan_90 (by decide) ?_
          rw [← hQe]
          exact gs_iret hx hb hr hlocks hM hS rfl ⟨hB_st_5, trivial⟩ (by exact Nat.le_refl _) (by exact Nat.le_refl _) dX10_plan_91
        · have ic_8 := gz_nlt (rfl : x.toInt = x.toInt) (by decide : (1 : Int32).toInt = 1) c_8
          refine lv_iload_n hx hb dX10_plan_72 rfl (lv_at hl 1 rfl) ?_
          refine lv_bipush (v := 14) hx hb dX10_plan_73 (by decide) ?_
          refine lv_icmp_gt (tgt := 90) hx hb dX10_plan_75 (by decide) (fun c_9 => ?_) (fun c_9 => ?_)
          · have ic_9 := gz_lt (by decide : (14 : Int32).toInt = 14) (rfl : x.toInt = x.toInt) c_9
            refine lv_iconst (v := (-1)) hx hb dX10_plan_90 (by decide) ?_
            rw [← hQe]
            exact gs_iret hx hb hr hlocks hM hS rfl ⟨hB_st_5, trivial⟩ (by exact Nat.le_refl _) (by exact Nat.le_refl _) dX10_plan_91
          · have ic_9 := gz_nlt (by decide : (14 : Int32).toInt = 14) (rfl : x.toInt = x.toInt) c_9
            refine lv_aload_n hx hb dX10_plan_78 rfl (lv_at hl 0 rfl) ?_
            refine gs_get (C := RX10) (T := TX10) (N := 59) hx hb hts inX10 hown hK hM 0 0 7 (by decide) rfl rfl (by decide) (hts _ gm_908) (fun _ h9 => h9) rfl dX10_plan_79 ?_
            refine lv_topi (fun x_10 ex_10 => ?_)
            have ex_10 : (st 0 0 7) = x_10 := Eq.symm (ex_10.trans ((congrFun (congrFun (congrFun est_5 0) 0) 7).trans (gU_other (by decide))))
            subst ex_10
            have bf_11 : (0 : Int) ≤ (st 0 0 7).toInt ∧ (st 0 0 7).toInt ≤ (199 : Int) := hB_st.1 0 0 7
            refine lv_iload_n hx hb dX10_plan_82 rfl (lv_at hl 1 rfl) ?_
            refine lv_iadd hx hb dX10_plan_83 ?_
            refine lv_topi (fun x_12 ex_12 => ?_)
            try have tx_12 : x_12.toInt = (st 0 0 7).toInt + x.toInt := by rw [ex_12]; exact gz_addI (x := (st 0 0 7).toInt) (y := x.toInt) rfl rfl (by omega) (by omega)
            refine lv_sipush (v := 199) hx hb dX10_plan_84 (by decide) ?_
            refine lv_icmp_le (tgt := 92) hx hb dX10_plan_87 (by decide) (fun c_13 => ?_) (fun c_13 => ?_)
            · have ic_13 := gz_le (rfl : x_12.toInt = x_12.toInt) (by decide : (199 : Int32).toInt = 199) c_13
              refine lv_aload_n hx hb dX10_plan_92 rfl (lv_at hl 0 rfl) ?_
              refine lv_iconst (v := 0) hx hb dX10_plan_93 (by decide) ?_
              refine gs_put (C := RX10) (T := TX10) (N := 59) (ty := .int) (val := .int 0) hx hb hts inX10 tyX10 tyX10_ok nmX10 hown hK hI hm hM hS 0 0 57 (by decide) rfl rfl (by decide) (hts _ gm_958) (fun _ h9 => h9) rfl (0 : Int32) rfl (by decide +kernel) rfl rfl (Nat.le_of_ble_eq_true rfl) dX10_plan_94 (fun st_14 H locs est_14 hM hS => ?_)
              have hB_st_14 : gBN bM kM [0, 55, 56, 57, 58, 2900, 3000, 3100, 3200, 3300, 3400, 3500, 3600, 3700, 3800] st st_14 := by rw [est_14]; exact hB_st_5.up (show (57 : Nat) ∈ _ from by decide) (gi_lo _) (gi_hi _)
              refine lv_aload_n hx hb dX10_plan_97 rfl (lv_at hl 0 rfl) ?_
              refine lv_iconst (v := 0) hx hb dX10_plan_98 (by decide) ?_
              refine gs_put (C := RX10) (T := TX10) (N := 59) (ty := .int) (val := .int 0) hx hb hts inX10 tyX10 tyX10_ok nmX10 hown hK hI hm hM hS 0 0 58 (by decide) rfl rfl (by decide) (hts _ gm_959) (fun _ h9 => h9) rfl (0 : Int32) rfl (by decide +kernel) rfl rfl (Nat.le_of_ble_eq_true rfl) dX10_plan_99 (fun st_15 H locs est_15 hM hS => ?_)
              have hB_st_15 : gBN bM kM [0, 55, 56, 57, 58, 2900, 3000, 3100, 3200, 3300, 3400, 3500, 3600, 3700, 3800] st st_15 := by rw [est_15]; exact hB_st_14.up (show (58 : Nat) ∈ _ from by decide) (gi_lo _) (gi_hi _)
              refine lv_iconst (v := 0) hx hb dX10_plan_102 (by decide) ?_
              refine lv_istore_n (lv' := [(3, .int 0), (0, .ref (ad 0 0)), (1, .int x), (2, .int y)]) hx hb dX10_plan_103 rfl hl (by decide) rfl (fun ls hl => ?_)
              have lp16 : ∀ (n16 : Nat) (sv16 : gS) (y16_0 : Int32) (H : Heap) (locs : List Loc) (ls : Array Slot), (6 - y16_0.toInt).toNat < n16 → gBN bM kM [0, 55, 56, 57, 58, 2900, 3000, 3100, 3200, 3300, 3400, 3500, 3600, 3700, 3800] st sv16 → (0 ≤ y16_0.toInt) → gM G (shM cy ad) cnM ad sv16 H → va_S A s.heap H locs → lv_has ls 8 [(3, .int y16_0), (0, .ref (ad 0 0)), (1, .int x), (2, .int y)] → W p l e ({ frames := 2, cells := 0, slots := 0, locals := 53 } : Room) s m [.ref (ad 0 0), .int x, .int y].toArray below meth c H locs 0 0 Q (F0 m 104 ls []) := by
                intro n16
                induction n16 with
                | zero => intro sv16 y16_0 H locs ls h9; exact absurd h9 (Nat.not_lt_zero _)
                | succ n16 ih_16 =>
                  intro sv16 y16_0 H locs ls hme16 hB_sv16 hv16_0 hM hS hl
                  refine lv_iload_n hx hb dX10_plan_104 rfl (lv_at hl 0 rfl) ?_
                  refine lv_bipush (v := 6) hx hb dX10_plan_105 (by decide) ?_
                  refine lv_icmp_ge (tgt := 128) hx hb dX10_plan_107 (by decide) (fun c_17 => ?_) (fun c_17 => ?_)
                  · have ic_17 := gz_le (by decide : (6 : Int32).toInt = 6) (rfl : y16_0.toInt = y16_0.toInt) c_17
                    refine lv_iconst (v := 0) hx hb dX10_plan_128 (by decide) ?_
                    refine lv_istore_n (lv' := [(3, .int 0), (0, .ref (ad 0 0)), (1, .int x), (2, .int y)]) hx hb dX10_plan_129 rfl hl (by decide) rfl (fun ls hl => ?_)
                    have lp18 : ∀ (n18 : Nat) (sv18 : gS) (y18_0 : Int32) (H : Heap) (locs : List Loc) (ls : Array Slot), (4 - y18_0.toInt).toNat < n18 → gBN bM kM [0, 55, 56, 57, 58, 2900, 3000, 3100, 3200, 3300, 3400, 3500, 3600, 3700, 3800] st sv18 → (0 ≤ y18_0.toInt) → gM G (shM cy ad) cnM ad sv18 H → va_S A s.heap H locs → lv_has ls 8 [(3, .int y18_0), (0, .ref (ad 0 0)), (1, .int x), (2, .int y)] → W p l e ({ frames := 2, cells := 0, slots := 0, locals := 53 } : Room) s m [.ref (ad 0 0), .int x, .int y].toArray below meth c H locs 0 0 Q (F0 m 130 ls []) := by
                      intro n18
                      induction n18 with
                      | zero => intro sv18 y18_0 H locs ls h9; exact absurd h9 (Nat.not_lt_zero _)
                      | succ n18 ih_18 =>
                        intro sv18 y18_0 H locs ls hme18 hB_sv18 hv18_0 hM hS hl
                        refine lv_iload_n hx hb dX10_plan_130 rfl (lv_at hl 0 rfl) ?_
                        refine lv_iconst (v := 4) hx hb dX10_plan_131 (by decide) ?_
                        refine lv_icmp_ge (tgt := 175) hx hb dX10_plan_132 (by decide) (fun c_19 => ?_) (fun c_19 => ?_)
                        · have ic_19 := gz_le (by decide : (4 : Int32).toInt = 4) (rfl : y18_0.toInt = y18_0.toInt) c_19
                          refine lv_iconst (v := 0) hx hb dX10_plan_175 (by decide) ?_
                          refine lv_istore_n (lv' := [(3, .int 0), (0, .ref (ad 0 0)), (1, .int x), (2, .int y)]) hx hb dX10_plan_176 rfl hl (by decide) rfl (fun ls hl => ?_)
                          refine lv_aload_n hx hb dX10_plan_177 rfl (lv_at hl 1 rfl) ?_
                          refine gs_get (C := RX10) (T := TX10) (N := 59) hx hb hts inX10 hown hK hM 0 0 49 (by decide) rfl rfl (by decide) (hts _ gm_950) (fun _ h9 => h9) rfl dX10_plan_178 ?_
                          refine lv_iconst (v := 0) hx hb dX10_plan_181 (by decide) ?_
                          refine lv_iconst (v := 0) hx hb dX10_plan_182 (by decide) ?_
                          refine gs_iast hx hb hK hI hm hM hS 33 0 (by decide) (fun _ => rfl) (vp_in_iff.mpr (by decide)) dX10_plan_183 (fun st_20 H locs est_20 hM hS => ?_)
                          have est_20 : st_20 = gU sv18 33 0 0 (0 : Int32) := est_20
                          have hB_st_20 : gBN bM kM [0, 55, 56, 57, 58, 2900, 3000, 3100, 3200, 3300, 3400, 3500, 3600, 3700, 3800] st st_20 := by rw [est_20]; exact hB_sv18.up (show (3300 : Nat) ∈ _ from by decide) (show (0 : Int) ≤ ((0 : Int32)).toInt from by decide) (show ((0 : Int32)).toInt ≤ (8 : Int) from by decide)
                          refine lv_aload_n hx hb dX10_plan_184 rfl (lv_at hl 1 rfl) ?_
                          refine lv_iconst (v := 0) hx hb dX10_plan_185 (by decide) ?_
                          refine lv_aload_n hx hb dX10_plan_186 rfl (lv_at hl 1 rfl) ?_
                          refine gs_get (C := RX10) (T := TX10) (N := 59) hx hb hts inX10 hown hK hM 0 0 7 (by decide) rfl rfl (by decide) (hts _ gm_908) (fun _ h9 => h9) rfl dX10_plan_187 ?_
                          refine lv_topi (fun x_21 ex_21 => ?_)
                          have ex_21 : (st 0 0 7) = x_21 := Eq.symm (ex_21.trans (((congrFun (congrFun (congrFun est_20 0) 0) 7).trans (congrFun (congrFun (gU_k (by decide)) 0) 7)).trans (hB_sv18.2 0 0 7 (show (7 : Nat) ∉ _ from by decide))))
                          subst ex_21
                          have bf_22 : (0 : Int) ≤ (st 0 0 7).toInt ∧ (st 0 0 7).toInt ≤ (199 : Int) := hB_st.1 0 0 7
                          refine lv_iconst (v := 1) hx hb dX10_plan_190 (by decide) ?_
                          refine lv_iadd hx hb dX10_plan_191 ?_
                          refine lv_topi (fun x_23 ex_23 => ?_)
                          try have tx_23 : x_23.toInt = (st 0 0 7).toInt + 1 := by rw [ex_23]; exact gz_addP (x := (st 0 0 7).toInt) (y := 1) rfl (by decide) (by omega) (by omega)
                          refine gs_callv (va_runV (As := [.int 0, .int x_23]) (rest := []) ⟨hx, hb, hml, hown, hts⟩ (m_dawn l G cy sK sV ad H.size st_20 hB_st_20.1 (0 : Int32) x_23 0 x_23.toInt (by decide) rfl (by first | decide | omega) (by first | decide | omega) (by first | decide | omega) (by first | decide | omega) rs bk ((congrArg Int32.toInt ((((congrFun (congrFun (congrFun est_20 0) 0) 28).trans (congrFun (congrFun (gU_k (by decide)) 0) 28)).trans (hB_sv18.2 0 0 28 (show (28 : Nat) ∉ _ from by decide))))).trans hbk) ((congrArg Int32.toInt ((((congrFun (congrFun (congrFun est_20 0) 0) 29).trans (congrFun (congrFun (gU_k (by decide)) 0) 29)).trans (hB_sv18.2 0 0 29 (show (29 : Nat) ∉ _ from by decide))))).trans hru) (LM.all hLM (mA.trans (mA.trans mA.rf (mA.frame hB_sv18.2 (by decide))) (mA.upk est_20 (by decide))))) ⟨(gz_cb (n := 2) hts gm_1277 gm_12 gm_1280 ⟨by decide +kernel, by decide +kernel, by decide +kernel⟩ ⟨Nat.le_of_ble_eq_true rfl, Nat.le_of_ble_eq_true rfl⟩), hts _ gm_1279, hts _ gs_56⟩ (gs_preV hK hov hE hI hM hm hS hA 0 0 (by decide) rfl rfl) rfl rfl hl.1 rfl (lv_room (Nat.le_of_ble_eq_true rfl)) dX10_plan_192 ⟨Nat.le_of_ble_eq_true rfl, Nat.le_of_ble_eq_true rfl⟩) hm hS hA (fun st_24 H locs hw_24 hM hS => ?_)
                          obtain ⟨n_24, hw_24⟩ := hw_24
                          have hB_st_24 : gBN bM kM [0, 55, 56, 57, 58, 2900, 3000, 3100, 3200, 3300, 3400, 3500, 3600, 3700, 3800] st st_24 := hB_st_20.call n_24 (by decide)
                          have lp25 : ∀ (n25 : Nat) (sv25 : gS) (y25_0 : Int32) (H : Heap) (locs : List Loc) (ls : Array Slot), pMu (sv25 33 0) (y25_0.toInt + 1).toNat < n25 → gBN bM kM [0, 55, 56, 57, 58, 2900, 3000, 3100, 3200, 3300, 3400, 3500, 3600, 3700, 3800] st sv25 → (-1 ≤ y25_0.toInt) → (y25_0.toInt ≤ 4 * Xx) → gM G (shM cy ad) cnM ad sv25 H → va_S A s.heap H locs → lv_has ls 8 [(3, .int y25_0), (0, .ref (ad 0 0)), (1, .int x), (2, .int y)] → W p l e ({ frames := 2, cells := 0, slots := 0, locals := 53 } : Room) s m [.ref (ad 0 0), .int x, .int y].toArray below meth c H locs 0 0 Q (F0 m 195 ls []) := by
                            intro n25
                            induction n25 with
                            | zero => intro sv25 y25_0 H locs ls h9; exact absurd h9 (Nat.not_lt_zero _)
                            | succ n25 ih_25 =>
                              intro sv25 y25_0 H locs ls hme25 hB_sv25 hv25_0 hv25_1 hM hS hl
                              refine lv_iload_n hx hb dX10_plan_195 rfl (lv_at hl 0 rfl) ?_
                              refine lv_if_lt (tgt := 542) hx hb dX10_plan_196 (by decide) (fun c_26 => ?_) (fun c_26 => ?_)
                              · have ic_26 := gz_lt (rfl : y25_0.toInt = y25_0.toInt) (by decide : (0 : Int32).toInt = 0) c_26
                                refine lv_iconst (v := 1) hx hb dX10_plan_542 (by decide) ?_
                                rw [← hQe]
                                exact gs_iret hx hb hr hlocks hM hS rfl ⟨hB_sv25, trivial⟩ (by exact Nat.le_refl _) (by exact Nat.le_refl _) dX10_plan_543
                              · have ic_26 := gz_nlt (rfl : y25_0.toInt = y25_0.toInt) (by decide : (0 : Int32).toInt = 0) c_26
                                refine lv_iload_n hx hb dX10_plan_199 rfl (lv_at hl 0 rfl) ?_
                                refine lv_iconst (v := 4) hx hb dX10_plan_200 (by decide) ?_
                                refine lv_iload_n hx hb dX10_plan_201 rfl (lv_at hl 2 rfl) ?_
                                refine lv_imul hx hb dX10_plan_202 ?_
                                refine lv_topi (fun x_27 ex_27 => ?_)
                                try have tx_27 : x_27.toInt = 4 * x.toInt := by rw [ex_27]; exact gz_mulI (x := 4) (y := x.toInt) (by decide) rfl (by omega) (by omega)
                                refine lv_icmp_ne (tgt := 281) hx hb dX10_plan_203 (by decide) (fun c_28 => ?_) (fun c_28 => ?_)
                                · have ic_28 := gz_ne (rfl : y25_0.toInt = y25_0.toInt) (rfl : x_27.toInt = x_27.toInt) c_28
                                  refine lv_iload_n hx hb dX10_plan_281 rfl (lv_at hl 0 rfl) ?_
                                  refine lv_iconst (v := 4) hx hb dX10_plan_282 (by decide) ?_
                                  refine lv_irem hx hb dX10_plan_283 (by decide) ?_
                                  refine lv_topi (fun x_29 ex_29 => ?_)
                                  try have tx_29 := gs_rem2 (y := 4) (by decide) (show 0 ≤ y25_0.toInt from by omega) (by omega) ex_29
                                  refine lv_istore (lv' := [(4, .int x_29), (3, .int y25_0), (0, .ref (ad 0 0)), (1, .int x), (2, .int y)]) hx hb dX10_plan_284 hl (by decide) rfl (fun ls hl => ?_)
                                  refine lv_aload_n hx hb dX10_plan_286 rfl (lv_at hl 2 rfl) ?_
                                  refine gs_get (C := RX10) (T := TX10) (N := 59) hx hb hts inX10 hown hK hM 0 0 7 (by decide) rfl rfl (by decide) (hts _ gm_908) (fun _ h9 => h9) rfl dX10_plan_287 ?_
                                  refine lv_topi (fun x_30 ex_30 => ?_)
                                  have ex_30 : (st 0 0 7) = x_30 := Eq.symm (ex_30.trans (hB_sv25.2 0 0 7 (show (7 : Nat) ∉ _ from by decide)))
                                  subst ex_30
                                  have bf_31 : (0 : Int) ≤ (st 0 0 7).toInt ∧ (st 0 0 7).toInt ≤ (199 : Int) := hB_st.1 0 0 7
                                  refine lv_iconst (v := 1) hx hb dX10_plan_290 (by decide) ?_
                                  refine lv_iadd hx hb dX10_plan_291 ?_
                                  refine lv_topi (fun x_32 ex_32 => ?_)
                                  try have tx_32 : x_32.toInt = (st 0 0 7).toInt + 1 := by rw [ex_32]; exact gz_addP (x := (st 0 0 7).toInt) (y := 1) rfl (by decide) (by omega) (by omega)
                                  refine lv_iload_n hx hb dX10_plan_292 rfl (lv_at hl 1 rfl) ?_
                                  refine lv_iconst (v := 4) hx hb dX10_plan_293 (by decide) ?_
                                  refine lv_idiv hx hb dX10_plan_294 (by decide) ?_
                                  refine lv_topi (fun x_33 ex_33 => ?_)
                                  try have tx_33 := gs_div2 (y := 4) (by decide) (show 0 ≤ y25_0.toInt from by omega) (by omega) ex_33
                                  refine lv_iadd hx hb dX10_plan_295 ?_
                                  refine lv_topi (fun x_34 ex_34 => ?_)
                                  try have tx_34 : x_34.toInt = x_32.toInt + x_33.toInt := by rw [ex_34]; exact gz_addI (x := x_32.toInt) (y := x_33.toInt) rfl rfl (by omega) (by omega)
                                  refine lv_istore (lv' := [(5, .int x_34), (4, .int x_29), (3, .int y25_0), (0, .ref (ad 0 0)), (1, .int x), (2, .int y)]) hx hb dX10_plan_296 hl (by decide) rfl (fun ls hl => ?_)
                                  refine lv_aload_n hx hb dX10_plan_298 rfl (lv_at hl 3 rfl) ?_
                                  refine gs_get (C := RX10) (T := TX10) (N := 59) hx hb hts inX10 hown hK hM 0 0 38 (by decide) rfl rfl (by decide) (hts _ gm_939) (fun _ h9 => h9) rfl dX10_plan_299 ?_
                                  refine lv_iload hx hb dX10_plan_302 (lv_at hl 1 rfl) ?_
                                  refine gs_zald hx hb hK hM 22 0 (by decide) rfl (vp_in_iff.mpr ⟨by omega, by omega⟩) dX10_plan_304 ?_
                                  refine lv_topi (fun x_35 ex_35 => ?_)
                                  have qx_35 : x_35.toInt = (sv25 22 0 (x_29.toNatClampNeg)).toInt := congrArg Int32.toInt ex_35
                                  have rx_35 : x_35.toInt = ((st 22 0 (x_29.toNatClampNeg)) : Int32).toInt := by rw [ex_35]; exact congrArg Int32.toInt ((hB_sv25.2 22 0 (x_29.toNatClampNeg) (show (2200 : Nat) ∉ _ from by decide)))
                                  refine lv_if_eq (tgt := 328) hx hb dX10_plan_305 (by decide) (fun c_36 => ?_) (fun c_36 => ?_)
                                  · have ic_36 := gz_eq (rfl : x_35.toInt = x_35.toInt) (by decide : (0 : Int32).toInt = 0) c_36
                                    refine lv_iconst (v := 0) hx hb dX10_plan_328 (by decide) ?_
                                    refine lv_istore (lv' := [(6, .int 0), (5, .int x_34), (4, .int x_29), (3, .int y25_0), (0, .ref (ad 0 0)), (1, .int x), (2, .int y)]) hx hb dX10_plan_329 hl (by decide) rfl (fun ls hl => ?_)
                                    refine lv_aload_n hx hb dX10_plan_331 rfl (lv_at hl 4 rfl) ?_
                                    refine gs_get (C := RX10) (T := TX10) (N := 59) hx hb hts inX10 hown hK hM 0 0 49 (by decide) rfl rfl (by decide) (hts _ gm_950) (fun _ h9 => h9) rfl dX10_plan_332 ?_
                                    refine lv_iload_n hx hb dX10_plan_335 rfl (lv_at hl 3 rfl) ?_
                                    refine gs_iald hx hb hK hM 33 0 (by decide) rfl (vp_in_iff.mpr ⟨by omega, by omega⟩) dX10_plan_336 ?_
                                    refine lv_topi (fun x_37 ex_37 => ?_)
                                    have qx_37 : x_37.toInt = (sv25 33 0 (y25_0.toNatClampNeg)).toInt := congrArg Int32.toInt ex_37
                                    have bx_37 : (0 : Int) ≤ x_37.toInt ∧ x_37.toInt ≤ (8 : Int) := by rw [qx_37]; exact hB_sv25.1 33 0 (y25_0.toNatClampNeg)
                                    refine lv_istore (lv' := [(7, .int x_37), (6, .int 0), (5, .int x_34), (4, .int x_29), (3, .int y25_0), (0, .ref (ad 0 0)), (1, .int x), (2, .int y)]) hx hb dX10_plan_337 hl (by decide) rfl (fun ls hl => ?_)
                                    refine lv_iload hx hb dX10_plan_339 (lv_at hl 1 rfl) ?_
                                    refine lv_if_eq (tgt := 369) hx hb dX10_plan_341 (by decide) (fun _ => ?_) (fun h9 => absurd (by decide) h9)
                                    refine lv_iload hx hb dX10_plan_369 (lv_at hl 0 rfl) ?_
                                    refine lv_iload hx hb dX10_plan_371 (lv_at hl 1 rfl) ?_
                                    refine lv_if_eq (tgt := 381) hx hb dX10_plan_373 (by decide) (fun _ => ?_) (fun h9 => absurd (by decide) h9)
                                    refine lv_iconst (v := 1) hx hb dX10_plan_381 (by decide) ?_
                                    refine lv_icmp_lt (tgt := 391) hx hb dX10_plan_382 (by decide) (fun c_38 => ?_) (fun c_38 => ?_)
                                    · have ic_38 := gz_lt (rfl : x_37.toInt = x_37.toInt) (by decide : (1 : Int32).toInt = 1) c_38
                                      refine lv_aload_n hx hb dX10_plan_391 rfl (lv_at hl 5 rfl) ?_
                                      refine gs_get (C := RX10) (T := TX10) (N := 59) hx hb hts inX10 hown hK hM 0 0 49 (by decide) rfl rfl (by decide) (hts _ gm_950) (fun _ h9 => h9) rfl dX10_plan_392 ?_
                                      refine lv_iload_n hx hb dX10_plan_395 rfl (lv_at hl 4 rfl) ?_
                                      refine lv_iload hx hb dX10_plan_396 (lv_at hl 0 rfl) ?_
                                      refine lv_iconst (v := 1) hx hb dX10_plan_398 (by decide) ?_
                                      refine lv_iadd hx hb dX10_plan_399 ?_
                                      refine lv_topi (fun x_39 ex_39 => ?_)
                                      try have tx_39 : x_39.toInt = x_37.toInt + 1 := by rw [ex_39]; exact gz_addP (x := x_37.toInt) (y := 1) rfl (by decide) (by omega) (by omega)
                                      refine gs_iast hx hb hK hI hm hM hS 33 0 (by decide) (fun _ => rfl) (vp_in_iff.mpr ⟨by omega, by omega⟩) dX10_plan_400 (fun st_40 H locs est_40 hM hS => ?_)
                                      have hB_st_40 : gBN bM kM [0, 55, 56, 57, 58, 2900, 3000, 3100, 3200, 3300, 3400, 3500, 3600, 3700, 3800] st st_40 := by rw [est_40]; exact hB_sv25.up (show (3300 : Nat) ∈ _ from by decide) (show (0 : Int) ≤ x_39.toInt from by omega) (show x_39.toInt ≤ (8 : Int) from by omega)
                                      refine lv_iload hx hb dX10_plan_401 (lv_at hl 1 rfl) ?_
                                      refine lv_if_eq (tgt := 426) hx hb dX10_plan_403 (by decide) (fun _ => ?_) (fun h9 => absurd (by decide) h9)
                                      refine lv_aload_n hx hb dX10_plan_426 rfl (lv_at hl 5 rfl) ?_
                                      refine gs_get (C := RX10) (T := TX10) (N := 59) hx hb hts inX10 hown hK hM 0 0 50 (by decide) rfl rfl (by decide) (hts _ gm_951) (fun _ h9 => h9) rfl dX10_plan_427 ?_
                                      refine lv_iload_n hx hb dX10_plan_430 rfl (lv_at hl 4 rfl) ?_
                                      refine lv_iload hx hb dX10_plan_431 (lv_at hl 1 rfl) ?_
                                      refine lv_if_eq (tgt := 441) hx hb dX10_plan_433 (by decide) (fun _ => ?_) (fun h9 => absurd (by decide) h9)
                                      refine lv_bipush (v := 9) hx hb dX10_plan_441 (by decide) ?_
                                      refine gs_iast hx hb hK hI hm hM hS 34 0 (by decide) (fun _ => rfl) (vp_in_iff.mpr ⟨by omega, by omega⟩) dX10_plan_443 (fun st_41 H locs est_41 hM hS => ?_)
                                      have hB_st_41 : gBN bM kM [0, 55, 56, 57, 58, 2900, 3000, 3100, 3200, 3300, 3400, 3500, 3600, 3700, 3800] st st_41 := by rw [est_41]; exact hB_st_40.up (show (3400 : Nat) ∈ _ from by decide) (gi_lo _) (gi_hi _)
                                      refine lv_aload_n hx hb dX10_plan_444 rfl (lv_at hl 5 rfl) ?_
                                      refine lv_iload_n hx hb dX10_plan_445 rfl (lv_at hl 4 rfl) ?_
                                      refine lv_iload hx hb dX10_plan_446 (lv_at hl 3 rfl) ?_
                                      refine lv_aload_n hx hb dX10_plan_448 rfl (lv_at hl 5 rfl) ?_
                                      refine gs_get (C := RX10) (T := TX10) (N := 59) hx hb hts inX10 hown hK hM 0 0 50 (by decide) rfl rfl (by decide) (hts _ gm_951) (fun _ h9 => h9) rfl dX10_plan_449 ?_
                                      refine lv_iload_n hx hb dX10_plan_452 rfl (lv_at hl 4 rfl) ?_
                                      refine gs_iald hx hb hK hM 34 0 (by decide) rfl (vp_in_iff.mpr ⟨by omega, by omega⟩) dX10_plan_453 ?_
                                      refine lv_topi (fun x_42 ex_42 => ?_)
                                      have qx_42 : x_42.toInt = (st_41 34 0 (y25_0.toNatClampNeg)).toInt := congrArg Int32.toInt ex_42
                                      have rx_42 : x_42.toInt = (9 : Int) := by rw [ex_42]; exact (congrArg Int32.toInt (((congrFun (congrFun (congrFun est_41 34) 0) (y25_0.toNatClampNeg)).trans (gU_same _ _ _ _ _)))).trans (by decide)
                                      refine lv_iload hx hb dX10_plan_454 (lv_at hl 2 rfl) ?_
                                      refine gs_callv (va_runV (As := [.int y25_0, .int x_29, .int x_42, .int x_34]) (rest := []) ⟨hx, hb, hml, hown, hts⟩ (m_goes l G cy sK sV ad H.size st_41 hB_st_41.1 y25_0 x_29 x_42 x_34 y25_0.toInt x_29.toInt x_42.toInt x_34.toInt rfl rfl rfl rfl (by first | decide | omega) (by first | decide | omega) (by first | decide | omega) (by first | decide | omega) (by first | decide | omega)) ⟨(gz_cb (n := 4) hts gm_1285 gm_12 gm_1288 ⟨by decide +kernel, by decide +kernel, by decide +kernel⟩ ⟨Nat.le_of_ble_eq_true rfl, Nat.le_of_ble_eq_true rfl⟩), hts _ gm_1287, hts _ gs_58⟩ (gs_preV hK hov hE hI hM hm hS hA 0 0 (by decide) rfl rfl) rfl rfl hl.1 rfl (lv_room (Nat.le_of_ble_eq_true rfl)) dX10_plan_456 ⟨Nat.le_of_ble_eq_true rfl, Nat.le_of_ble_eq_true rfl⟩) hm hS hA (fun st_43 H locs hw_43 hM hS => ?_)
                                      obtain ⟨n_43, hw_43⟩ := hw_43
                                      have hB_st_43 : gBN bM kM [0, 55, 56, 57, 58, 2900, 3000, 3100, 3200, 3300, 3400, 3500, 3600, 3700, 3800] st st_43 := hB_st_41.call n_43 (by decide)
                                      refine lv_iload hx hb dX10_plan_459 (lv_at hl 3 rfl) ?_
                                      refine lv_iconst (v := 3) hx hb dX10_plan_461 (by decide) ?_
                                      refine lv_icmp_ne (tgt := 480) hx hb dX10_plan_462 (by decide) (fun c_44 => ?_) (fun c_44 => ?_)
                                      · have ic_44 := gz_ne (rfl : x_29.toInt = x_29.toInt) (by decide : (3 : Int32).toInt = 3) c_44
                                        obtain ⟨x_45, ex_45⟩ : ∃ y : Int32, y = y25_0 + 1 := ⟨_, rfl⟩
                                        try have tx_45 : x_45.toInt = y25_0.toInt + 1 := by rw [ex_45]; exact gz_addP (x := y25_0.toInt) (y := 1) rfl (by decide) (by omega) (by omega)
                                        refine lv_iinc (v := (x_45)) (lv' := [(3, .int x_45), (7, .int x_37), (6, .int 0), (5, .int x_34), (4, .int x_29), (0, .ref (ad 0 0)), (1, .int x), (2, .int y)]) hx hb dX10_plan_480 hl (k := 4) rfl (by rw [ex_45]; rfl) (by decide) rfl (fun ls hl => ?_)
                                        refine lv_aload_n hx hb dX10_plan_483 rfl (lv_at hl 5 rfl) ?_
                                        refine gs_get (C := RX10) (T := TX10) (N := 59) hx hb hts inX10 hown hK hM 0 0 49 (by decide) rfl rfl (by decide) (hts _ gm_950) (fun _ h9 => h9) rfl dX10_plan_484 ?_
                                        refine lv_iload_n hx hb dX10_plan_487 rfl (lv_at hl 0 rfl) ?_
                                        refine lv_iconst (v := 0) hx hb dX10_plan_488 (by decide) ?_
                                        refine gs_iast hx hb hK hI hm hM hS 33 0 (by decide) (fun _ => rfl) (vp_in_iff.mpr ⟨by omega, by omega⟩) dX10_plan_489 (fun st_46 H locs est_46 hM hS => ?_)
                                        have hB_st_46 : gBN bM kM [0, 55, 56, 57, 58, 2900, 3000, 3100, 3200, 3300, 3400, 3500, 3600, 3700, 3800] st st_46 := by rw [est_46]; exact hB_st_43.up (show (3300 : Nat) ∈ _ from by decide) (show (0 : Int) ≤ ((0 : Int32)).toInt from by decide) (show ((0 : Int32)).toInt ≤ (8 : Int) from by decide)
                                        refine lv_iload hx hb dX10_plan_490 (lv_at hl 4 rfl) ?_
                                        refine lv_iconst (v := 3) hx hb dX10_plan_492 (by decide) ?_
                                        refine lv_icmp_ge (tgt := 499) hx hb dX10_plan_493 (by decide) (fun c_47 => ?_) (fun c_47 => ?_)
                                        · have ic_47 := gz_le (by decide : (3 : Int32).toInt = 3) (rfl : x_29.toInt = x_29.toInt) c_47
                                          refine lv_aload_n hx hb dX10_plan_499 rfl (lv_at hl 5 rfl) ?_
                                          refine lv_iload_n hx hb dX10_plan_500 rfl (lv_at hl 0 rfl) ?_
                                          refine lv_iconst (v := 4) hx hb dX10_plan_501 (by decide) ?_
                                          refine lv_idiv hx hb dX10_plan_502 (by decide) ?_
                                          refine lv_topi (fun x_48 ex_48 => ?_)
                                          try have tx_48 := gs_div2 (y := 4) (by decide) (show 0 ≤ x_45.toInt from by omega) (by omega) ex_48
                                          refine lv_aload_n hx hb dX10_plan_503 rfl (lv_at hl 5 rfl) ?_
                                          refine gs_get (C := RX10) (T := TX10) (N := 59) hx hb hts inX10 hown hK hM 0 0 58 (by decide) rfl rfl (by decide) (hts _ gm_959) (fun _ h9 => h9) rfl dX10_plan_504 ?_
                                          refine lv_topi (fun x_49 ex_49 => ?_)
                                          have ex_49 : (sv25 0 0 58) = x_49 := Eq.symm (ex_49.trans (((congrFun (congrFun (congrFun est_46 0) 0) 58).trans (congrFun (congrFun (gU_k (by decide)) 0) 58)).trans ((n_43.2 0 0 58 (show (58 : Nat) ∉ _ from by decide)).trans (((congrFun (congrFun (congrFun est_41 0) 0) 58).trans (congrFun (congrFun (gU_k (by decide)) 0) 58)).trans ((congrFun (congrFun (congrFun est_40 0) 0) 58).trans (congrFun (congrFun (gU_k (by decide)) 0) 58))))))
                                          subst ex_49
                                          refine lv_icmp_le (tgt := 516) hx hb dX10_plan_507 (by decide) (fun c_51 => ?_) (fun c_51 => ?_)
                                          · have ic_51 := gz_le (rfl : x_48.toInt = x_48.toInt) (rfl : (sv25 0 0 58).toInt = (sv25 0 0 58).toInt) c_51
                                            refine lv_aload_n hx hb dX10_plan_516 rfl (lv_at hl 5 rfl) ?_
                                            refine gs_get (C := RX10) (T := TX10) (N := 59) hx hb hts inX10 hown hK hM 0 0 58 (by decide) rfl rfl (by decide) (hts _ gm_959) (fun _ h9 => h9) rfl dX10_plan_517 ?_
                                            refine lv_topi (fun x_52 ex_52 => ?_)
                                            have ex_52 : (sv25 0 0 58) = x_52 := Eq.symm (ex_52.trans (((congrFun (congrFun (congrFun est_46 0) 0) 58).trans (congrFun (congrFun (gU_k (by decide)) 0) 58)).trans ((n_43.2 0 0 58 (show (58 : Nat) ∉ _ from by decide)).trans (((congrFun (congrFun (congrFun est_41 0) 0) 58).trans (congrFun (congrFun (gU_k (by decide)) 0) 58)).trans ((congrFun (congrFun (congrFun est_40 0) 0) 58).trans (congrFun (congrFun (gU_k (by decide)) 0) 58))))))
                                            subst ex_52
                                            refine gs_put (C := RX10) (T := TX10) (N := 59) (ty := .int) (val := .int (sv25 0 0 58)) hx hb hts inX10 tyX10 tyX10_ok nmX10 hown hK hI hm hM hS 0 0 58 (by decide) rfl rfl (by decide) (hts _ gm_959) (fun _ h9 => h9) rfl ((sv25 0 0 58) : Int32) rfl (by decide +kernel) rfl rfl (Nat.le_of_ble_eq_true rfl) dX10_plan_520 (fun st_54 H locs est_54 hM hS => ?_)
                                            have hB_st_54 : gBN bM kM [0, 55, 56, 57, 58, 2900, 3000, 3100, 3200, 3300, 3400, 3500, 3600, 3700, 3800] st st_54 := by rw [est_54]; exact hB_st_46.up (show (58 : Nat) ∈ _ from by decide) (gi_lo _) (gi_hi _)
                                            refine lv_iload_n hx hb dX10_plan_523 rfl (lv_at hl 0 rfl) ?_
                                            refine lv_iconst (v := 4) hx hb dX10_plan_524 (by decide) ?_
                                            refine lv_iload_n hx hb dX10_plan_525 rfl (lv_at hl 6 rfl) ?_
                                            refine lv_imul hx hb dX10_plan_526 ?_
                                            refine lv_topi (fun x_55 ex_55 => ?_)
                                            try have tx_55 : x_55.toInt = 4 * x.toInt := by rw [ex_55]; exact gz_mulI (x := 4) (y := x.toInt) (by decide) rfl (by omega) (by omega)
                                            refine lv_icmp_ge (tgt := 539) hx hb dX10_plan_527 (by decide) (fun c_56 => ?_) (fun c_56 => ?_)
                                            · have ic_56 := gz_le (rfl : x_55.toInt = x_55.toInt) (rfl : x_45.toInt = x_45.toInt) c_56
                                              refine lv_goto (tgt := 195) hx hb dX10_plan_539 (by decide) ?_
                                              exact ih_25 st_54 (x_45 : Int32) H _ ls (by rw [show st_54 33 0 = (upd (upd (sv25 33 0) (y25_0.toNatClampNeg) (x_39 : Int32)) (x_45.toNatClampNeg) (0 : Int32)) from ((congrFun (congrFun est_54 33) 0).trans ((congrFun (gU_k (by decide)) 0).trans ((congrFun (congrFun est_46 33) 0).trans ((gU_at _ _ _ _ _).trans (congrArg (fun f9 => upd f9 (x_45.toNatClampNeg) (0 : Int32)) ((funext (fun j9 => n_43.2 33 0 j9 (show (3300 : Nat) ∉ _ from by decide))).trans ((congrFun (congrFun est_41 33) 0).trans ((congrFun (gU_k (by decide)) 0).trans ((congrFun (congrFun est_40 33) 0).trans ((gU_at _ _ _ _ _).trans (congrArg (fun f9 => upd f9 (y25_0.toNatClampNeg) (x_39 : Int32)) rfl)))))))))))]; exact pMu_u (y := y25_0) (by omega) (by omega) (by omega) (show (0 : Int) ≤ _ ∧ _ ≤ (8 : Int) from hB_sv25.1 33 0 _) (by omega) (by omega) hme25) hB_st_54 (by omega) (by omega) hM hS (lv_sub hl [0, 5, 6, 7] rfl)
                                            · have ic_56 := gz_nle (rfl : x_55.toInt = x_55.toInt) (rfl : x_45.toInt = x_45.toInt) c_56
                                              have lc_56 := gi_hi x_55
                                              refine lv_aload_n hx hb dX10_plan_530 rfl (lv_at hl 5 rfl) ?_
                                              refine lv_iload_n hx hb dX10_plan_531 rfl (lv_at hl 0 rfl) ?_
                                              refine lv_iload hx hb dX10_plan_532 (lv_at hl 3 rfl) ?_
                                              refine lv_iconst (v := 1) hx hb dX10_plan_534 (by decide) ?_
                                              refine lv_iadd hx hb dX10_plan_535 ?_
                                              refine lv_topi (fun x_57 ex_57 => ?_)
                                              try have tx_57 : x_57.toInt = x_34.toInt + 1 := by rw [ex_57]; exact gz_addP (x := x_34.toInt) (y := 1) rfl (by decide) (by omega) (by omega)
                                              refine gs_callv (va_runV (As := [.int x_45, .int x_57]) (rest := []) ⟨hx, hb, hml, hown, hts⟩ (m_dawn l G cy sK sV ad H.size st_54 hB_st_54.1 x_45 x_57 x_45.toInt x_57.toInt rfl rfl (by first | decide | omega) (by first | decide | omega) (by first | decide | omega) (by first | decide | omega) rs bk ((congrArg Int32.toInt ((((congrFun (congrFun (congrFun est_54 0) 0) 28).trans (gU_other (by decide))).trans (((congrFun (congrFun (congrFun est_46 0) 0) 28).trans (congrFun (congrFun (gU_k (by decide)) 0) 28)).trans ((n_43.2 0 0 28 (show (28 : Nat) ∉ _ from by decide)).trans (((congrFun (congrFun (congrFun est_41 0) 0) 28).trans (congrFun (congrFun (gU_k (by decide)) 0) 28)).trans (((congrFun (congrFun (congrFun est_40 0) 0) 28).trans (congrFun (congrFun (gU_k (by decide)) 0) 28)).trans (hB_sv25.2 0 0 28 (show (28 : Nat) ∉ _ from by decide))))))))).trans hbk) ((congrArg Int32.toInt ((((congrFun (congrFun (congrFun est_54 0) 0) 29).trans (gU_other (by decide))).trans (((congrFun (congrFun (congrFun est_46 0) 0) 29).trans (congrFun (congrFun (gU_k (by decide)) 0) 29)).trans ((n_43.2 0 0 29 (show (29 : Nat) ∉ _ from by decide)).trans (((congrFun (congrFun (congrFun est_41 0) 0) 29).trans (congrFun (congrFun (gU_k (by decide)) 0) 29)).trans (((congrFun (congrFun (congrFun est_40 0) 0) 29).trans (congrFun (congrFun (gU_k (by decide)) 0) 29)).trans (hB_sv25.2 0 0 29 (show (29 : Nat) ∉ _ from by decide))))))))).trans hru) (LM.all hLM (mA.trans (mA.trans (mA.trans (mA.trans (mA.trans (mA.trans mA.rf (mA.frame hB_sv25.2 (by decide))) (mA.upk est_40 (by decide))) (mA.upk est_41 (by decide))) (mA.frame n_43.2 (by decide))) (mA.upk est_46 (by decide))) (mA.upk est_54 (by decide))))) ⟨(gz_cb (n := 2) hts gm_1277 gm_12 gm_1280 ⟨by decide +kernel, by decide +kernel, by decide +kernel⟩ ⟨Nat.le_of_ble_eq_true rfl, Nat.le_of_ble_eq_true rfl⟩), hts _ gm_1279, hts _ gs_56⟩ (gs_preV hK hov hE hI hM hm hS hA 0 0 (by decide) rfl rfl) rfl rfl hl.1 rfl (lv_room (Nat.le_of_ble_eq_true rfl)) dX10_plan_536 ⟨Nat.le_of_ble_eq_true rfl, Nat.le_of_ble_eq_true rfl⟩) hm hS hA (fun st_58 H locs hw_58 hM hS => ?_)
                                              obtain ⟨n_58, hw_58⟩ := hw_58
                                              have hB_st_58 : gBN bM kM [0, 55, 56, 57, 58, 2900, 3000, 3100, 3200, 3300, 3400, 3500, 3600, 3700, 3800] st st_58 := hB_st_54.call n_58 (by decide)
                                              refine lv_goto (tgt := 195) hx hb dX10_plan_539 (by decide) ?_
                                              exact ih_25 st_58 (x_45 : Int32) H _ ls (by rw [show st_58 33 0 = (upd (upd (sv25 33 0) (y25_0.toNatClampNeg) (x_39 : Int32)) (x_45.toNatClampNeg) (0 : Int32)) from ((funext (fun j9 => n_58.2 33 0 j9 (show (3300 : Nat) ∉ _ from by decide))).trans ((congrFun (congrFun est_54 33) 0).trans ((congrFun (gU_k (by decide)) 0).trans ((congrFun (congrFun est_46 33) 0).trans ((gU_at _ _ _ _ _).trans (congrArg (fun f9 => upd f9 (x_45.toNatClampNeg) (0 : Int32)) ((funext (fun j9 => n_43.2 33 0 j9 (show (3300 : Nat) ∉ _ from by decide))).trans ((congrFun (congrFun est_41 33) 0).trans ((congrFun (gU_k (by decide)) 0).trans ((congrFun (congrFun est_40 33) 0).trans ((gU_at _ _ _ _ _).trans (congrArg (fun f9 => upd f9 (y25_0.toNatClampNeg) (x_39 : Int32)) rfl))))))))))))]; exact pMu_u (y := y25_0) (by omega) (by omega) (by omega) (show (0 : Int) ≤ _ ∧ _ ≤ (8 : Int) from hB_sv25.1 33 0 _) (by omega) (by omega) hme25) hB_st_58 (by omega) (by omega) hM hS (lv_sub hl [0, 5, 6, 7] rfl)
                                          · have ic_51 := gz_nle (rfl : x_48.toInt = x_48.toInt) (rfl : (sv25 0 0 58).toInt = (sv25 0 0 58).toInt) c_51
                                            have lc_51 := gi_hi x_48
                                            refine lv_iload_n hx hb dX10_plan_510 rfl (lv_at hl 0 rfl) ?_
                                            refine lv_iconst (v := 4) hx hb dX10_plan_511 (by decide) ?_
                                            refine lv_idiv hx hb dX10_plan_512 (by decide) ?_
                                            refine lv_topi (fun x_59 ex_59 => ?_)
                                            try have tx_59 := gs_div2 (y := 4) (by decide) (show 0 ≤ x_45.toInt from by omega) (by omega) ex_59
                                            refine lv_goto (tgt := 520) hx hb dX10_plan_513 (by decide) ?_
                                            refine gs_put (C := RX10) (T := TX10) (N := 59) (ty := .int) (val := .int x_59) hx hb hts inX10 tyX10 tyX10_ok nmX10 hown hK hI hm hM hS 0 0 58 (by decide) rfl rfl (by decide) (hts _ gm_959) (fun _ h9 => h9) rfl (x_59 : Int32) rfl (by decide +kernel) rfl rfl (Nat.le_of_ble_eq_true rfl) dX10_plan_520 (fun st_60 H locs est_60 hM hS => ?_)
                                            have hB_st_60 : gBN bM kM [0, 55, 56, 57, 58, 2900, 3000, 3100, 3200, 3300, 3400, 3500, 3600, 3700, 3800] st st_60 := by rw [est_60]; exact hB_st_46.up (show (58 : Nat) ∈ _ from by decide) (gi_lo _) (gi_hi _)
                                            refine lv_iload_n hx hb dX10_plan_523 rfl (lv_at hl 0 rfl) ?_
                                            refine lv_iconst (v := 4) hx hb dX10_plan_524 (by decide) ?_
                                            refine lv_iload_n hx hb dX10_plan_525 rfl (lv_at hl 6 rfl) ?_
                                            refine lv_imul hx hb dX10_plan_526 ?_
                                            refine lv_topi (fun x_61 ex_61 => ?_)
                                            try have tx_61 : x_61.toInt = 4 * x.toInt := by rw [ex_61]; exact gz_mulI (x := 4) (y := x.toInt) (by decide) rfl (by omega) (by omega)
                                            refine lv_icmp_ge (tgt := 539) hx hb dX10_plan_527 (by decide) (fun c_62 => ?_) (fun c_62 => ?_)
                                            · have ic_62 := gz_le (rfl : x_61.toInt = x_61.toInt) (rfl : x_45.toInt = x_45.toInt) c_62
                                              refine lv_goto (tgt := 195) hx hb dX10_plan_539 (by decide) ?_
                                              exact ih_25 st_60 (x_45 : Int32) H _ ls (by rw [show st_60 33 0 = (upd (upd (sv25 33 0) (y25_0.toNatClampNeg) (x_39 : Int32)) (x_45.toNatClampNeg) (0 : Int32)) from ((congrFun (congrFun est_60 33) 0).trans ((congrFun (gU_k (by decide)) 0).trans ((congrFun (congrFun est_46 33) 0).trans ((gU_at _ _ _ _ _).trans (congrArg (fun f9 => upd f9 (x_45.toNatClampNeg) (0 : Int32)) ((funext (fun j9 => n_43.2 33 0 j9 (show (3300 : Nat) ∉ _ from by decide))).trans ((congrFun (congrFun est_41 33) 0).trans ((congrFun (gU_k (by decide)) 0).trans ((congrFun (congrFun est_40 33) 0).trans ((gU_at _ _ _ _ _).trans (congrArg (fun f9 => upd f9 (y25_0.toNatClampNeg) (x_39 : Int32)) rfl)))))))))))]; exact pMu_u (y := y25_0) (by omega) (by omega) (by omega) (show (0 : Int) ≤ _ ∧ _ ≤ (8 : Int) from hB_sv25.1 33 0 _) (by omega) (by omega) hme25) hB_st_60 (by omega) (by omega) hM hS (lv_sub hl [0, 5, 6, 7] rfl)
                                            · have ic_62 := gz_nle (rfl : x_61.toInt = x_61.toInt) (rfl : x_45.toInt = x_45.toInt) c_62
                                              have lc_62 := gi_hi x_61
                                              refine lv_aload_n hx hb dX10_plan_530 rfl (lv_at hl 5 rfl) ?_
                                              refine lv_iload_n hx hb dX10_plan_531 rfl (lv_at hl 0 rfl) ?_
                                              refine lv_iload hx hb dX10_plan_532 (lv_at hl 3 rfl) ?_
                                              refine lv_iconst (v := 1) hx hb dX10_plan_534 (by decide) ?_
                                              refine lv_iadd hx hb dX10_plan_535 ?_
                                              refine lv_topi (fun x_63 ex_63 => ?_)
                                              try have tx_63 : x_63.toInt = x_34.toInt + 1 := by rw [ex_63]; exact gz_addP (x := x_34.toInt) (y := 1) rfl (by decide) (by omega) (by omega)
                                              refine gs_callv (va_runV (As := [.int x_45, .int x_63]) (rest := []) ⟨hx, hb, hml, hown, hts⟩ (m_dawn l G cy sK sV ad H.size st_60 hB_st_60.1 x_45 x_63 x_45.toInt x_63.toInt rfl rfl (by first | decide | omega) (by first | decide | omega) (by first | decide | omega) (by first | decide | omega) rs bk ((congrArg Int32.toInt ((((congrFun (congrFun (congrFun est_60 0) 0) 28).trans (gU_other (by decide))).trans (((congrFun (congrFun (congrFun est_46 0) 0) 28).trans (congrFun (congrFun (gU_k (by decide)) 0) 28)).trans ((n_43.2 0 0 28 (show (28 : Nat) ∉ _ from by decide)).trans (((congrFun (congrFun (congrFun est_41 0) 0) 28).trans (congrFun (congrFun (gU_k (by decide)) 0) 28)).trans (((congrFun (congrFun (congrFun est_40 0) 0) 28).trans (congrFun (congrFun (gU_k (by decide)) 0) 28)).trans (hB_sv25.2 0 0 28 (show (28 : Nat) ∉ _ from by decide))))))))).trans hbk) ((congrArg Int32.toInt ((((congrFun (congrFun (congrFun est_60 0) 0) 29).trans (gU_other (by decide))).trans (((congrFun (congrFun (congrFun est_46 0) 0) 29).trans (congrFun (congrFun (gU_k (by decide)) 0) 29)).trans ((n_43.2 0 0 29 (show (29 : Nat) ∉ _ from by decide)).trans (((congrFun (congrFun (congrFun est_41 0) 0) 29).trans (congrFun (congrFun (gU_k (by decide)) 0) 29)).trans (((congrFun (congrFun (congrFun est_40 0) 0) 29).trans (congrFun (congrFun (gU_k (by decide)) 0) 29)).trans (hB_sv25.2 0 0 29 (show (29 : Nat) ∉ _ from by decide))))))))).trans hru) (LM.all hLM (mA.trans (mA.trans (mA.trans (mA.trans (mA.trans (mA.trans mA.rf (mA.frame hB_sv25.2 (by decide))) (mA.upk est_40 (by decide))) (mA.upk est_41 (by decide))) (mA.frame n_43.2 (by decide))) (mA.upk est_46 (by decide))) (mA.upk est_60 (by decide))))) ⟨(gz_cb (n := 2) hts gm_1277 gm_12 gm_1280 ⟨by decide +kernel, by decide +kernel, by decide +kernel⟩ ⟨Nat.le_of_ble_eq_true rfl, Nat.le_of_ble_eq_true rfl⟩), hts _ gm_1279, hts _ gs_56⟩ (gs_preV hK hov hE hI hM hm hS hA 0 0 (by decide) rfl rfl) rfl rfl hl.1 rfl (lv_room (Nat.le_of_ble_eq_true rfl)) dX10_plan_536 ⟨Nat.le_of_ble_eq_true rfl, Nat.le_of_ble_eq_true rfl⟩) hm hS hA (fun st_64 H locs hw_64 hM hS => ?_)
                                              obtain ⟨n_64, hw_64⟩ := hw_64
                                              have hB_st_64 : gBN bM kM [0, 55, 56, 57, 58, 2900, 3000, 3100, 3200, 3300, 3400, 3500, 3600, 3700, 3800] st st_64 := hB_st_60.call n_64 (by decide)
                                              refine lv_goto (tgt := 195) hx hb dX10_plan_539 (by decide) ?_
                                              exact ih_25 st_64 (x_45 : Int32) H _ ls (by rw [show st_64 33 0 = (upd (upd (sv25 33 0) (y25_0.toNatClampNeg) (x_39 : Int32)) (x_45.toNatClampNeg) (0 : Int32)) from ((funext (fun j9 => n_64.2 33 0 j9 (show (3300 : Nat) ∉ _ from by decide))).trans ((congrFun (congrFun est_60 33) 0).trans ((congrFun (gU_k (by decide)) 0).trans ((congrFun (congrFun est_46 33) 0).trans ((gU_at _ _ _ _ _).trans (congrArg (fun f9 => upd f9 (x_45.toNatClampNeg) (0 : Int32)) ((funext (fun j9 => n_43.2 33 0 j9 (show (3300 : Nat) ∉ _ from by decide))).trans ((congrFun (congrFun est_41 33) 0).trans ((congrFun (gU_k (by decide)) 0).trans ((congrFun (congrFun est_40 33) 0).trans ((gU_at _ _ _ _ _).trans (congrArg (fun f9 => upd f9 (y25_0.toNatClampNeg) (x_39 : Int32)) rfl))))))))))))]; exact pMu_u (y := y25_0) (by omega) (by omega) (by omega) (show (0 : Int) ≤ _ ∧ _ ≤ (8 : Int) from hB_sv25.1 33 0 _) (by omega) (by omega) hme25) hB_st_64 (by omega) (by omega) hM hS (lv_sub hl [0, 5, 6, 7] rfl)
                                        · have ic_47 := gz_nle (by decide : (3 : Int32).toInt = 3) (rfl : x_29.toInt = x_29.toInt) c_47
                                          refine lv_goto (tgt := 195) hx hb dX10_plan_496 (by decide) ?_
                                          exact ih_25 st_46 (x_45 : Int32) H _ ls (by rw [show st_46 33 0 = (upd (upd (sv25 33 0) (y25_0.toNatClampNeg) (x_39 : Int32)) (x_45.toNatClampNeg) (0 : Int32)) from ((congrFun (congrFun est_46 33) 0).trans ((gU_at _ _ _ _ _).trans (congrArg (fun f9 => upd f9 (x_45.toNatClampNeg) (0 : Int32)) ((funext (fun j9 => n_43.2 33 0 j9 (show (3300 : Nat) ∉ _ from by decide))).trans ((congrFun (congrFun est_41 33) 0).trans ((congrFun (gU_k (by decide)) 0).trans ((congrFun (congrFun est_40 33) 0).trans ((gU_at _ _ _ _ _).trans (congrArg (fun f9 => upd f9 (y25_0.toNatClampNeg) (x_39 : Int32)) rfl)))))))))]; exact pMu_u (y := y25_0) (by omega) (by omega) (by omega) (show (0 : Int) ≤ _ ∧ _ ≤ (8 : Int) from hB_sv25.1 33 0 _) (by omega) (by omega) hme25) hB_st_46 (by omega) (by omega) hM hS (lv_sub hl [0, 5, 6, 7] rfl)
                                      · have ic_44 := gz_eqn (rfl : x_29.toInt = x_29.toInt) (by decide : (3 : Int32).toInt = 3) c_44
                                        refine lv_aload_n hx hb dX10_plan_465 rfl (lv_at hl 5 rfl) ?_
                                        refine lv_iload_n hx hb dX10_plan_466 rfl (lv_at hl 4 rfl) ?_
                                        refine lv_iconst (v := 1) hx hb dX10_plan_467 (by decide) ?_
                                        refine lv_iadd hx hb dX10_plan_468 ?_
                                        refine lv_topi (fun x_65 ex_65 => ?_)
                                        try have tx_65 : x_65.toInt = y25_0.toInt + 1 := by rw [ex_65]; exact gz_addP (x := y25_0.toInt) (y := 1) rfl (by decide) (by omega) (by omega)
                                        refine lv_iload hx hb dX10_plan_469 (lv_at hl 2 rfl) ?_
                                        refine gs_calli (va_runV (As := [.int x_65, .int x_34]) (rest := []) ⟨hx, hb, hml, hown, hts⟩ (m_isGood l G cy sK sV ad H.size st_43 hB_st_43.1 x_65 x_34 x_65.toInt x_34.toInt rfl rfl (by first | decide | omega) (by first | decide | omega)) ⟨(gz_cb (n := 2) hts gm_1289 gm_12 gm_1292 ⟨by decide +kernel, by decide +kernel, by decide +kernel⟩ ⟨Nat.le_of_ble_eq_true rfl, Nat.le_of_ble_eq_true rfl⟩), hts _ gm_1291, hts _ gs_59⟩ (gs_preV hK hov hE hI hM hm hS hA 0 0 (by decide) rfl rfl) rfl rfl hl.1 rfl (lv_room (Nat.le_of_ble_eq_true rfl)) dX10_plan_471 ⟨Nat.le_of_ble_eq_true rfl, Nat.le_of_ble_eq_true rfl⟩) hm hS hA (fun r_66 st_66 H locs hw_66 hM hS => ?_)
                                        obtain ⟨n_66, hw_66⟩ := hw_66
                                        have n_66 := gBN.nil n_66
                                        subst n_66
                                        rcases hw_66 with rfl | rfl
                                        · skip
                                          refine lv_if_ne (tgt := 480) hx hb dX10_plan_474 (by decide) (fun _ => ?_) (fun h9 => absurd h9 (by decide))
                                          obtain ⟨x_67, ex_67⟩ : ∃ y : Int32, y = y25_0 + 1 := ⟨_, rfl⟩
                                          try have tx_67 : x_67.toInt = y25_0.toInt + 1 := by rw [ex_67]; exact gz_addP (x := y25_0.toInt) (y := 1) rfl (by decide) (by omega) (by omega)
                                          refine lv_iinc (v := (x_67)) (lv' := [(3, .int x_67), (7, .int x_37), (6, .int 0), (5, .int x_34), (4, .int x_29), (0, .ref (ad 0 0)), (1, .int x), (2, .int y)]) hx hb dX10_plan_480 hl (k := 4) rfl (by rw [ex_67]; rfl) (by decide) rfl (fun ls hl => ?_)
                                          refine lv_aload_n hx hb dX10_plan_483 rfl (lv_at hl 5 rfl) ?_
                                          refine gs_get (C := RX10) (T := TX10) (N := 59) hx hb hts inX10 hown hK hM 0 0 49 (by decide) rfl rfl (by decide) (hts _ gm_950) (fun _ h9 => h9) rfl dX10_plan_484 ?_
                                          refine lv_iload_n hx hb dX10_plan_487 rfl (lv_at hl 0 rfl) ?_
                                          refine lv_iconst (v := 0) hx hb dX10_plan_488 (by decide) ?_
                                          refine gs_iast hx hb hK hI hm hM hS 33 0 (by decide) (fun _ => rfl) (vp_in_iff.mpr ⟨by omega, by omega⟩) dX10_plan_489 (fun st_68 H locs est_68 hM hS => ?_)
                                          have hB_st_68 : gBN bM kM [0, 55, 56, 57, 58, 2900, 3000, 3100, 3200, 3300, 3400, 3500, 3600, 3700, 3800] st st_68 := by rw [est_68]; exact hB_st_43.up (show (3300 : Nat) ∈ _ from by decide) (show (0 : Int) ≤ ((0 : Int32)).toInt from by decide) (show ((0 : Int32)).toInt ≤ (8 : Int) from by decide)
                                          refine lv_iload hx hb dX10_plan_490 (lv_at hl 4 rfl) ?_
                                          refine lv_iconst (v := 3) hx hb dX10_plan_492 (by decide) ?_
                                          refine lv_icmp_ge (tgt := 499) hx hb dX10_plan_493 (by decide) (fun c_69 => ?_) (fun c_69 => ?_)
                                          · have ic_69 := gz_le (by decide : (3 : Int32).toInt = 3) (rfl : x_29.toInt = x_29.toInt) c_69
                                            refine lv_aload_n hx hb dX10_plan_499 rfl (lv_at hl 5 rfl) ?_
                                            refine lv_iload_n hx hb dX10_plan_500 rfl (lv_at hl 0 rfl) ?_
                                            refine lv_iconst (v := 4) hx hb dX10_plan_501 (by decide) ?_
                                            refine lv_idiv hx hb dX10_plan_502 (by decide) ?_
                                            refine lv_topi (fun x_70 ex_70 => ?_)
                                            try have tx_70 := gs_div2 (y := 4) (by decide) (show 0 ≤ x_67.toInt from by omega) (by omega) ex_70
                                            refine lv_aload_n hx hb dX10_plan_503 rfl (lv_at hl 5 rfl) ?_
                                            refine gs_get (C := RX10) (T := TX10) (N := 59) hx hb hts inX10 hown hK hM 0 0 58 (by decide) rfl rfl (by decide) (hts _ gm_959) (fun _ h9 => h9) rfl dX10_plan_504 ?_
                                            refine lv_topi (fun x_71 ex_71 => ?_)
                                            have ex_71 : (sv25 0 0 58) = x_71 := Eq.symm (ex_71.trans (((congrFun (congrFun (congrFun est_68 0) 0) 58).trans (congrFun (congrFun (gU_k (by decide)) 0) 58)).trans ((n_43.2 0 0 58 (show (58 : Nat) ∉ _ from by decide)).trans (((congrFun (congrFun (congrFun est_41 0) 0) 58).trans (congrFun (congrFun (gU_k (by decide)) 0) 58)).trans ((congrFun (congrFun (congrFun est_40 0) 0) 58).trans (congrFun (congrFun (gU_k (by decide)) 0) 58))))))
                                            subst ex_71
                                            refine lv_icmp_le (tgt := 516) hx hb dX10_plan_507 (by decide) (fun c_73 => ?_) (fun c_73 => ?_)
                                            · have ic_73 := gz_le (rfl : x_70.toInt = x_70.toInt) (rfl : (sv25 0 0 58).toInt = (sv25 0 0 58).toInt) c_73
                                              refine lv_aload_n hx hb dX10_plan_516 rfl (lv_at hl 5 rfl) ?_
                                              refine gs_get (C := RX10) (T := TX10) (N := 59) hx hb hts inX10 hown hK hM 0 0 58 (by decide) rfl rfl (by decide) (hts _ gm_959) (fun _ h9 => h9) rfl dX10_plan_517 ?_
                                              refine lv_topi (fun x_74 ex_74 => ?_)
                                              have ex_74 : (sv25 0 0 58) = x_74 := Eq.symm (ex_74.trans (((congrFun (congrFun (congrFun est_68 0) 0) 58).trans (congrFun (congrFun (gU_k (by decide)) 0) 58)).trans ((n_43.2 0 0 58 (show (58 : Nat) ∉ _ from by decide)).trans (((congrFun (congrFun (congrFun est_41 0) 0) 58).trans (congrFun (congrFun (gU_k (by decide)) 0) 58)).trans ((congrFun (congrFun (congrFun est_40 0) 0) 58).trans (congrFun (congrFun (gU_k (by decide)) 0) 58))))))
                                              subst ex_74
                                              refine gs_put (C := RX10) (T := TX10) (N := 59) (ty := .int) (val := .int (sv25 0 0 58)) hx hb hts inX10 tyX10 tyX10_ok nmX10 hown hK hI hm hM hS 0 0 58 (by decide) rfl rfl (by decide) (hts _ gm_959) (fun _ h9 => h9) rfl ((sv25 0 0 58) : Int32) rfl (by decide +kernel) rfl rfl (Nat.le_of_ble_eq_true rfl) dX10_plan_520 (fun st_76 H locs est_76 hM hS => ?_)
                                              have hB_st_76 : gBN bM kM [0, 55, 56, 57, 58, 2900, 3000, 3100, 3200, 3300, 3400, 3500, 3600, 3700, 3800] st st_76 := by rw [est_76]; exact hB_st_68.up (show (58 : Nat) ∈ _ from by decide) (gi_lo _) (gi_hi _)
                                              refine lv_iload_n hx hb dX10_plan_523 rfl (lv_at hl 0 rfl) ?_
                                              refine lv_iconst (v := 4) hx hb dX10_plan_524 (by decide) ?_
                                              refine lv_iload_n hx hb dX10_plan_525 rfl (lv_at hl 6 rfl) ?_
                                              refine lv_imul hx hb dX10_plan_526 ?_
                                              refine lv_topi (fun x_77 ex_77 => ?_)
                                              try have tx_77 : x_77.toInt = 4 * x.toInt := by rw [ex_77]; exact gz_mulI (x := 4) (y := x.toInt) (by decide) rfl (by omega) (by omega)
                                              refine lv_icmp_ge (tgt := 539) hx hb dX10_plan_527 (by decide) (fun c_78 => ?_) (fun c_78 => ?_)
                                              · have ic_78 := gz_le (rfl : x_77.toInt = x_77.toInt) (rfl : x_67.toInt = x_67.toInt) c_78
                                                refine lv_goto (tgt := 195) hx hb dX10_plan_539 (by decide) ?_
                                                exact ih_25 st_76 (x_67 : Int32) H _ ls (by rw [show st_76 33 0 = (upd (upd (sv25 33 0) (y25_0.toNatClampNeg) (x_39 : Int32)) (x_67.toNatClampNeg) (0 : Int32)) from ((congrFun (congrFun est_76 33) 0).trans ((congrFun (gU_k (by decide)) 0).trans ((congrFun (congrFun est_68 33) 0).trans ((gU_at _ _ _ _ _).trans (congrArg (fun f9 => upd f9 (x_67.toNatClampNeg) (0 : Int32)) ((funext (fun j9 => n_43.2 33 0 j9 (show (3300 : Nat) ∉ _ from by decide))).trans ((congrFun (congrFun est_41 33) 0).trans ((congrFun (gU_k (by decide)) 0).trans ((congrFun (congrFun est_40 33) 0).trans ((gU_at _ _ _ _ _).trans (congrArg (fun f9 => upd f9 (y25_0.toNatClampNeg) (x_39 : Int32)) rfl)))))))))))]; exact pMu_u (y := y25_0) (by omega) (by omega) (by omega) (show (0 : Int) ≤ _ ∧ _ ≤ (8 : Int) from hB_sv25.1 33 0 _) (by omega) (by omega) hme25) hB_st_76 (by omega) (by omega) hM hS (lv_sub hl [0, 5, 6, 7] rfl)
                                              · have ic_78 := gz_nle (rfl : x_77.toInt = x_77.toInt) (rfl : x_67.toInt = x_67.toInt) c_78
                                                have lc_78 := gi_hi x_77
                                                refine lv_aload_n hx hb dX10_plan_530 rfl (lv_at hl 5 rfl) ?_
                                                refine lv_iload_n hx hb dX10_plan_531 rfl (lv_at hl 0 rfl) ?_
                                                refine lv_iload hx hb dX10_plan_532 (lv_at hl 3 rfl) ?_
                                                refine lv_iconst (v := 1) hx hb dX10_plan_534 (by decide) ?_
                                                refine lv_iadd hx hb dX10_plan_535 ?_
                                                refine lv_topi (fun x_79 ex_79 => ?_)
                                                try have tx_79 : x_79.toInt = x_34.toInt + 1 := by rw [ex_79]; exact gz_addP (x := x_34.toInt) (y := 1) rfl (by decide) (by omega) (by omega)
                                                refine gs_callv (va_runV (As := [.int x_67, .int x_79]) (rest := []) ⟨hx, hb, hml, hown, hts⟩ (m_dawn l G cy sK sV ad H.size st_76 hB_st_76.1 x_67 x_79 x_67.toInt x_79.toInt rfl rfl (by first | decide | omega) (by first | decide | omega) (by first | decide | omega) (by first | decide | omega) rs bk ((congrArg Int32.toInt ((((congrFun (congrFun (congrFun est_76 0) 0) 28).trans (gU_other (by decide))).trans (((congrFun (congrFun (congrFun est_68 0) 0) 28).trans (congrFun (congrFun (gU_k (by decide)) 0) 28)).trans ((n_43.2 0 0 28 (show (28 : Nat) ∉ _ from by decide)).trans (((congrFun (congrFun (congrFun est_41 0) 0) 28).trans (congrFun (congrFun (gU_k (by decide)) 0) 28)).trans (((congrFun (congrFun (congrFun est_40 0) 0) 28).trans (congrFun (congrFun (gU_k (by decide)) 0) 28)).trans (hB_sv25.2 0 0 28 (show (28 : Nat) ∉ _ from by decide))))))))).trans hbk) ((congrArg Int32.toInt ((((congrFun (congrFun (congrFun est_76 0) 0) 29).trans (gU_other (by decide))).trans (((congrFun (congrFun (congrFun est_68 0) 0) 29).trans (congrFun (congrFun (gU_k (by decide)) 0) 29)).trans ((n_43.2 0 0 29 (show (29 : Nat) ∉ _ from by decide)).trans (((congrFun (congrFun (congrFun est_41 0) 0) 29).trans (congrFun (congrFun (gU_k (by decide)) 0) 29)).trans (((congrFun (congrFun (congrFun est_40 0) 0) 29).trans (congrFun (congrFun (gU_k (by decide)) 0) 29)).trans (hB_sv25.2 0 0 29 (show (29 : Nat) ∉ _ from by decide))))))))).trans hru) (LM.all hLM (mA.trans (mA.trans (mA.trans (mA.trans (mA.trans (mA.trans mA.rf (mA.frame hB_sv25.2 (by decide))) (mA.upk est_40 (by decide))) (mA.upk est_41 (by decide))) (mA.frame n_43.2 (by decide))) (mA.upk est_68 (by decide))) (mA.upk est_76 (by decide))))) ⟨(gz_cb (n := 2) hts gm_1277 gm_12 gm_1280 ⟨by decide +kernel, by decide +kernel, by decide +kernel⟩ ⟨Nat.le_of_ble_eq_true rfl, Nat.le_of_ble_eq_true rfl⟩), hts _ gm_1279, hts _ gs_56⟩ (gs_preV hK hov hE hI hM hm hS hA 0 0 (by decide) rfl rfl) rfl rfl hl.1 rfl (lv_room (Nat.le_of_ble_eq_true rfl)) dX10_plan_536 ⟨Nat.le_of_ble_eq_true rfl, Nat.le_of_ble_eq_true rfl⟩) hm hS hA (fun st_80 H locs hw_80 hM hS => ?_)
                                                obtain ⟨n_80, hw_80⟩ := hw_80
                                                have hB_st_80 : gBN bM kM [0, 55, 56, 57, 58, 2900, 3000, 3100, 3200, 3300, 3400, 3500, 3600, 3700, 3800] st st_80 := hB_st_76.call n_80 (by decide)
                                                refine lv_goto (tgt := 195) hx hb dX10_plan_539 (by decide) ?_
                                                exact ih_25 st_80 (x_67 : Int32) H _ ls (by rw [show st_80 33 0 = (upd (upd (sv25 33 0) (y25_0.toNatClampNeg) (x_39 : Int32)) (x_67.toNatClampNeg) (0 : Int32)) from ((funext (fun j9 => n_80.2 33 0 j9 (show (3300 : Nat) ∉ _ from by decide))).trans ((congrFun (congrFun est_76 33) 0).trans ((congrFun (gU_k (by decide)) 0).trans ((congrFun (congrFun est_68 33) 0).trans ((gU_at _ _ _ _ _).trans (congrArg (fun f9 => upd f9 (x_67.toNatClampNeg) (0 : Int32)) ((funext (fun j9 => n_43.2 33 0 j9 (show (3300 : Nat) ∉ _ from by decide))).trans ((congrFun (congrFun est_41 33) 0).trans ((congrFun (gU_k (by decide)) 0).trans ((congrFun (congrFun est_40 33) 0).trans ((gU_at _ _ _ _ _).trans (congrArg (fun f9 => upd f9 (y25_0.toNatClampNeg) (x_39 : Int32)) rfl))))))))))))]; exact pMu_u (y := y25_0) (by omega) (by omega) (by omega) (show (0 : Int) ≤ _ ∧ _ ≤ (8 : Int) from hB_sv25.1 33 0 _) (by omega) (by omega) hme25) hB_st_80 (by omega) (by omega) hM hS (lv_sub hl [0, 5, 6, 7] rfl)
                                            · have ic_73 := gz_nle (rfl : x_70.toInt = x_70.toInt) (rfl : (sv25 0 0 58).toInt = (sv25 0 0 58).toInt) c_73
                                              have lc_73 := gi_hi x_70
                                              refine lv_iload_n hx hb dX10_plan_510 rfl (lv_at hl 0 rfl) ?_
                                              refine lv_iconst (v := 4) hx hb dX10_plan_511 (by decide) ?_
                                              refine lv_idiv hx hb dX10_plan_512 (by decide) ?_
                                              refine lv_topi (fun x_81 ex_81 => ?_)
                                              try have tx_81 := gs_div2 (y := 4) (by decide) (show 0 ≤ x_67.toInt from by omega) (by omega) ex_81
                                              refine lv_goto (tgt := 520) hx hb dX10_plan_513 (by decide) ?_
                                              refine gs_put (C := RX10) (T := TX10) (N := 59) (ty := .int) (val := .int x_81) hx hb hts inX10 tyX10 tyX10_ok nmX10 hown hK hI hm hM hS 0 0 58 (by decide) rfl rfl (by decide) (hts _ gm_959) (fun _ h9 => h9) rfl (x_81 : Int32) rfl (by decide +kernel) rfl rfl (Nat.le_of_ble_eq_true rfl) dX10_plan_520 (fun st_82 H locs est_82 hM hS => ?_)
                                              have hB_st_82 : gBN bM kM [0, 55, 56, 57, 58, 2900, 3000, 3100, 3200, 3300, 3400, 3500, 3600, 3700, 3800] st st_82 := by rw [est_82]; exact hB_st_68.up (show (58 : Nat) ∈ _ from by decide) (gi_lo _) (gi_hi _)
                                              refine lv_iload_n hx hb dX10_plan_523 rfl (lv_at hl 0 rfl) ?_
                                              refine lv_iconst (v := 4) hx hb dX10_plan_524 (by decide) ?_
                                              refine lv_iload_n hx hb dX10_plan_525 rfl (lv_at hl 6 rfl) ?_
                                              refine lv_imul hx hb dX10_plan_526 ?_
                                              refine lv_topi (fun x_83 ex_83 => ?_)
                                              try have tx_83 : x_83.toInt = 4 * x.toInt := by rw [ex_83]; exact gz_mulI (x := 4) (y := x.toInt) (by decide) rfl (by omega) (by omega)
                                              refine lv_icmp_ge (tgt := 539) hx hb dX10_plan_527 (by decide) (fun c_84 => ?_) (fun c_84 => ?_)
                                              · have ic_84 := gz_le (rfl : x_83.toInt = x_83.toInt) (rfl : x_67.toInt = x_67.toInt) c_84
                                                refine lv_goto (tgt := 195) hx hb dX10_plan_539 (by decide) ?_
                                                exact ih_25 st_82 (x_67 : Int32) H _ ls (by rw [show st_82 33 0 = (upd (upd (sv25 33 0) (y25_0.toNatClampNeg) (x_39 : Int32)) (x_67.toNatClampNeg) (0 : Int32)) from ((congrFun (congrFun est_82 33) 0).trans ((congrFun (gU_k (by decide)) 0).trans ((congrFun (congrFun est_68 33) 0).trans ((gU_at _ _ _ _ _).trans (congrArg (fun f9 => upd f9 (x_67.toNatClampNeg) (0 : Int32)) ((funext (fun j9 => n_43.2 33 0 j9 (show (3300 : Nat) ∉ _ from by decide))).trans ((congrFun (congrFun est_41 33) 0).trans ((congrFun (gU_k (by decide)) 0).trans ((congrFun (congrFun est_40 33) 0).trans ((gU_at _ _ _ _ _).trans (congrArg (fun f9 => upd f9 (y25_0.toNatClampNeg) (x_39 : Int32)) rfl)))))))))))]; exact pMu_u (y := y25_0) (by omega) (by omega) (by omega) (show (0 : Int) ≤ _ ∧ _ ≤ (8 : Int) from hB_sv25.1 33 0 _) (by omega) (by omega) hme25) hB_st_82 (by omega) (by omega) hM hS (lv_sub hl [0, 5, 6, 7] rfl)
                                              · have ic_84 := gz_nle (rfl : x_83.toInt = x_83.toInt) (rfl : x_67.toInt = x_67.toInt) c_84
                                                have lc_84 := gi_hi x_83
                                                refine lv_aload_n hx hb dX10_plan_530 rfl (lv_at hl 5 rfl) ?_
                                                refine lv_iload_n hx hb dX10_plan_531 rfl (lv_at hl 0 rfl) ?_
                                                refine lv_iload hx hb dX10_plan_532 (lv_at hl 3 rfl) ?_
                                                refine lv_iconst (v := 1) hx hb dX10_plan_534 (by decide) ?_
                                                refine lv_iadd hx hb dX10_plan_535 ?_
                                                refine lv_topi (fun x_85 ex_85 => ?_)
                                                try have tx_85 : x_85.toInt = x_34.toInt + 1 := by rw [ex_85]; exact gz_addP (x := x_34.toInt) (y := 1) rfl (by decide) (by omega) (by omega)
                                                refine gs_callv (va_runV (As := [.int x_67, .int x_85]) (rest := []) ⟨hx, hb, hml, hown, hts⟩ (m_dawn l G cy sK sV ad H.size st_82 hB_st_82.1 x_67 x_85 x_67.toInt x_85.toInt rfl rfl (by first | decide | omega) (by first | decide | omega) (by first | decide | omega) (by first | decide | omega) rs bk ((congrArg Int32.toInt ((((congrFun (congrFun (congrFun est_82 0) 0) 28).trans (gU_other (by decide))).trans (((congrFun (congrFun (congrFun est_68 0) 0) 28).trans (congrFun (congrFun (gU_k (by decide)) 0) 28)).trans ((n_43.2 0 0 28 (show (28 : Nat) ∉ _ from by decide)).trans (((congrFun (congrFun (congrFun est_41 0) 0) 28).trans (congrFun (congrFun (gU_k (by decide)) 0) 28)).trans (((congrFun (congrFun (congrFun est_40 0) 0) 28).trans (congrFun (congrFun (gU_k (by decide)) 0) 28)).trans (hB_sv25.2 0 0 28 (show (28 : Nat) ∉ _ from by decide))))))))).trans hbk) ((congrArg Int32.toInt ((((congrFun (congrFun (congrFun est_82 0) 0) 29).trans (gU_other (by decide))).trans (((congrFun (congrFun (congrFun est_68 0) 0) 29).trans (congrFun (congrFun (gU_k (by decide)) 0) 29)).trans ((n_43.2 0 0 29 (show (29 : Nat) ∉ _ from by decide)).trans (((congrFun (congrFun (congrFun est_41 0) 0) 29).trans (congrFun (congrFun (gU_k (by decide)) 0) 29)).trans (((congrFun (congrFun (congrFun est_40 0) 0) 29).trans (congrFun (congrFun (gU_k (by decide)) 0) 29)).trans (hB_sv25.2 0 0 29 (show (29 : Nat) ∉ _ from by decide))))))))).trans hru) (LM.all hLM (mA.trans (mA.trans (mA.trans (mA.trans (mA.trans (mA.trans mA.rf (mA.frame hB_sv25.2 (by decide))) (mA.upk est_40 (by decide))) (mA.upk est_41 (by decide))) (mA.frame n_43.2 (by decide))) (mA.upk est_68 (by decide))) (mA.upk est_82 (by decide))))) ⟨(gz_cb (n := 2) hts gm_1277 gm_12 gm_1280 ⟨by decide +kernel, by decide +kernel, by decide +kernel⟩ ⟨Nat.le_of_ble_eq_true rfl, Nat.le_of_ble_eq_true rfl⟩), hts _ gm_1279, hts _ gs_56⟩ (gs_preV hK hov hE hI hM hm hS hA 0 0 (by decide) rfl rfl) rfl rfl hl.1 rfl (lv_room (Nat.le_of_ble_eq_true rfl)) dX10_plan_536 ⟨Nat.le_of_ble_eq_true rfl, Nat.le_of_ble_eq_true rfl⟩) hm hS hA (fun st_86 H locs hw_86 hM hS => ?_)
                                                obtain ⟨n_86, hw_86⟩ := hw_86
                                                have hB_st_86 : gBN bM kM [0, 55, 56, 57, 58, 2900, 3000, 3100, 3200, 3300, 3400, 3500, 3600, 3700, 3800] st st_86 := hB_st_82.call n_86 (by decide)
                                                refine lv_goto (tgt := 195) hx hb dX10_plan_539 (by decide) ?_
                                                exact ih_25 st_86 (x_67 : Int32) H _ ls (by rw [show st_86 33 0 = (upd (upd (sv25 33 0) (y25_0.toNatClampNeg) (x_39 : Int32)) (x_67.toNatClampNeg) (0 : Int32)) from ((funext (fun j9 => n_86.2 33 0 j9 (show (3300 : Nat) ∉ _ from by decide))).trans ((congrFun (congrFun est_82 33) 0).trans ((congrFun (gU_k (by decide)) 0).trans ((congrFun (congrFun est_68 33) 0).trans ((gU_at _ _ _ _ _).trans (congrArg (fun f9 => upd f9 (x_67.toNatClampNeg) (0 : Int32)) ((funext (fun j9 => n_43.2 33 0 j9 (show (3300 : Nat) ∉ _ from by decide))).trans ((congrFun (congrFun est_41 33) 0).trans ((congrFun (gU_k (by decide)) 0).trans ((congrFun (congrFun est_40 33) 0).trans ((gU_at _ _ _ _ _).trans (congrArg (fun f9 => upd f9 (y25_0.toNatClampNeg) (x_39 : Int32)) rfl))))))))))))]; exact pMu_u (y := y25_0) (by omega) (by omega) (by omega) (show (0 : Int) ≤ _ ∧ _ ≤ (8 : Int) from hB_sv25.1 33 0 _) (by omega) (by omega) hme25) hB_st_86 (by omega) (by omega) hM hS (lv_sub hl [0, 5, 6, 7] rfl)
                                          · have ic_69 := gz_nle (by decide : (3 : Int32).toInt = 3) (rfl : x_29.toInt = x_29.toInt) c_69
                                            refine lv_goto (tgt := 195) hx hb dX10_plan_496 (by decide) ?_
                                            exact ih_25 st_68 (x_67 : Int32) H _ ls (by rw [show st_68 33 0 = (upd (upd (sv25 33 0) (y25_0.toNatClampNeg) (x_39 : Int32)) (x_67.toNatClampNeg) (0 : Int32)) from ((congrFun (congrFun est_68 33) 0).trans ((gU_at _ _ _ _ _).trans (congrArg (fun f9 => upd f9 (x_67.toNatClampNeg) (0 : Int32)) ((funext (fun j9 => n_43.2 33 0 j9 (show (3300 : Nat) ∉ _ from by decide))).trans ((congrFun (congrFun est_41 33) 0).trans ((congrFun (gU_k (by decide)) 0).trans ((congrFun (congrFun est_40 33) 0).trans ((gU_at _ _ _ _ _).trans (congrArg (fun f9 => upd f9 (y25_0.toNatClampNeg) (x_39 : Int32)) rfl)))))))))]; exact pMu_u (y := y25_0) (by omega) (by omega) (by omega) (show (0 : Int) ≤ _ ∧ _ ≤ (8 : Int) from hB_sv25.1 33 0 _) (by omega) (by omega) hme25) hB_st_68 (by omega) (by omega) hM hS (lv_sub hl [0, 5, 6, 7] rfl)
                                        · skip
                                          refine lv_if_ne (tgt := 480) hx hb dX10_plan_474 (by decide) (fun h9 => absurd (by decide) h9) (fun _ => ?_)
                                          refine lv_goto (tgt := 195) hx hb dX10_plan_477 (by decide) ?_
                                          exact ih_25 st_43 (y25_0 : Int32) H _ ls (by rw [show st_43 33 0 = (upd (sv25 33 0) (y25_0.toNatClampNeg) (x_39 : Int32)) from ((funext (fun j9 => n_43.2 33 0 j9 (show (3300 : Nat) ∉ _ from by decide))).trans ((congrFun (congrFun est_41 33) 0).trans ((congrFun (gU_k (by decide)) 0).trans ((congrFun (congrFun est_40 33) 0).trans ((gU_at _ _ _ _ _).trans (congrArg (fun f9 => upd f9 (y25_0.toNatClampNeg) (x_39 : Int32)) rfl))))))]; exact pMu_s (y := y25_0) (by omega) (show (0 : Int) ≤ _ ∧ _ ≤ (8 : Int) from hB_sv25.1 33 0 _) (by omega) hme25) hB_st_43 (by omega) (by omega) hM hS (lv_sub hl [4, 5, 6, 7] rfl)
                                    · have ic_38 := gz_nlt (rfl : x_37.toInt = x_37.toInt) (by decide : (1 : Int32).toInt = 1) c_38
                                      obtain ⟨x_87, ex_87⟩ : ∃ y : Int32, y = y25_0 + (-1) := ⟨_, rfl⟩
                                      try have tx_87 : x_87.toInt = y25_0.toInt + (-1) := by rw [ex_87]; exact gz_addI (x := y25_0.toInt) (y := (-1)) rfl (by decide) (by omega) (by omega)
                                      refine lv_iinc (v := (x_87)) (lv' := [(3, .int x_87), (7, .int x_37), (6, .int 0), (5, .int x_34), (4, .int x_29), (0, .ref (ad 0 0)), (1, .int x), (2, .int y)]) hx hb dX10_plan_385 hl (k := 4) rfl (by rw [ex_87]; rfl) (by decide) rfl (fun ls hl => ?_)
                                      refine lv_goto (tgt := 195) hx hb dX10_plan_388 (by decide) ?_
                                      exact ih_25 sv25 (x_87 : Int32) H _ ls (by exact pMu_d (y := y25_0) (by omega) (by omega) (show (0 : Int) ≤ _ ∧ _ ≤ (8 : Int) from hB_sv25.1 33 0 _) hme25) hB_sv25 (by omega) (by omega) hM hS (lv_sub hl [0, 5, 6, 7] rfl)
                                  · have ic_36 := gz_ne (rfl : x_35.toInt = x_35.toInt) (by decide : (0 : Int32).toInt = 0) c_36
                                    refine lv_aload_n hx hb dX10_plan_308 rfl (lv_at hl 3 rfl) ?_
                                    refine gs_get (C := RX10) (T := TX10) (N := 59) hx hb hts inX10 hown hK hM 0 0 47 (by decide) rfl rfl (by decide) (hts _ gm_948) (fun _ h9 => h9) rfl dX10_plan_309 ?_
                                    refine lv_iconst (v := 4) hx hb dX10_plan_312 (by decide) ?_
                                    refine lv_iload_n hx hb dX10_plan_313 rfl (lv_at hl 2 rfl) ?_
                                    refine lv_imul hx hb dX10_plan_314 ?_
                                    refine lv_topi (fun x_88 ex_88 => ?_)
                                    try have tx_88 : x_88.toInt = 4 * y25_0.toInt := by rw [ex_88]; exact gz_mulI (x := 4) (y := y25_0.toInt) (by decide) rfl (by omega) (by omega)
                                    refine lv_iload hx hb dX10_plan_315 (lv_at hl 1 rfl) ?_
                                    refine lv_iadd hx hb dX10_plan_317 ?_
                                    refine lv_topi (fun x_89 ex_89 => ?_)
                                    try have tx_89 : x_89.toInt = x_88.toInt + x_29.toInt := by rw [ex_89]; exact gz_addI (x := x_88.toInt) (y := x_29.toInt) rfl rfl (by omega) (by omega)
                                    refine gs_iald hx hb hK hM 31 0 (by decide) rfl (vp_in_iff.mpr ⟨by omega, by omega⟩) dX10_plan_318 ?_
                                    refine lv_topi (fun x_90 ex_90 => ?_)
                                    have qx_90 : x_90.toInt = (sv25 31 0 (x_89.toNatClampNeg)).toInt := congrArg Int32.toInt ex_90
                                    refine lv_iload hx hb dX10_plan_319 (lv_at hl 0 rfl) ?_
                                    refine lv_icmp_gt (tgt := 328) hx hb dX10_plan_321 (by decide) (fun c_91 => ?_) (fun c_91 => ?_)
                                    · have ic_91 := gz_lt (rfl : x_34.toInt = x_34.toInt) (rfl : x_90.toInt = x_90.toInt) c_91
                                      have lc_91 := gi_hi x_90
                                      refine lv_iconst (v := 0) hx hb dX10_plan_328 (by decide) ?_
                                      refine lv_istore (lv' := [(6, .int 0), (5, .int x_34), (4, .int x_29), (3, .int y25_0), (0, .ref (ad 0 0)), (1, .int x), (2, .int y)]) hx hb dX10_plan_329 hl (by decide) rfl (fun ls hl => ?_)
                                      refine lv_aload_n hx hb dX10_plan_331 rfl (lv_at hl 4 rfl) ?_
                                      refine gs_get (C := RX10) (T := TX10) (N := 59) hx hb hts inX10 hown hK hM 0 0 49 (by decide) rfl rfl (by decide) (hts _ gm_950) (fun _ h9 => h9) rfl dX10_plan_332 ?_
                                      refine lv_iload_n hx hb dX10_plan_335 rfl (lv_at hl 3 rfl) ?_
                                      refine gs_iald hx hb hK hM 33 0 (by decide) rfl (vp_in_iff.mpr ⟨by omega, by omega⟩) dX10_plan_336 ?_
                                      refine lv_topi (fun x_92 ex_92 => ?_)
                                      have qx_92 : x_92.toInt = (sv25 33 0 (y25_0.toNatClampNeg)).toInt := congrArg Int32.toInt ex_92
                                      have bx_92 : (0 : Int) ≤ x_92.toInt ∧ x_92.toInt ≤ (8 : Int) := by rw [qx_92]; exact hB_sv25.1 33 0 (y25_0.toNatClampNeg)
                                      refine lv_istore (lv' := [(7, .int x_92), (6, .int 0), (5, .int x_34), (4, .int x_29), (3, .int y25_0), (0, .ref (ad 0 0)), (1, .int x), (2, .int y)]) hx hb dX10_plan_337 hl (by decide) rfl (fun ls hl => ?_)
                                      refine lv_iload hx hb dX10_plan_339 (lv_at hl 1 rfl) ?_
                                      refine lv_if_eq (tgt := 369) hx hb dX10_plan_341 (by decide) (fun _ => ?_) (fun h9 => absurd (by decide) h9)
                                      refine lv_iload hx hb dX10_plan_369 (lv_at hl 0 rfl) ?_
                                      refine lv_iload hx hb dX10_plan_371 (lv_at hl 1 rfl) ?_
                                      refine lv_if_eq (tgt := 381) hx hb dX10_plan_373 (by decide) (fun _ => ?_) (fun h9 => absurd (by decide) h9)
                                      refine lv_iconst (v := 1) hx hb dX10_plan_381 (by decide) ?_
                                      refine lv_icmp_lt (tgt := 391) hx hb dX10_plan_382 (by decide) (fun c_93 => ?_) (fun c_93 => ?_)
                                      · have ic_93 := gz_lt (rfl : x_92.toInt = x_92.toInt) (by decide : (1 : Int32).toInt = 1) c_93
                                        refine lv_aload_n hx hb dX10_plan_391 rfl (lv_at hl 5 rfl) ?_
                                        refine gs_get (C := RX10) (T := TX10) (N := 59) hx hb hts inX10 hown hK hM 0 0 49 (by decide) rfl rfl (by decide) (hts _ gm_950) (fun _ h9 => h9) rfl dX10_plan_392 ?_
                                        refine lv_iload_n hx hb dX10_plan_395 rfl (lv_at hl 4 rfl) ?_
                                        refine lv_iload hx hb dX10_plan_396 (lv_at hl 0 rfl) ?_
                                        refine lv_iconst (v := 1) hx hb dX10_plan_398 (by decide) ?_
                                        refine lv_iadd hx hb dX10_plan_399 ?_
                                        refine lv_topi (fun x_94 ex_94 => ?_)
                                        try have tx_94 : x_94.toInt = x_92.toInt + 1 := by rw [ex_94]; exact gz_addP (x := x_92.toInt) (y := 1) rfl (by decide) (by omega) (by omega)
                                        refine gs_iast hx hb hK hI hm hM hS 33 0 (by decide) (fun _ => rfl) (vp_in_iff.mpr ⟨by omega, by omega⟩) dX10_plan_400 (fun st_95 H locs est_95 hM hS => ?_)
                                        have hB_st_95 : gBN bM kM [0, 55, 56, 57, 58, 2900, 3000, 3100, 3200, 3300, 3400, 3500, 3600, 3700, 3800] st st_95 := by rw [est_95]; exact hB_sv25.up (show (3300 : Nat) ∈ _ from by decide) (show (0 : Int) ≤ x_94.toInt from by omega) (show x_94.toInt ≤ (8 : Int) from by omega)
                                        refine lv_iload hx hb dX10_plan_401 (lv_at hl 1 rfl) ?_
                                        refine lv_if_eq (tgt := 426) hx hb dX10_plan_403 (by decide) (fun _ => ?_) (fun h9 => absurd (by decide) h9)
                                        refine lv_aload_n hx hb dX10_plan_426 rfl (lv_at hl 5 rfl) ?_
                                        refine gs_get (C := RX10) (T := TX10) (N := 59) hx hb hts inX10 hown hK hM 0 0 50 (by decide) rfl rfl (by decide) (hts _ gm_951) (fun _ h9 => h9) rfl dX10_plan_427 ?_
                                        refine lv_iload_n hx hb dX10_plan_430 rfl (lv_at hl 4 rfl) ?_
                                        refine lv_iload hx hb dX10_plan_431 (lv_at hl 1 rfl) ?_
                                        refine lv_if_eq (tgt := 441) hx hb dX10_plan_433 (by decide) (fun _ => ?_) (fun h9 => absurd (by decide) h9)
                                        refine lv_bipush (v := 9) hx hb dX10_plan_441 (by decide) ?_
                                        refine gs_iast hx hb hK hI hm hM hS 34 0 (by decide) (fun _ => rfl) (vp_in_iff.mpr ⟨by omega, by omega⟩) dX10_plan_443 (fun st_96 H locs est_96 hM hS => ?_)
                                        have hB_st_96 : gBN bM kM [0, 55, 56, 57, 58, 2900, 3000, 3100, 3200, 3300, 3400, 3500, 3600, 3700, 3800] st st_96 := by rw [est_96]; exact hB_st_95.up (show (3400 : Nat) ∈ _ from by decide) (gi_lo _) (gi_hi _)
                                        refine lv_aload_n hx hb dX10_plan_444 rfl (lv_at hl 5 rfl) ?_
                                        refine lv_iload_n hx hb dX10_plan_445 rfl (lv_at hl 4 rfl) ?_
                                        refine lv_iload hx hb dX10_plan_446 (lv_at hl 3 rfl) ?_
                                        refine lv_aload_n hx hb dX10_plan_448 rfl (lv_at hl 5 rfl) ?_
                                        refine gs_get (C := RX10) (T := TX10) (N := 59) hx hb hts inX10 hown hK hM 0 0 50 (by decide) rfl rfl (by decide) (hts _ gm_951) (fun _ h9 => h9) rfl dX10_plan_449 ?_
                                        refine lv_iload_n hx hb dX10_plan_452 rfl (lv_at hl 4 rfl) ?_
                                        refine gs_iald hx hb hK hM 34 0 (by decide) rfl (vp_in_iff.mpr ⟨by omega, by omega⟩) dX10_plan_453 ?_
                                        refine lv_topi (fun x_97 ex_97 => ?_)
                                        have qx_97 : x_97.toInt = (st_96 34 0 (y25_0.toNatClampNeg)).toInt := congrArg Int32.toInt ex_97
                                        have rx_97 : x_97.toInt = (9 : Int) := by rw [ex_97]; exact (congrArg Int32.toInt (((congrFun (congrFun (congrFun est_96 34) 0) (y25_0.toNatClampNeg)).trans (gU_same _ _ _ _ _)))).trans (by decide)
                                        refine lv_iload hx hb dX10_plan_454 (lv_at hl 2 rfl) ?_
                                        refine gs_callv (va_runV (As := [.int y25_0, .int x_29, .int x_97, .int x_34]) (rest := []) ⟨hx, hb, hml, hown, hts⟩ (m_goes l G cy sK sV ad H.size st_96 hB_st_96.1 y25_0 x_29 x_97 x_34 y25_0.toInt x_29.toInt x_97.toInt x_34.toInt rfl rfl rfl rfl (by first | decide | omega) (by first | decide | omega) (by first | decide | omega) (by first | decide | omega) (by first | decide | omega)) ⟨(gz_cb (n := 4) hts gm_1285 gm_12 gm_1288 ⟨by decide +kernel, by decide +kernel, by decide +kernel⟩ ⟨Nat.le_of_ble_eq_true rfl, Nat.le_of_ble_eq_true rfl⟩), hts _ gm_1287, hts _ gs_58⟩ (gs_preV hK hov hE hI hM hm hS hA 0 0 (by decide) rfl rfl) rfl rfl hl.1 rfl (lv_room (Nat.le_of_ble_eq_true rfl)) dX10_plan_456 ⟨Nat.le_of_ble_eq_true rfl, Nat.le_of_ble_eq_true rfl⟩) hm hS hA (fun st_98 H locs hw_98 hM hS => ?_)
                                        obtain ⟨n_98, hw_98⟩ := hw_98
                                        have hB_st_98 : gBN bM kM [0, 55, 56, 57, 58, 2900, 3000, 3100, 3200, 3300, 3400, 3500, 3600, 3700, 3800] st st_98 := hB_st_96.call n_98 (by decide)
                                        refine lv_iload hx hb dX10_plan_459 (lv_at hl 3 rfl) ?_
                                        refine lv_iconst (v := 3) hx hb dX10_plan_461 (by decide) ?_
                                        refine lv_icmp_ne (tgt := 480) hx hb dX10_plan_462 (by decide) (fun c_99 => ?_) (fun c_99 => ?_)
                                        · have ic_99 := gz_ne (rfl : x_29.toInt = x_29.toInt) (by decide : (3 : Int32).toInt = 3) c_99
                                          obtain ⟨x_100, ex_100⟩ : ∃ y : Int32, y = y25_0 + 1 := ⟨_, rfl⟩
                                          try have tx_100 : x_100.toInt = y25_0.toInt + 1 := by rw [ex_100]; exact gz_addP (x := y25_0.toInt) (y := 1) rfl (by decide) (by omega) (by omega)
                                          refine lv_iinc (v := (x_100)) (lv' := [(3, .int x_100), (7, .int x_92), (6, .int 0), (5, .int x_34), (4, .int x_29), (0, .ref (ad 0 0)), (1, .int x), (2, .int y)]) hx hb dX10_plan_480 hl (k := 4) rfl (by rw [ex_100]; rfl) (by decide) rfl (fun ls hl => ?_)
                                          refine lv_aload_n hx hb dX10_plan_483 rfl (lv_at hl 5 rfl) ?_
                                          refine gs_get (C := RX10) (T := TX10) (N := 59) hx hb hts inX10 hown hK hM 0 0 49 (by decide) rfl rfl (by decide) (hts _ gm_950) (fun _ h9 => h9) rfl dX10_plan_484 ?_
                                          refine lv_iload_n hx hb dX10_plan_487 rfl (lv_at hl 0 rfl) ?_
                                          refine lv_iconst (v := 0) hx hb dX10_plan_488 (by decide) ?_
                                          refine gs_iast hx hb hK hI hm hM hS 33 0 (by decide) (fun _ => rfl) (vp_in_iff.mpr ⟨by omega, by omega⟩) dX10_plan_489 (fun st_101 H locs est_101 hM hS => ?_)
                                          have hB_st_101 : gBN bM kM [0, 55, 56, 57, 58, 2900, 3000, 3100, 3200, 3300, 3400, 3500, 3600, 3700, 3800] st st_101 := by rw [est_101]; exact hB_st_98.up (show (3300 : Nat) ∈ _ from by decide) (show (0 : Int) ≤ ((0 : Int32)).toInt from by decide) (show ((0 : Int32)).toInt ≤ (8 : Int) from by decide)
                                          refine lv_iload hx hb dX10_plan_490 (lv_at hl 4 rfl) ?_
                                          refine lv_iconst (v := 3) hx hb dX10_plan_492 (by decide) ?_
                                          refine lv_icmp_ge (tgt := 499) hx hb dX10_plan_493 (by decide) (fun c_102 => ?_) (fun c_102 => ?_)
                                          · have ic_102 := gz_le (by decide : (3 : Int32).toInt = 3) (rfl : x_29.toInt = x_29.toInt) c_102
                                            refine lv_aload_n hx hb dX10_plan_499 rfl (lv_at hl 5 rfl) ?_
                                            refine lv_iload_n hx hb dX10_plan_500 rfl (lv_at hl 0 rfl) ?_
                                            refine lv_iconst (v := 4) hx hb dX10_plan_501 (by decide) ?_
                                            refine lv_idiv hx hb dX10_plan_502 (by decide) ?_
                                            refine lv_topi (fun x_103 ex_103 => ?_)
                                            try have tx_103 := gs_div2 (y := 4) (by decide) (show 0 ≤ x_100.toInt from by omega) (by omega) ex_103
                                            refine lv_aload_n hx hb dX10_plan_503 rfl (lv_at hl 5 rfl) ?_
                                            refine gs_get (C := RX10) (T := TX10) (N := 59) hx hb hts inX10 hown hK hM 0 0 58 (by decide) rfl rfl (by decide) (hts _ gm_959) (fun _ h9 => h9) rfl dX10_plan_504 ?_
                                            refine lv_topi (fun x_104 ex_104 => ?_)
                                            have ex_104 : (sv25 0 0 58) = x_104 := Eq.symm (ex_104.trans (((congrFun (congrFun (congrFun est_101 0) 0) 58).trans (congrFun (congrFun (gU_k (by decide)) 0) 58)).trans ((n_98.2 0 0 58 (show (58 : Nat) ∉ _ from by decide)).trans (((congrFun (congrFun (congrFun est_96 0) 0) 58).trans (congrFun (congrFun (gU_k (by decide)) 0) 58)).trans ((congrFun (congrFun (congrFun est_95 0) 0) 58).trans (congrFun (congrFun (gU_k (by decide)) 0) 58))))))
                                            subst ex_104
                                            refine lv_icmp_le (tgt := 516) hx hb dX10_plan_507 (by decide) (fun c_106 => ?_) (fun c_106 => ?_)
                                            · have ic_106 := gz_le (rfl : x_103.toInt = x_103.toInt) (rfl : (sv25 0 0 58).toInt = (sv25 0 0 58).toInt) c_106
                                              refine lv_aload_n hx hb dX10_plan_516 rfl (lv_at hl 5 rfl) ?_
                                              refine gs_get (C := RX10) (T := TX10) (N := 59) hx hb hts inX10 hown hK hM 0 0 58 (by decide) rfl rfl (by decide) (hts _ gm_959) (fun _ h9 => h9) rfl dX10_plan_517 ?_
                                              refine lv_topi (fun x_107 ex_107 => ?_)
                                              have ex_107 : (sv25 0 0 58) = x_107 := Eq.symm (ex_107.trans (((congrFun (congrFun (congrFun est_101 0) 0) 58).trans (congrFun (congrFun (gU_k (by decide)) 0) 58)).trans ((n_98.2 0 0 58 (show (58 : Nat) ∉ _ from by decide)).trans (((congrFun (congrFun (congrFun est_96 0) 0) 58).trans (congrFun (congrFun (gU_k (by decide)) 0) 58)).trans ((congrFun (congrFun (congrFun est_95 0) 0) 58).trans (congrFun (congrFun (gU_k (by decide)) 0) 58))))))
                                              subst ex_107
                                              refine gs_put (C := RX10) (T := TX10) (N := 59) (ty := .int) (val := .int (sv25 0 0 58)) hx hb hts inX10 tyX10 tyX10_ok nmX10 hown hK hI hm hM hS 0 0 58 (by decide) rfl rfl (by decide) (hts _ gm_959) (fun _ h9 => h9) rfl ((sv25 0 0 58) : Int32) rfl (by decide +kernel) rfl rfl (Nat.le_of_ble_eq_true rfl) dX10_plan_520 (fun st_109 H locs est_109 hM hS => ?_)
                                              have hB_st_109 : gBN bM kM [0, 55, 56, 57, 58, 2900, 3000, 3100, 3200, 3300, 3400, 3500, 3600, 3700, 3800] st st_109 := by rw [est_109]; exact hB_st_101.up (show (58 : Nat) ∈ _ from by decide) (gi_lo _) (gi_hi _)
                                              refine lv_iload_n hx hb dX10_plan_523 rfl (lv_at hl 0 rfl) ?_
                                              refine lv_iconst (v := 4) hx hb dX10_plan_524 (by decide) ?_
                                              refine lv_iload_n hx hb dX10_plan_525 rfl (lv_at hl 6 rfl) ?_
                                              refine lv_imul hx hb dX10_plan_526 ?_
                                              refine lv_topi (fun x_110 ex_110 => ?_)
                                              try have tx_110 : x_110.toInt = 4 * x.toInt := by rw [ex_110]; exact gz_mulI (x := 4) (y := x.toInt) (by decide) rfl (by omega) (by omega)
                                              refine lv_icmp_ge (tgt := 539) hx hb dX10_plan_527 (by decide) (fun c_111 => ?_) (fun c_111 => ?_)
                                              · have ic_111 := gz_le (rfl : x_110.toInt = x_110.toInt) (rfl : x_100.toInt = x_100.toInt) c_111
                                                refine lv_goto (tgt := 195) hx hb dX10_plan_539 (by decide) ?_
                                                exact ih_25 st_109 (x_100 : Int32) H _ ls (by rw [show st_109 33 0 = (upd (upd (sv25 33 0) (y25_0.toNatClampNeg) (x_94 : Int32)) (x_100.toNatClampNeg) (0 : Int32)) from ((congrFun (congrFun est_109 33) 0).trans ((congrFun (gU_k (by decide)) 0).trans ((congrFun (congrFun est_101 33) 0).trans ((gU_at _ _ _ _ _).trans (congrArg (fun f9 => upd f9 (x_100.toNatClampNeg) (0 : Int32)) ((funext (fun j9 => n_98.2 33 0 j9 (show (3300 : Nat) ∉ _ from by decide))).trans ((congrFun (congrFun est_96 33) 0).trans ((congrFun (gU_k (by decide)) 0).trans ((congrFun (congrFun est_95 33) 0).trans ((gU_at _ _ _ _ _).trans (congrArg (fun f9 => upd f9 (y25_0.toNatClampNeg) (x_94 : Int32)) rfl)))))))))))]; exact pMu_u (y := y25_0) (by omega) (by omega) (by omega) (show (0 : Int) ≤ _ ∧ _ ≤ (8 : Int) from hB_sv25.1 33 0 _) (by omega) (by omega) hme25) hB_st_109 (by omega) (by omega) hM hS (lv_sub hl [0, 5, 6, 7] rfl)
                                              · have ic_111 := gz_nle (rfl : x_110.toInt = x_110.toInt) (rfl : x_100.toInt = x_100.toInt) c_111
                                                have lc_111 := gi_hi x_110
                                                refine lv_aload_n hx hb dX10_plan_530 rfl (lv_at hl 5 rfl) ?_
                                                refine lv_iload_n hx hb dX10_plan_531 rfl (lv_at hl 0 rfl) ?_
                                                refine lv_iload hx hb dX10_plan_532 (lv_at hl 3 rfl) ?_
                                                refine lv_iconst (v := 1) hx hb dX10_plan_534 (by decide) ?_
                                                refine lv_iadd hx hb dX10_plan_535 ?_
                                                refine lv_topi (fun x_112 ex_112 => ?_)
                                                try have tx_112 : x_112.toInt = x_34.toInt + 1 := by rw [ex_112]; exact gz_addP (x := x_34.toInt) (y := 1) rfl (by decide) (by omega) (by omega)
                                                refine gs_callv (va_runV (As := [.int x_100, .int x_112]) (rest := []) ⟨hx, hb, hml, hown, hts⟩ (m_dawn l G cy sK sV ad H.size st_109 hB_st_109.1 x_100 x_112 x_100.toInt x_112.toInt rfl rfl (by first | decide | omega) (by first | decide | omega) (by first | decide | omega) (by first | decide | omega) rs bk ((congrArg Int32.toInt ((((congrFun (congrFun (congrFun est_109 0) 0) 28).trans (gU_other (by decide))).trans (((congrFun (congrFun (congrFun est_101 0) 0) 28).trans (congrFun (congrFun (gU_k (by decide)) 0) 28)).trans ((n_98.2 0 0 28 (show (28 : Nat) ∉ _ from by decide)).trans (((congrFun (congrFun (congrFun est_96 0) 0) 28).trans (congrFun (congrFun (gU_k (by decide)) 0) 28)).trans (((congrFun (congrFun (congrFun est_95 0) 0) 28).trans (congrFun (congrFun (gU_k (by decide)) 0) 28)).trans (hB_sv25.2 0 0 28 (show (28 : Nat) ∉ _ from by decide))))))))).trans hbk) ((congrArg Int32.toInt ((((congrFun (congrFun (congrFun est_109 0) 0) 29).trans (gU_other (by decide))).trans (((congrFun (congrFun (congrFun est_101 0) 0) 29).trans (congrFun (congrFun (gU_k (by decide)) 0) 29)).trans ((n_98.2 0 0 29 (show (29 : Nat) ∉ _ from by decide)).trans (((congrFun (congrFun (congrFun est_96 0) 0) 29).trans (congrFun (congrFun (gU_k (by decide)) 0) 29)).trans (((congrFun (congrFun (congrFun est_95 0) 0) 29).trans (congrFun (congrFun (gU_k (by decide)) 0) 29)).trans (hB_sv25.2 0 0 29 (show (29 : Nat) ∉ _ from by decide))))))))).trans hru) (LM.all hLM (mA.trans (mA.trans (mA.trans (mA.trans (mA.trans (mA.trans mA.rf (mA.frame hB_sv25.2 (by decide))) (mA.upk est_95 (by decide))) (mA.upk est_96 (by decide))) (mA.frame n_98.2 (by decide))) (mA.upk est_101 (by decide))) (mA.upk est_109 (by decide))))) ⟨(gz_cb (n := 2) hts gm_1277 gm_12 gm_1280 ⟨by decide +kernel, by decide +kernel, by decide +kernel⟩ ⟨Nat.le_of_ble_eq_true rfl, Nat.le_of_ble_eq_true rfl⟩), hts _ gm_1279, hts _ gs_56⟩ (gs_preV hK hov hE hI hM hm hS hA 0 0 (by decide) rfl rfl) rfl rfl hl.1 rfl (lv_room (Nat.le_of_ble_eq_true rfl)) dX10_plan_536 ⟨Nat.le_of_ble_eq_true rfl, Nat.le_of_ble_eq_true rfl⟩) hm hS hA (fun st_113 H locs hw_113 hM hS => ?_)
                                                obtain ⟨n_113, hw_113⟩ := hw_113
                                                have hB_st_113 : gBN bM kM [0, 55, 56, 57, 58, 2900, 3000, 3100, 3200, 3300, 3400, 3500, 3600, 3700, 3800] st st_113 := hB_st_109.call n_113 (by decide)
                                                refine lv_goto (tgt := 195) hx hb dX10_plan_539 (by decide) ?_
                                                exact ih_25 st_113 (x_100 : Int32) H _ ls (by rw [show st_113 33 0 = (upd (upd (sv25 33 0) (y25_0.toNatClampNeg) (x_94 : Int32)) (x_100.toNatClampNeg) (0 : Int32)) from ((funext (fun j9 => n_113.2 33 0 j9 (show (3300 : Nat) ∉ _ from by decide))).trans ((congrFun (congrFun est_109 33) 0).trans ((congrFun (gU_k (by decide)) 0).trans ((congrFun (congrFun est_101 33) 0).trans ((gU_at _ _ _ _ _).trans (congrArg (fun f9 => upd f9 (x_100.toNatClampNeg) (0 : Int32)) ((funext (fun j9 => n_98.2 33 0 j9 (show (3300 : Nat) ∉ _ from by decide))).trans ((congrFun (congrFun est_96 33) 0).trans ((congrFun (gU_k (by decide)) 0).trans ((congrFun (congrFun est_95 33) 0).trans ((gU_at _ _ _ _ _).trans (congrArg (fun f9 => upd f9 (y25_0.toNatClampNeg) (x_94 : Int32)) rfl))))))))))))]; exact pMu_u (y := y25_0) (by omega) (by omega) (by omega) (show (0 : Int) ≤ _ ∧ _ ≤ (8 : Int) from hB_sv25.1 33 0 _) (by omega) (by omega) hme25) hB_st_113 (by omega) (by omega) hM hS (lv_sub hl [0, 5, 6, 7] rfl)
                                            · have ic_106 := gz_nle (rfl : x_103.toInt = x_103.toInt) (rfl : (sv25 0 0 58).toInt = (sv25 0 0 58).toInt) c_106
                                              have lc_106 := gi_hi x_103
                                              refine lv_iload_n hx hb dX10_plan_510 rfl (lv_at hl 0 rfl) ?_
                                              refine lv_iconst (v := 4) hx hb dX10_plan_511 (by decide) ?_
                                              refine lv_idiv hx hb dX10_plan_512 (by decide) ?_
                                              refine lv_topi (fun x_114 ex_114 => ?_)
                                              try have tx_114 := gs_div2 (y := 4) (by decide) (show 0 ≤ x_100.toInt from by omega) (by omega) ex_114
                                              refine lv_goto (tgt := 520) hx hb dX10_plan_513 (by decide) ?_
                                              refine gs_put (C := RX10) (T := TX10) (N := 59) (ty := .int) (val := .int x_114) hx hb hts inX10 tyX10 tyX10_ok nmX10 hown hK hI hm hM hS 0 0 58 (by decide) rfl rfl (by decide) (hts _ gm_959) (fun _ h9 => h9) rfl (x_114 : Int32) rfl (by decide +kernel) rfl rfl (Nat.le_of_ble_eq_true rfl) dX10_plan_520 (fun st_115 H locs est_115 hM hS => ?_)
                                              have hB_st_115 : gBN bM kM [0, 55, 56, 57, 58, 2900, 3000, 3100, 3200, 3300, 3400, 3500, 3600, 3700, 3800] st st_115 := by rw [est_115]; exact hB_st_101.up (show (58 : Nat) ∈ _ from by decide) (gi_lo _) (gi_hi _)
                                              refine lv_iload_n hx hb dX10_plan_523 rfl (lv_at hl 0 rfl) ?_
                                              refine lv_iconst (v := 4) hx hb dX10_plan_524 (by decide) ?_
                                              refine lv_iload_n hx hb dX10_plan_525 rfl (lv_at hl 6 rfl) ?_
                                              refine lv_imul hx hb dX10_plan_526 ?_
                                              refine lv_topi (fun x_116 ex_116 => ?_)
                                              try have tx_116 : x_116.toInt = 4 * x.toInt := by rw [ex_116]; exact gz_mulI (x := 4) (y := x.toInt) (by decide) rfl (by omega) (by omega)
                                              refine lv_icmp_ge (tgt := 539) hx hb dX10_plan_527 (by decide) (fun c_117 => ?_) (fun c_117 => ?_)
                                              · have ic_117 := gz_le (rfl : x_116.toInt = x_116.toInt) (rfl : x_100.toInt = x_100.toInt) c_117
                                                refine lv_goto (tgt := 195) hx hb dX10_plan_539 (by decide) ?_
                                                exact ih_25 st_115 (x_100 : Int32) H _ ls (by rw [show st_115 33 0 = (upd (upd (sv25 33 0) (y25_0.toNatClampNeg) (x_94 : Int32)) (x_100.toNatClampNeg) (0 : Int32)) from ((congrFun (congrFun est_115 33) 0).trans ((congrFun (gU_k (by decide)) 0).trans ((congrFun (congrFun est_101 33) 0).trans ((gU_at _ _ _ _ _).trans (congrArg (fun f9 => upd f9 (x_100.toNatClampNeg) (0 : Int32)) ((funext (fun j9 => n_98.2 33 0 j9 (show (3300 : Nat) ∉ _ from by decide))).trans ((congrFun (congrFun est_96 33) 0).trans ((congrFun (gU_k (by decide)) 0).trans ((congrFun (congrFun est_95 33) 0).trans ((gU_at _ _ _ _ _).trans (congrArg (fun f9 => upd f9 (y25_0.toNatClampNeg) (x_94 : Int32)) rfl)))))))))))]; exact pMu_u (y := y25_0) (by omega) (by omega) (by omega) (show (0 : Int) ≤ _ ∧ _ ≤ (8 : Int) from hB_sv25.1 33 0 _) (by omega) (by omega) hme25) hB_st_115 (by omega) (by omega) hM hS (lv_sub hl [0, 5, 6, 7] rfl)
                                              · have ic_117 := gz_nle (rfl : x_116.toInt = x_116.toInt) (rfl : x_100.toInt = x_100.toInt) c_117
                                                have lc_117 := gi_hi x_116
                                                refine lv_aload_n hx hb dX10_plan_530 rfl (lv_at hl 5 rfl) ?_
                                                refine lv_iload_n hx hb dX10_plan_531 rfl (lv_at hl 0 rfl) ?_
                                                refine lv_iload hx hb dX10_plan_532 (lv_at hl 3 rfl) ?_
                                                refine lv_iconst (v := 1) hx hb dX10_plan_534 (by decide) ?_
                                                refine lv_iadd hx hb dX10_plan_535 ?_
                                                refine lv_topi (fun x_118 ex_118 => ?_)
                                                try have tx_118 : x_118.toInt = x_34.toInt + 1 := by rw [ex_118]; exact gz_addP (x := x_34.toInt) (y := 1) rfl (by decide) (by omega) (by omega)
                                                refine gs_callv (va_runV (As := [.int x_100, .int x_118]) (rest := []) ⟨hx, hb, hml, hown, hts⟩ (m_dawn l G cy sK sV ad H.size st_115 hB_st_115.1 x_100 x_118 x_100.toInt x_118.toInt rfl rfl (by first | decide | omega) (by first | decide | omega) (by first | decide | omega) (by first | decide | omega) rs bk ((congrArg Int32.toInt ((((congrFun (congrFun (congrFun est_115 0) 0) 28).trans (gU_other (by decide))).trans (((congrFun (congrFun (congrFun est_101 0) 0) 28).trans (congrFun (congrFun (gU_k (by decide)) 0) 28)).trans ((n_98.2 0 0 28 (show (28 : Nat) ∉ _ from by decide)).trans (((congrFun (congrFun (congrFun est_96 0) 0) 28).trans (congrFun (congrFun (gU_k (by decide)) 0) 28)).trans (((congrFun (congrFun (congrFun est_95 0) 0) 28).trans (congrFun (congrFun (gU_k (by decide)) 0) 28)).trans (hB_sv25.2 0 0 28 (show (28 : Nat) ∉ _ from by decide))))))))).trans hbk) ((congrArg Int32.toInt ((((congrFun (congrFun (congrFun est_115 0) 0) 29).trans (gU_other (by decide))).trans (((congrFun (congrFun (congrFun est_101 0) 0) 29).trans (congrFun (congrFun (gU_k (by decide)) 0) 29)).trans ((n_98.2 0 0 29 (show (29 : Nat) ∉ _ from by decide)).trans (((congrFun (congrFun (congrFun est_96 0) 0) 29).trans (congrFun (congrFun (gU_k (by decide)) 0) 29)).trans (((congrFun (congrFun (congrFun est_95 0) 0) 29).trans (congrFun (congrFun (gU_k (by decide)) 0) 29)).trans (hB_sv25.2 0 0 29 (show (29 : Nat) ∉ _ from by decide))))))))).trans hru) (LM.all hLM (mA.trans (mA.trans (mA.trans (mA.trans (mA.trans (mA.trans mA.rf (mA.frame hB_sv25.2 (by decide))) (mA.upk est_95 (by decide))) (mA.upk est_96 (by decide))) (mA.frame n_98.2 (by decide))) (mA.upk est_101 (by decide))) (mA.upk est_115 (by decide))))) ⟨(gz_cb (n := 2) hts gm_1277 gm_12 gm_1280 ⟨by decide +kernel, by decide +kernel, by decide +kernel⟩ ⟨Nat.le_of_ble_eq_true rfl, Nat.le_of_ble_eq_true rfl⟩), hts _ gm_1279, hts _ gs_56⟩ (gs_preV hK hov hE hI hM hm hS hA 0 0 (by decide) rfl rfl) rfl rfl hl.1 rfl (lv_room (Nat.le_of_ble_eq_true rfl)) dX10_plan_536 ⟨Nat.le_of_ble_eq_true rfl, Nat.le_of_ble_eq_true rfl⟩) hm hS hA (fun st_119 H locs hw_119 hM hS => ?_)
                                                obtain ⟨n_119, hw_119⟩ := hw_119
                                                have hB_st_119 : gBN bM kM [0, 55, 56, 57, 58, 2900, 3000, 3100, 3200, 3300, 3400, 3500, 3600, 3700, 3800] st st_119 := hB_st_115.call n_119 (by decide)
                                                refine lv_goto (tgt := 195) hx hb dX10_plan_539 (by decide) ?_
                                                exact ih_25 st_119 (x_100 : Int32) H _ ls (by rw [show st_119 33 0 = (upd (upd (sv25 33 0) (y25_0.toNatClampNeg) (x_94 : Int32)) (x_100.toNatClampNeg) (0 : Int32)) from ((funext (fun j9 => n_119.2 33 0 j9 (show (3300 : Nat) ∉ _ from by decide))).trans ((congrFun (congrFun est_115 33) 0).trans ((congrFun (gU_k (by decide)) 0).trans ((congrFun (congrFun est_101 33) 0).trans ((gU_at _ _ _ _ _).trans (congrArg (fun f9 => upd f9 (x_100.toNatClampNeg) (0 : Int32)) ((funext (fun j9 => n_98.2 33 0 j9 (show (3300 : Nat) ∉ _ from by decide))).trans ((congrFun (congrFun est_96 33) 0).trans ((congrFun (gU_k (by decide)) 0).trans ((congrFun (congrFun est_95 33) 0).trans ((gU_at _ _ _ _ _).trans (congrArg (fun f9 => upd f9 (y25_0.toNatClampNeg) (x_94 : Int32)) rfl))))))))))))]; exact pMu_u (y := y25_0) (by omega) (by omega) (by omega) (show (0 : Int) ≤ _ ∧ _ ≤ (8 : Int) from hB_sv25.1 33 0 _) (by omega) (by omega) hme25) hB_st_119 (by omega) (by omega) hM hS (lv_sub hl [0, 5, 6, 7] rfl)
                                          · have ic_102 := gz_nle (by decide : (3 : Int32).toInt = 3) (rfl : x_29.toInt = x_29.toInt) c_102
                                            refine lv_goto (tgt := 195) hx hb dX10_plan_496 (by decide) ?_
                                            exact ih_25 st_101 (x_100 : Int32) H _ ls (by rw [show st_101 33 0 = (upd (upd (sv25 33 0) (y25_0.toNatClampNeg) (x_94 : Int32)) (x_100.toNatClampNeg) (0 : Int32)) from ((congrFun (congrFun est_101 33) 0).trans ((gU_at _ _ _ _ _).trans (congrArg (fun f9 => upd f9 (x_100.toNatClampNeg) (0 : Int32)) ((funext (fun j9 => n_98.2 33 0 j9 (show (3300 : Nat) ∉ _ from by decide))).trans ((congrFun (congrFun est_96 33) 0).trans ((congrFun (gU_k (by decide)) 0).trans ((congrFun (congrFun est_95 33) 0).trans ((gU_at _ _ _ _ _).trans (congrArg (fun f9 => upd f9 (y25_0.toNatClampNeg) (x_94 : Int32)) rfl)))))))))]; exact pMu_u (y := y25_0) (by omega) (by omega) (by omega) (show (0 : Int) ≤ _ ∧ _ ≤ (8 : Int) from hB_sv25.1 33 0 _) (by omega) (by omega) hme25) hB_st_101 (by omega) (by omega) hM hS (lv_sub hl [0, 5, 6, 7] rfl)
                                        · have ic_99 := gz_eqn (rfl : x_29.toInt = x_29.toInt) (by decide : (3 : Int32).toInt = 3) c_99
                                          refine lv_aload_n hx hb dX10_plan_465 rfl (lv_at hl 5 rfl) ?_
                                          refine lv_iload_n hx hb dX10_plan_466 rfl (lv_at hl 4 rfl) ?_
                                          refine lv_iconst (v := 1) hx hb dX10_plan_467 (by decide) ?_
                                          refine lv_iadd hx hb dX10_plan_468 ?_
                                          refine lv_topi (fun x_120 ex_120 => ?_)
                                          try have tx_120 : x_120.toInt = y25_0.toInt + 1 := by rw [ex_120]; exact gz_addP (x := y25_0.toInt) (y := 1) rfl (by decide) (by omega) (by omega)
                                          refine lv_iload hx hb dX10_plan_469 (lv_at hl 2 rfl) ?_
                                          refine gs_calli (va_runV (As := [.int x_120, .int x_34]) (rest := []) ⟨hx, hb, hml, hown, hts⟩ (m_isGood l G cy sK sV ad H.size st_98 hB_st_98.1 x_120 x_34 x_120.toInt x_34.toInt rfl rfl (by first | decide | omega) (by first | decide | omega)) ⟨(gz_cb (n := 2) hts gm_1289 gm_12 gm_1292 ⟨by decide +kernel, by decide +kernel, by decide +kernel⟩ ⟨Nat.le_of_ble_eq_true rfl, Nat.le_of_ble_eq_true rfl⟩), hts _ gm_1291, hts _ gs_59⟩ (gs_preV hK hov hE hI hM hm hS hA 0 0 (by decide) rfl rfl) rfl rfl hl.1 rfl (lv_room (Nat.le_of_ble_eq_true rfl)) dX10_plan_471 ⟨Nat.le_of_ble_eq_true rfl, Nat.le_of_ble_eq_true rfl⟩) hm hS hA (fun r_121 st_121 H locs hw_121 hM hS => ?_)
                                          obtain ⟨n_121, hw_121⟩ := hw_121
                                          have n_121 := gBN.nil n_121
                                          subst n_121
                                          rcases hw_121 with rfl | rfl
                                          · skip
                                            refine lv_if_ne (tgt := 480) hx hb dX10_plan_474 (by decide) (fun _ => ?_) (fun h9 => absurd h9 (by decide))
                                            obtain ⟨x_122, ex_122⟩ : ∃ y : Int32, y = y25_0 + 1 := ⟨_, rfl⟩
                                            try have tx_122 : x_122.toInt = y25_0.toInt + 1 := by rw [ex_122]; exact gz_addP (x := y25_0.toInt) (y := 1) rfl (by decide) (by omega) (by omega)
                                            refine lv_iinc (v := (x_122)) (lv' := [(3, .int x_122), (7, .int x_92), (6, .int 0), (5, .int x_34), (4, .int x_29), (0, .ref (ad 0 0)), (1, .int x), (2, .int y)]) hx hb dX10_plan_480 hl (k := 4) rfl (by rw [ex_122]; rfl) (by decide) rfl (fun ls hl => ?_)
                                            refine lv_aload_n hx hb dX10_plan_483 rfl (lv_at hl 5 rfl) ?_
                                            refine gs_get (C := RX10) (T := TX10) (N := 59) hx hb hts inX10 hown hK hM 0 0 49 (by decide) rfl rfl (by decide) (hts _ gm_950) (fun _ h9 => h9) rfl dX10_plan_484 ?_
                                            refine lv_iload_n hx hb dX10_plan_487 rfl (lv_at hl 0 rfl) ?_
                                            refine lv_iconst (v := 0) hx hb dX10_plan_488 (by decide) ?_
                                            refine gs_iast hx hb hK hI hm hM hS 33 0 (by decide) (fun _ => rfl) (vp_in_iff.mpr ⟨by omega, by omega⟩) dX10_plan_489 (fun st_123 H locs est_123 hM hS => ?_)
                                            have hB_st_123 : gBN bM kM [0, 55, 56, 57, 58, 2900, 3000, 3100, 3200, 3300, 3400, 3500, 3600, 3700, 3800] st st_123 := by rw [est_123]; exact hB_st_98.up (show (3300 : Nat) ∈ _ from by decide) (show (0 : Int) ≤ ((0 : Int32)).toInt from by decide) (show ((0 : Int32)).toInt ≤ (8 : Int) from by decide)
                                            refine lv_iload hx hb dX10_plan_490 (lv_at hl 4 rfl) ?_
                                            refine lv_iconst (v := 3) hx hb dX10_plan_492 (by decide) ?_
                                            refine lv_icmp_ge (tgt := 499) hx hb dX10_plan_493 (by decide) (fun c_124 => ?_) (fun c_124 => ?_)
                                            · have ic_124 := gz_le (by decide : (3 : Int32).toInt = 3) (rfl : x_29.toInt = x_29.toInt) c_124
                                              refine lv_aload_n hx hb dX10_plan_499 rfl (lv_at hl 5 rfl) ?_
                                              refine lv_iload_n hx hb dX10_plan_500 rfl (lv_at hl 0 rfl) ?_
                                              refine lv_iconst (v := 4) hx hb dX10_plan_501 (by decide) ?_
                                              refine lv_idiv hx hb dX10_plan_502 (by decide) ?_
                                              refine lv_topi (fun x_125 ex_125 => ?_)
                                              try have tx_125 := gs_div2 (y := 4) (by decide) (show 0 ≤ x_122.toInt from by omega) (by omega) ex_125
                                              refine lv_aload_n hx hb dX10_plan_503 rfl (lv_at hl 5 rfl) ?_
                                              refine gs_get (C := RX10) (T := TX10) (N := 59) hx hb hts inX10 hown hK hM 0 0 58 (by decide) rfl rfl (by decide) (hts _ gm_959) (fun _ h9 => h9) rfl dX10_plan_504 ?_
                                              refine lv_topi (fun x_126 ex_126 => ?_)
                                              have ex_126 : (sv25 0 0 58) = x_126 := Eq.symm (ex_126.trans (((congrFun (congrFun (congrFun est_123 0) 0) 58).trans (congrFun (congrFun (gU_k (by decide)) 0) 58)).trans ((n_98.2 0 0 58 (show (58 : Nat) ∉ _ from by decide)).trans (((congrFun (congrFun (congrFun est_96 0) 0) 58).trans (congrFun (congrFun (gU_k (by decide)) 0) 58)).trans ((congrFun (congrFun (congrFun est_95 0) 0) 58).trans (congrFun (congrFun (gU_k (by decide)) 0) 58))))))
                                              subst ex_126
                                              refine lv_icmp_le (tgt := 516) hx hb dX10_plan_507 (by decide) (fun c_128 => ?_) (fun c_128 => ?_)
                                              · have ic_128 := gz_le (rfl : x_125.toInt = x_125.toInt) (rfl : (sv25 0 0 58).toInt = (sv25 0 0 58).toInt) c_128
                                                refine lv_aload_n hx hb dX10_plan_516 rfl (lv_at hl 5 rfl) ?_
                                                refine gs_get (C := RX10) (T := TX10) (N := 59) hx hb hts inX10 hown hK hM 0 0 58 (by decide) rfl rfl (by decide) (hts _ gm_959) (fun _ h9 => h9) rfl dX10_plan_517 ?_
                                                refine lv_topi (fun x_129 ex_129 => ?_)
                                                have ex_129 : (sv25 0 0 58) = x_129 := Eq.symm (ex_129.trans (((congrFun (congrFun (congrFun est_123 0) 0) 58).trans (congrFun (congrFun (gU_k (by decide)) 0) 58)).trans ((n_98.2 0 0 58 (show (58 : Nat) ∉ _ from by decide)).trans (((congrFun (congrFun (congrFun est_96 0) 0) 58).trans (congrFun (congrFun (gU_k (by decide)) 0) 58)).trans ((congrFun (congrFun (congrFun est_95 0) 0) 58).trans (congrFun (congrFun (gU_k (by decide)) 0) 58))))))
                                                subst ex_129
                                                refine gs_put (C := RX10) (T := TX10) (N := 59) (ty := .int) (val := .int (sv25 0 0 58)) hx hb hts inX10 tyX10 tyX10_ok nmX10 hown hK hI hm hM hS 0 0 58 (by decide) rfl rfl (by decide) (hts _ gm_959) (fun _ h9 => h9) rfl ((sv25 0 0 58) : Int32) rfl (by decide +kernel) rfl rfl (Nat.le_of_ble_eq_true rfl) dX10_plan_520 (fun st_131 H locs est_131 hM hS => ?_)
                                                have hB_st_131 : gBN bM kM [0, 55, 56, 57, 58, 2900, 3000, 3100, 3200, 3300, 3400, 3500, 3600, 3700, 3800] st st_131 := by rw [est_131]; exact hB_st_123.up (show (58 : Nat) ∈ _ from by decide) (gi_lo _) (gi_hi _)
                                                refine lv_iload_n hx hb dX10_plan_523 rfl (lv_at hl 0 rfl) ?_
                                                refine lv_iconst (v := 4) hx hb dX10_plan_524 (by decide) ?_
                                                refine lv_iload_n hx hb dX10_plan_525 rfl (lv_at hl 6 rfl) ?_
                                                refine lv_imul hx hb dX10_plan_526 ?_
                                                refine lv_topi (fun x_132 ex_132 => ?_)
                                                try have tx_132 : x_132.toInt = 4 * x.toInt := by rw [ex_132]; exact gz_mulI (x := 4) (y := x.toInt) (by decide) rfl (by omega) (by omega)
                                                refine lv_icmp_ge (tgt := 539) hx hb dX10_plan_527 (by decide) (fun c_133 => ?_) (fun c_133 => ?_)
                                                · have ic_133 := gz_le (rfl : x_132.toInt = x_132.toInt) (rfl : x_122.toInt = x_122.toInt) c_133
                                                  refine lv_goto (tgt := 195) hx hb dX10_plan_539 (by decide) ?_
                                                  exact ih_25 st_131 (x_122 : Int32) H _ ls (by rw [show st_131 33 0 = (upd (upd (sv25 33 0) (y25_0.toNatClampNeg) (x_94 : Int32)) (x_122.toNatClampNeg) (0 : Int32)) from ((congrFun (congrFun est_131 33) 0).trans ((congrFun (gU_k (by decide)) 0).trans ((congrFun (congrFun est_123 33) 0).trans ((gU_at _ _ _ _ _).trans (congrArg (fun f9 => upd f9 (x_122.toNatClampNeg) (0 : Int32)) ((funext (fun j9 => n_98.2 33 0 j9 (show (3300 : Nat) ∉ _ from by decide))).trans ((congrFun (congrFun est_96 33) 0).trans ((congrFun (gU_k (by decide)) 0).trans ((congrFun (congrFun est_95 33) 0).trans ((gU_at _ _ _ _ _).trans (congrArg (fun f9 => upd f9 (y25_0.toNatClampNeg) (x_94 : Int32)) rfl)))))))))))]; exact pMu_u (y := y25_0) (by omega) (by omega) (by omega) (show (0 : Int) ≤ _ ∧ _ ≤ (8 : Int) from hB_sv25.1 33 0 _) (by omega) (by omega) hme25) hB_st_131 (by omega) (by omega) hM hS (lv_sub hl [0, 5, 6, 7] rfl)
                                                · have ic_133 := gz_nle (rfl : x_132.toInt = x_132.toInt) (rfl : x_122.toInt = x_122.toInt) c_133
                                                  have lc_133 := gi_hi x_132
                                                  refine lv_aload_n hx hb dX10_plan_530 rfl (lv_at hl 5 rfl) ?_
                                                  refine lv_iload_n hx hb dX10_plan_531 rfl (lv_at hl 0 rfl) ?_
                                                  refine lv_iload hx hb dX10_plan_532 (lv_at hl 3 rfl) ?_
                                                  refine lv_iconst (v := 1) hx hb dX10_plan_534 (by decide) ?_
                                                  refine lv_iadd hx hb dX10_plan_535 ?_
                                                  refine lv_topi (fun x_134 ex_134 => ?_)
                                                  try have tx_134 : x_134.toInt = x_34.toInt + 1 := by rw [ex_134]; exact gz_addP (x := x_34.toInt) (y := 1) rfl (by decide) (by omega) (by omega)
                                                  refine gs_callv (va_runV (As := [.int x_122, .int x_134]) (rest := []) ⟨hx, hb, hml, hown, hts⟩ (m_dawn l G cy sK sV ad H.size st_131 hB_st_131.1 x_122 x_134 x_122.toInt x_134.toInt rfl rfl (by first | decide | omega) (by first | decide | omega) (by first | decide | omega) (by first | decide | omega) rs bk ((congrArg Int32.toInt ((((congrFun (congrFun (congrFun est_131 0) 0) 28).trans (gU_other (by decide))).trans (((congrFun (congrFun (congrFun est_123 0) 0) 28).trans (congrFun (congrFun (gU_k (by decide)) 0) 28)).trans ((n_98.2 0 0 28 (show (28 : Nat) ∉ _ from by decide)).trans (((congrFun (congrFun (congrFun est_96 0) 0) 28).trans (congrFun (congrFun (gU_k (by decide)) 0) 28)).trans (((congrFun (congrFun (congrFun est_95 0) 0) 28).trans (congrFun (congrFun (gU_k (by decide)) 0) 28)).trans (hB_sv25.2 0 0 28 (show (28 : Nat) ∉ _ from by decide))))))))).trans hbk) ((congrArg Int32.toInt ((((congrFun (congrFun (congrFun est_131 0) 0) 29).trans (gU_other (by decide))).trans (((congrFun (congrFun (congrFun est_123 0) 0) 29).trans (congrFun (congrFun (gU_k (by decide)) 0) 29)).trans ((n_98.2 0 0 29 (show (29 : Nat) ∉ _ from by decide)).trans (((congrFun (congrFun (congrFun est_96 0) 0) 29).trans (congrFun (congrFun (gU_k (by decide)) 0) 29)).trans (((congrFun (congrFun (congrFun est_95 0) 0) 29).trans (congrFun (congrFun (gU_k (by decide)) 0) 29)).trans (hB_sv25.2 0 0 29 (show (29 : Nat) ∉ _ from by decide))))))))).trans hru) (LM.all hLM (mA.trans (mA.trans (mA.trans (mA.trans (mA.trans (mA.trans mA.rf (mA.frame hB_sv25.2 (by decide))) (mA.upk est_95 (by decide))) (mA.upk est_96 (by decide))) (mA.frame n_98.2 (by decide))) (mA.upk est_123 (by decide))) (mA.upk est_131 (by decide))))) ⟨(gz_cb (n := 2) hts gm_1277 gm_12 gm_1280 ⟨by decide +kernel, by decide +kernel, by decide +kernel⟩ ⟨Nat.le_of_ble_eq_true rfl, Nat.le_of_ble_eq_true rfl⟩), hts _ gm_1279, hts _ gs_56⟩ (gs_preV hK hov hE hI hM hm hS hA 0 0 (by decide) rfl rfl) rfl rfl hl.1 rfl (lv_room (Nat.le_of_ble_eq_true rfl)) dX10_plan_536 ⟨Nat.le_of_ble_eq_true rfl, Nat.le_of_ble_eq_true rfl⟩) hm hS hA (fun st_135 H locs hw_135 hM hS => ?_)
                                                  obtain ⟨n_135, hw_135⟩ := hw_135
                                                  have hB_st_135 : gBN bM kM [0, 55, 56, 57, 58, 2900, 3000, 3100, 3200, 3300, 3400, 3500, 3600, 3700, 3800] st st_135 := hB_st_131.call n_135 (by decide)
                                                  refine lv_goto (tgt := 195) hx hb dX10_plan_539 (by decide) ?_
                                                  exact ih_25 st_135 (x_122 : Int32) H _ ls (by rw [show st_135 33 0 = (upd (upd (sv25 33 0) (y25_0.toNatClampNeg) (x_94 : Int32)) (x_122.toNatClampNeg) (0 : Int32)) from ((funext (fun j9 => n_135.2 33 0 j9 (show (3300 : Nat) ∉ _ from by decide))).trans ((congrFun (congrFun est_131 33) 0).trans ((congrFun (gU_k (by decide)) 0).trans ((congrFun (congrFun est_123 33) 0).trans ((gU_at _ _ _ _ _).trans (congrArg (fun f9 => upd f9 (x_122.toNatClampNeg) (0 : Int32)) ((funext (fun j9 => n_98.2 33 0 j9 (show (3300 : Nat) ∉ _ from by decide))).trans ((congrFun (congrFun est_96 33) 0).trans ((congrFun (gU_k (by decide)) 0).trans ((congrFun (congrFun est_95 33) 0).trans ((gU_at _ _ _ _ _).trans (congrArg (fun f9 => upd f9 (y25_0.toNatClampNeg) (x_94 : Int32)) rfl))))))))))))]; exact pMu_u (y := y25_0) (by omega) (by omega) (by omega) (show (0 : Int) ≤ _ ∧ _ ≤ (8 : Int) from hB_sv25.1 33 0 _) (by omega) (by omega) hme25) hB_st_135 (by omega) (by omega) hM hS (lv_sub hl [0, 5, 6, 7] rfl)
                                              · have ic_128 := gz_nle (rfl : x_125.toInt = x_125.toInt) (rfl : (sv25 0 0 58).toInt = (sv25 0 0 58).toInt) c_128
                                                have lc_128 := gi_hi x_125
                                                refine lv_iload_n hx hb dX10_plan_510 rfl (lv_at hl 0 rfl) ?_
                                                refine lv_iconst (v := 4) hx hb dX10_plan_511 (by decide) ?_
                                                refine lv_idiv hx hb dX10_plan_512 (by decide) ?_
                                                refine lv_topi (fun x_136 ex_136 => ?_)
                                                try have tx_136 := gs_div2 (y := 4) (by decide) (show 0 ≤ x_122.toInt from by omega) (by omega) ex_136
                                                refine lv_goto (tgt := 520) hx hb dX10_plan_513 (by decide) ?_
                                                refine gs_put (C := RX10) (T := TX10) (N := 59) (ty := .int) (val := .int x_136) hx hb hts inX10 tyX10 tyX10_ok nmX10 hown hK hI hm hM hS 0 0 58 (by decide) rfl rfl (by decide) (hts _ gm_959) (fun _ h9 => h9) rfl (x_136 : Int32) rfl (by decide +kernel) rfl rfl (Nat.le_of_ble_eq_true rfl) dX10_plan_520 (fun st_137 H locs est_137 hM hS => ?_)
                                                have hB_st_137 : gBN bM kM [0, 55, 56, 57, 58, 2900, 3000, 3100, 3200, 3300, 3400, 3500, 3600, 3700, 3800] st st_137 := by rw [est_137]; exact hB_st_123.up (show (58 : Nat) ∈ _ from by decide) (gi_lo _) (gi_hi _)
                                                refine lv_iload_n hx hb dX10_plan_523 rfl (lv_at hl 0 rfl) ?_
                                                refine lv_iconst (v := 4) hx hb dX10_plan_524 (by decide) ?_
                                                refine lv_iload_n hx hb dX10_plan_525 rfl (lv_at hl 6 rfl) ?_
                                                refine lv_imul hx hb dX10_plan_526 ?_
                                                refine lv_topi (fun x_138 ex_138 => ?_)
                                                try have tx_138 : x_138.toInt = 4 * x.toInt := by rw [ex_138]; exact gz_mulI (x := 4) (y := x.toInt) (by decide) rfl (by omega) (by omega)
                                                refine lv_icmp_ge (tgt := 539) hx hb dX10_plan_527 (by decide) (fun c_139 => ?_) (fun c_139 => ?_)
                                                · have ic_139 := gz_le (rfl : x_138.toInt = x_138.toInt) (rfl : x_122.toInt = x_122.toInt) c_139
                                                  refine lv_goto (tgt := 195) hx hb dX10_plan_539 (by decide) ?_
                                                  exact ih_25 st_137 (x_122 : Int32) H _ ls (by rw [show st_137 33 0 = (upd (upd (sv25 33 0) (y25_0.toNatClampNeg) (x_94 : Int32)) (x_122.toNatClampNeg) (0 : Int32)) from ((congrFun (congrFun est_137 33) 0).trans ((congrFun (gU_k (by decide)) 0).trans ((congrFun (congrFun est_123 33) 0).trans ((gU_at _ _ _ _ _).trans (congrArg (fun f9 => upd f9 (x_122.toNatClampNeg) (0 : Int32)) ((funext (fun j9 => n_98.2 33 0 j9 (show (3300 : Nat) ∉ _ from by decide))).trans ((congrFun (congrFun est_96 33) 0).trans ((congrFun (gU_k (by decide)) 0).trans ((congrFun (congrFun est_95 33) 0).trans ((gU_at _ _ _ _ _).trans (congrArg (fun f9 => upd f9 (y25_0.toNatClampNeg) (x_94 : Int32)) rfl)))))))))))]; exact pMu_u (y := y25_0) (by omega) (by omega) (by omega) (show (0 : Int) ≤ _ ∧ _ ≤ (8 : Int) from hB_sv25.1 33 0 _) (by omega) (by omega) hme25) hB_st_137 (by omega) (by omega) hM hS (lv_sub hl [0, 5, 6, 7] rfl)
                                                · have ic_139 := gz_nle (rfl : x_138.toInt = x_138.toInt) (rfl : x_122.toInt = x_122.toInt) c_139
                                                  have lc_139 := gi_hi x_138
                                                  refine lv_aload_n hx hb dX10_plan_530 rfl (lv_at hl 5 rfl) ?_
                                                  refine lv_iload_n hx hb dX10_plan_531 rfl (lv_at hl 0 rfl) ?_
                                                  refine lv_iload hx hb dX10_plan_532 (lv_at hl 3 rfl) ?_
                                                  refine lv_iconst (v := 1) hx hb dX10_plan_534 (by decide) ?_
                                                  refine lv_iadd hx hb dX10_plan_535 ?_
                                                  refine lv_topi (fun x_140 ex_140 => ?_)
                                                  try have tx_140 : x_140.toInt = x_34.toInt + 1 := by rw [ex_140]; exact gz_addP (x := x_34.toInt) (y := 1) rfl (by decide) (by omega) (by omega)
                                                  refine gs_callv (va_runV (As := [.int x_122, .int x_140]) (rest := []) ⟨hx, hb, hml, hown, hts⟩ (m_dawn l G cy sK sV ad H.size st_137 hB_st_137.1 x_122 x_140 x_122.toInt x_140.toInt rfl rfl (by first | decide | omega) (by first | decide | omega) (by first | decide | omega) (by first | decide | omega) rs bk ((congrArg Int32.toInt ((((congrFun (congrFun (congrFun est_137 0) 0) 28).trans (gU_other (by decide))).trans (((congrFun (congrFun (congrFun est_123 0) 0) 28).trans (congrFun (congrFun (gU_k (by decide)) 0) 28)).trans ((n_98.2 0 0 28 (show (28 : Nat) ∉ _ from by decide)).trans (((congrFun (congrFun (congrFun est_96 0) 0) 28).trans (congrFun (congrFun (gU_k (by decide)) 0) 28)).trans (((congrFun (congrFun (congrFun est_95 0) 0) 28).trans (congrFun (congrFun (gU_k (by decide)) 0) 28)).trans (hB_sv25.2 0 0 28 (show (28 : Nat) ∉ _ from by decide))))))))).trans hbk) ((congrArg Int32.toInt ((((congrFun (congrFun (congrFun est_137 0) 0) 29).trans (gU_other (by decide))).trans (((congrFun (congrFun (congrFun est_123 0) 0) 29).trans (congrFun (congrFun (gU_k (by decide)) 0) 29)).trans ((n_98.2 0 0 29 (show (29 : Nat) ∉ _ from by decide)).trans (((congrFun (congrFun (congrFun est_96 0) 0) 29).trans (congrFun (congrFun (gU_k (by decide)) 0) 29)).trans (((congrFun (congrFun (congrFun est_95 0) 0) 29).trans (congrFun (congrFun (gU_k (by decide)) 0) 29)).trans (hB_sv25.2 0 0 29 (show (29 : Nat) ∉ _ from by decide))))))))).trans hru) (LM.all hLM (mA.trans (mA.trans (mA.trans (mA.trans (mA.trans (mA.trans mA.rf (mA.frame hB_sv25.2 (by decide))) (mA.upk est_95 (by decide))) (mA.upk est_96 (by decide))) (mA.frame n_98.2 (by decide))) (mA.upk est_123 (by decide))) (mA.upk est_137 (by decide))))) ⟨(gz_cb (n := 2) hts gm_1277 gm_12 gm_1280 ⟨by decide +kernel, by decide +kernel, by decide +kernel⟩ ⟨Nat.le_of_ble_eq_true rfl, Nat.le_of_ble_eq_true rfl⟩), hts _ gm_1279, hts _ gs_56⟩ (gs_preV hK hov hE hI hM hm hS hA 0 0 (by decide) rfl rfl) rfl rfl hl.1 rfl (lv_room (Nat.le_of_ble_eq_true rfl)) dX10_plan_536 ⟨Nat.le_of_ble_eq_true rfl, Nat.le_of_ble_eq_true rfl⟩) hm hS hA (fun st_141 H locs hw_141 hM hS => ?_)
                                                  obtain ⟨n_141, hw_141⟩ := hw_141
                                                  have hB_st_141 : gBN bM kM [0, 55, 56, 57, 58, 2900, 3000, 3100, 3200, 3300, 3400, 3500, 3600, 3700, 3800] st st_141 := hB_st_137.call n_141 (by decide)
                                                  refine lv_goto (tgt := 195) hx hb dX10_plan_539 (by decide) ?_
                                                  exact ih_25 st_141 (x_122 : Int32) H _ ls (by rw [show st_141 33 0 = (upd (upd (sv25 33 0) (y25_0.toNatClampNeg) (x_94 : Int32)) (x_122.toNatClampNeg) (0 : Int32)) from ((funext (fun j9 => n_141.2 33 0 j9 (show (3300 : Nat) ∉ _ from by decide))).trans ((congrFun (congrFun est_137 33) 0).trans ((congrFun (gU_k (by decide)) 0).trans ((congrFun (congrFun est_123 33) 0).trans ((gU_at _ _ _ _ _).trans (congrArg (fun f9 => upd f9 (x_122.toNatClampNeg) (0 : Int32)) ((funext (fun j9 => n_98.2 33 0 j9 (show (3300 : Nat) ∉ _ from by decide))).trans ((congrFun (congrFun est_96 33) 0).trans ((congrFun (gU_k (by decide)) 0).trans ((congrFun (congrFun est_95 33) 0).trans ((gU_at _ _ _ _ _).trans (congrArg (fun f9 => upd f9 (y25_0.toNatClampNeg) (x_94 : Int32)) rfl))))))))))))]; exact pMu_u (y := y25_0) (by omega) (by omega) (by omega) (show (0 : Int) ≤ _ ∧ _ ≤ (8 : Int) from hB_sv25.1 33 0 _) (by omega) (by omega) hme25) hB_st_141 (by omega) (by omega) hM hS (lv_sub hl [0, 5, 6, 7] rfl)
                                            · have ic_124 := gz_nle (by decide : (3 : Int32).toInt = 3) (rfl : x_29.toInt = x_29.toInt) c_124
                                              refine lv_goto (tgt := 195) hx hb dX10_plan_496 (by decide) ?_
                                              exact ih_25 st_123 (x_122 : Int32) H _ ls (by rw [show st_123 33 0 = (upd (upd (sv25 33 0) (y25_0.toNatClampNeg) (x_94 : Int32)) (x_122.toNatClampNeg) (0 : Int32)) from ((congrFun (congrFun est_123 33) 0).trans ((gU_at _ _ _ _ _).trans (congrArg (fun f9 => upd f9 (x_122.toNatClampNeg) (0 : Int32)) ((funext (fun j9 => n_98.2 33 0 j9 (show (3300 : Nat) ∉ _ from by decide))).trans ((congrFun (congrFun est_96 33) 0).trans ((congrFun (gU_k (by decide)) 0).trans ((congrFun (congrFun est_95 33) 0).trans ((gU_at _ _ _ _ _).trans (congrArg (fun f9 => upd f9 (y25_0.toNatClampNeg) (x_94 : Int32)) rfl)))))))))]; exact pMu_u (y := y25_0) (by omega) (by omega) (by omega) (show (0 : Int) ≤ _ ∧ _ ≤ (8 : Int) from hB_sv25.1 33 0 _) (by omega) (by omega) hme25) hB_st_123 (by omega) (by omega) hM hS (lv_sub hl [0, 5, 6, 7] rfl)
                                          · skip
                                            refine lv_if_ne (tgt := 480) hx hb dX10_plan_474 (by decide) (fun h9 => absurd (by decide) h9) (fun _ => ?_)
                                            refine lv_goto (tgt := 195) hx hb dX10_plan_477 (by decide) ?_
                                            exact ih_25 st_98 (y25_0 : Int32) H _ ls (by rw [show st_98 33 0 = (upd (sv25 33 0) (y25_0.toNatClampNeg) (x_94 : Int32)) from ((funext (fun j9 => n_98.2 33 0 j9 (show (3300 : Nat) ∉ _ from by decide))).trans ((congrFun (congrFun est_96 33) 0).trans ((congrFun (gU_k (by decide)) 0).trans ((congrFun (congrFun est_95 33) 0).trans ((gU_at _ _ _ _ _).trans (congrArg (fun f9 => upd f9 (y25_0.toNatClampNeg) (x_94 : Int32)) rfl))))))]; exact pMu_s (y := y25_0) (by omega) (show (0 : Int) ≤ _ ∧ _ ≤ (8 : Int) from hB_sv25.1 33 0 _) (by omega) hme25) hB_st_98 (by omega) (by omega) hM hS (lv_sub hl [4, 5, 6, 7] rfl)
                                      · have ic_93 := gz_nlt (rfl : x_92.toInt = x_92.toInt) (by decide : (1 : Int32).toInt = 1) c_93
                                        obtain ⟨x_142, ex_142⟩ : ∃ y : Int32, y = y25_0 + (-1) := ⟨_, rfl⟩
                                        try have tx_142 : x_142.toInt = y25_0.toInt + (-1) := by rw [ex_142]; exact gz_addI (x := y25_0.toInt) (y := (-1)) rfl (by decide) (by omega) (by omega)
                                        refine lv_iinc (v := (x_142)) (lv' := [(3, .int x_142), (7, .int x_92), (6, .int 0), (5, .int x_34), (4, .int x_29), (0, .ref (ad 0 0)), (1, .int x), (2, .int y)]) hx hb dX10_plan_385 hl (k := 4) rfl (by rw [ex_142]; rfl) (by decide) rfl (fun ls hl => ?_)
                                        refine lv_goto (tgt := 195) hx hb dX10_plan_388 (by decide) ?_
                                        exact ih_25 sv25 (x_142 : Int32) H _ ls (by exact pMu_d (y := y25_0) (by omega) (by omega) (show (0 : Int) ≤ _ ∧ _ ≤ (8 : Int) from hB_sv25.1 33 0 _) hme25) hB_sv25 (by omega) (by omega) hM hS (lv_sub hl [0, 5, 6, 7] rfl)
                                    · have ic_91 := gz_nlt (rfl : x_34.toInt = x_34.toInt) (rfl : x_90.toInt = x_90.toInt) c_91
                                      refine lv_iconst (v := 1) hx hb dX10_plan_324 (by decide) ?_
                                      refine lv_goto (tgt := 329) hx hb dX10_plan_325 (by decide) ?_
                                      refine lv_istore (lv' := [(6, .int 1), (5, .int x_34), (4, .int x_29), (3, .int y25_0), (0, .ref (ad 0 0)), (1, .int x), (2, .int y)]) hx hb dX10_plan_329 hl (by decide) rfl (fun ls hl => ?_)
                                      refine lv_aload_n hx hb dX10_plan_331 rfl (lv_at hl 4 rfl) ?_
                                      refine gs_get (C := RX10) (T := TX10) (N := 59) hx hb hts inX10 hown hK hM 0 0 49 (by decide) rfl rfl (by decide) (hts _ gm_950) (fun _ h9 => h9) rfl dX10_plan_332 ?_
                                      refine lv_iload_n hx hb dX10_plan_335 rfl (lv_at hl 3 rfl) ?_
                                      refine gs_iald hx hb hK hM 33 0 (by decide) rfl (vp_in_iff.mpr ⟨by omega, by omega⟩) dX10_plan_336 ?_
                                      refine lv_topi (fun x_143 ex_143 => ?_)
                                      have qx_143 : x_143.toInt = (sv25 33 0 (y25_0.toNatClampNeg)).toInt := congrArg Int32.toInt ex_143
                                      have bx_143 : (0 : Int) ≤ x_143.toInt ∧ x_143.toInt ≤ (8 : Int) := by rw [qx_143]; exact hB_sv25.1 33 0 (y25_0.toNatClampNeg)
                                      refine lv_istore (lv' := [(7, .int x_143), (6, .int 1), (5, .int x_34), (4, .int x_29), (3, .int y25_0), (0, .ref (ad 0 0)), (1, .int x), (2, .int y)]) hx hb dX10_plan_337 hl (by decide) rfl (fun ls hl => ?_)
                                      refine lv_iload hx hb dX10_plan_339 (lv_at hl 1 rfl) ?_
                                      refine lv_if_eq (tgt := 369) hx hb dX10_plan_341 (by decide) (fun h9 => absurd h9 (by decide)) (fun _ => ?_)
                                      have lp144 : ∀ (n144 : Nat)  (y144_0 : Int32) (H : Heap) (locs : List Loc) (ls : Array Slot), (8 - y144_0.toInt).toNat < n144 →  ((sv25 33 0 y25_0.toNatClampNeg).toInt ≤ y144_0.toInt) → (0 ≤ y144_0.toInt) → (y144_0.toInt ≤ 8) → gM G (shM cy ad) cnM ad sv25 H → va_S A s.heap H locs → lv_has ls 8 [(7, .int y144_0), (6, .int 1), (5, .int x_34), (4, .int x_29), (3, .int y25_0), (0, .ref (ad 0 0)), (1, .int x), (2, .int y)] → W p l e ({ frames := 2, cells := 0, slots := 0, locals := 53 } : Room) s m [.ref (ad 0 0), .int x, .int y].toArray below meth c H locs 0 0 Q (F0 m 344 ls []) := by
                                        intro n144
                                        induction n144 with
                                        | zero => intro  y144_0 H locs ls h9; exact absurd h9 (Nat.not_lt_zero _)
                                        | succ n144 ih_144 =>
                                          intro  y144_0 H locs ls hme144  hv144_0 hv144_1 hv144_2 hM hS hl
                                          refine lv_iload hx hb dX10_plan_344 (lv_at hl 0 rfl) ?_
                                          refine lv_bipush (v := 8) hx hb dX10_plan_346 (by decide) ?_
                                          refine lv_icmp_ge (tgt := 369) hx hb dX10_plan_348 (by decide) (fun c_145 => ?_) (fun c_145 => ?_)
                                          · have ic_145 := gz_le (by decide : (8 : Int32).toInt = 8) (rfl : y144_0.toInt = y144_0.toInt) c_145
                                            refine lv_iload hx hb dX10_plan_369 (lv_at hl 0 rfl) ?_
                                            refine lv_iload hx hb dX10_plan_371 (lv_at hl 1 rfl) ?_
                                            refine lv_if_eq (tgt := 381) hx hb dX10_plan_373 (by decide) (fun h9 => absurd h9 (by decide)) (fun _ => ?_)
                                            refine lv_bipush (v := 8) hx hb dX10_plan_376 (by decide) ?_
                                            refine lv_goto (tgt := 382) hx hb dX10_plan_378 (by decide) ?_
                                            refine lv_icmp_lt (tgt := 391) hx hb dX10_plan_382 (by decide) (fun c_146 => ?_) (fun c_146 => ?_)
                                            · have ic_146 := gz_lt (rfl : y144_0.toInt = y144_0.toInt) (by decide : (8 : Int32).toInt = 8) c_146
                                              refine lv_aload_n hx hb dX10_plan_391 rfl (lv_at hl 5 rfl) ?_
                                              refine gs_get (C := RX10) (T := TX10) (N := 59) hx hb hts inX10 hown hK hM 0 0 49 (by decide) rfl rfl (by decide) (hts _ gm_950) (fun _ h9 => h9) rfl dX10_plan_392 ?_
                                              refine lv_iload_n hx hb dX10_plan_395 rfl (lv_at hl 4 rfl) ?_
                                              refine lv_iload hx hb dX10_plan_396 (lv_at hl 0 rfl) ?_
                                              refine lv_iconst (v := 1) hx hb dX10_plan_398 (by decide) ?_
                                              refine lv_iadd hx hb dX10_plan_399 ?_
                                              refine lv_topi (fun x_147 ex_147 => ?_)
                                              try have tx_147 : x_147.toInt = y144_0.toInt + 1 := by rw [ex_147]; exact gz_addP (x := y144_0.toInt) (y := 1) rfl (by decide) (by omega) (by omega)
                                              refine gs_iast hx hb hK hI hm hM hS 33 0 (by decide) (fun _ => rfl) (vp_in_iff.mpr ⟨by omega, by omega⟩) dX10_plan_400 (fun st_148 H locs est_148 hM hS => ?_)
                                              have hB_st_148 : gBN bM kM [0, 55, 56, 57, 58, 2900, 3000, 3100, 3200, 3300, 3400, 3500, 3600, 3700, 3800] st st_148 := by rw [est_148]; exact hB_sv25.up (show (3300 : Nat) ∈ _ from by decide) (show (0 : Int) ≤ x_147.toInt from by omega) (show x_147.toInt ≤ (8 : Int) from by omega)
                                              refine lv_iload hx hb dX10_plan_401 (lv_at hl 1 rfl) ?_
                                              refine lv_if_eq (tgt := 426) hx hb dX10_plan_403 (by decide) (fun h9 => absurd h9 (by decide)) (fun _ => ?_)
                                              refine lv_aload_n hx hb dX10_plan_406 rfl (lv_at hl 5 rfl) ?_
                                              refine gs_get (C := RX10) (T := TX10) (N := 59) hx hb hts inX10 hown hK hM 0 0 57 (by decide) rfl rfl (by decide) (hts _ gm_958) (fun _ h9 => h9) rfl dX10_plan_407 ?_
                                              refine lv_topi (fun x_149 ex_149 => ?_)
                                              have ex_149 : (sv25 0 0 57) = x_149 := Eq.symm (ex_149.trans ((congrFun (congrFun (congrFun est_148 0) 0) 57).trans (congrFun (congrFun (gU_k (by decide)) 0) 57)))
                                              subst ex_149
                                              refine lv_iload_n hx hb dX10_plan_410 rfl (lv_at hl 7 rfl) ?_
                                              refine lv_icmp_ne (tgt := 416) hx hb dX10_plan_411 (by decide) (fun c_151 => ?_) (fun c_151 => ?_)
                                              · have ic_151 := gz_ne (rfl : (sv25 0 0 57).toInt = (sv25 0 0 57).toInt) (rfl : y.toInt = y.toInt) c_151
                                                refine lv_aload_n hx hb dX10_plan_416 rfl (lv_at hl 5 rfl) ?_
                                                refine lv_dup hx hb dX10_plan_417 rfl ?_
                                                refine gs_get (C := RX10) (T := TX10) (N := 59) hx hb hts inX10 hown hK hM 0 0 57 (by decide) rfl rfl (by decide) (hts _ gm_958) (fun _ h9 => h9) rfl dX10_plan_418 ?_
                                                refine lv_topi (fun x_152 ex_152 => ?_)
                                                have ex_152 : (sv25 0 0 57) = x_152 := Eq.symm (ex_152.trans ((congrFun (congrFun (congrFun est_148 0) 0) 57).trans (congrFun (congrFun (gU_k (by decide)) 0) 57)))
                                                subst ex_152
                                                refine lv_iconst (v := 1) hx hb dX10_plan_421 (by decide) ?_
                                                refine lv_iadd hx hb dX10_plan_422 ?_
                                                refine lv_topi (fun x_154 ex_154 => ?_)
                                                refine gs_put (C := RX10) (T := TX10) (N := 59) (ty := .int) (val := .int x_154) hx hb hts inX10 tyX10 tyX10_ok nmX10 hown hK hI hm hM hS 0 0 57 (by decide) rfl rfl (by decide) (hts _ gm_958) (fun _ h9 => h9) rfl (x_154 : Int32) rfl (by decide +kernel) rfl rfl (Nat.le_of_ble_eq_true rfl) dX10_plan_423 (fun st_155 H locs est_155 hM hS => ?_)
                                                have hB_st_155 : gBN bM kM [0, 55, 56, 57, 58, 2900, 3000, 3100, 3200, 3300, 3400, 3500, 3600, 3700, 3800] st st_155 := by rw [est_155]; exact hB_st_148.up (show (57 : Nat) ∈ _ from by decide) (gi_lo _) (gi_hi _)
                                                refine lv_aload_n hx hb dX10_plan_426 rfl (lv_at hl 5 rfl) ?_
                                                refine gs_get (C := RX10) (T := TX10) (N := 59) hx hb hts inX10 hown hK hM 0 0 50 (by decide) rfl rfl (by decide) (hts _ gm_951) (fun _ h9 => h9) rfl dX10_plan_427 ?_
                                                refine lv_iload_n hx hb dX10_plan_430 rfl (lv_at hl 4 rfl) ?_
                                                refine lv_iload hx hb dX10_plan_431 (lv_at hl 1 rfl) ?_
                                                refine lv_if_eq (tgt := 441) hx hb dX10_plan_433 (by decide) (fun h9 => absurd h9 (by decide)) (fun _ => ?_)
                                                refine lv_iload hx hb dX10_plan_436 (lv_at hl 0 rfl) ?_
                                                refine lv_goto (tgt := 443) hx hb dX10_plan_438 (by decide) ?_
                                                refine gs_iast hx hb hK hI hm hM hS 34 0 (by decide) (fun _ => rfl) (vp_in_iff.mpr ⟨by omega, by omega⟩) dX10_plan_443 (fun st_156 H locs est_156 hM hS => ?_)
                                                have hB_st_156 : gBN bM kM [0, 55, 56, 57, 58, 2900, 3000, 3100, 3200, 3300, 3400, 3500, 3600, 3700, 3800] st st_156 := by rw [est_156]; exact hB_st_155.up (show (3400 : Nat) ∈ _ from by decide) (gi_lo _) (gi_hi _)
                                                refine lv_aload_n hx hb dX10_plan_444 rfl (lv_at hl 5 rfl) ?_
                                                refine lv_iload_n hx hb dX10_plan_445 rfl (lv_at hl 4 rfl) ?_
                                                refine lv_iload hx hb dX10_plan_446 (lv_at hl 3 rfl) ?_
                                                refine lv_aload_n hx hb dX10_plan_448 rfl (lv_at hl 5 rfl) ?_
                                                refine gs_get (C := RX10) (T := TX10) (N := 59) hx hb hts inX10 hown hK hM 0 0 50 (by decide) rfl rfl (by decide) (hts _ gm_951) (fun _ h9 => h9) rfl dX10_plan_449 ?_
                                                refine lv_iload_n hx hb dX10_plan_452 rfl (lv_at hl 4 rfl) ?_
                                                refine gs_iald hx hb hK hM 34 0 (by decide) rfl (vp_in_iff.mpr ⟨by omega, by omega⟩) dX10_plan_453 ?_
                                                refine lv_topi (fun x_157 ex_157 => ?_)
                                                have qx_157 : x_157.toInt = (st_156 34 0 (y25_0.toNatClampNeg)).toInt := congrArg Int32.toInt ex_157
                                                have rx_157 : x_157.toInt = (y144_0 : Int32).toInt := by rw [ex_157]; exact congrArg Int32.toInt (((congrFun (congrFun (congrFun est_156 34) 0) (y25_0.toNatClampNeg)).trans (gU_same _ _ _ _ _)))
                                                refine lv_iload hx hb dX10_plan_454 (lv_at hl 2 rfl) ?_
                                                refine gs_callv (va_runV (As := [.int y25_0, .int x_29, .int x_157, .int x_34]) (rest := []) ⟨hx, hb, hml, hown, hts⟩ (m_goes l G cy sK sV ad H.size st_156 hB_st_156.1 y25_0 x_29 x_157 x_34 y25_0.toInt x_29.toInt x_157.toInt x_34.toInt rfl rfl rfl rfl (by first | decide | omega) (by first | decide | omega) (by first | decide | omega) (by first | decide | omega) (by first | decide | omega)) ⟨(gz_cb (n := 4) hts gm_1285 gm_12 gm_1288 ⟨by decide +kernel, by decide +kernel, by decide +kernel⟩ ⟨Nat.le_of_ble_eq_true rfl, Nat.le_of_ble_eq_true rfl⟩), hts _ gm_1287, hts _ gs_58⟩ (gs_preV hK hov hE hI hM hm hS hA 0 0 (by decide) rfl rfl) rfl rfl hl.1 rfl (lv_room (Nat.le_of_ble_eq_true rfl)) dX10_plan_456 ⟨Nat.le_of_ble_eq_true rfl, Nat.le_of_ble_eq_true rfl⟩) hm hS hA (fun st_158 H locs hw_158 hM hS => ?_)
                                                obtain ⟨n_158, hw_158⟩ := hw_158
                                                have hB_st_158 : gBN bM kM [0, 55, 56, 57, 58, 2900, 3000, 3100, 3200, 3300, 3400, 3500, 3600, 3700, 3800] st st_158 := hB_st_156.call n_158 (by decide)
                                                refine lv_iload hx hb dX10_plan_459 (lv_at hl 3 rfl) ?_
                                                refine lv_iconst (v := 3) hx hb dX10_plan_461 (by decide) ?_
                                                refine lv_icmp_ne (tgt := 480) hx hb dX10_plan_462 (by decide) (fun c_159 => ?_) (fun c_159 => ?_)
                                                · have ic_159 := gz_ne (rfl : x_29.toInt = x_29.toInt) (by decide : (3 : Int32).toInt = 3) c_159
                                                  obtain ⟨x_160, ex_160⟩ : ∃ y : Int32, y = y25_0 + 1 := ⟨_, rfl⟩
                                                  try have tx_160 : x_160.toInt = y25_0.toInt + 1 := by rw [ex_160]; exact gz_addP (x := y25_0.toInt) (y := 1) rfl (by decide) (by omega) (by omega)
                                                  refine lv_iinc (v := (x_160)) (lv' := [(3, .int x_160), (7, .int y144_0), (6, .int 1), (5, .int x_34), (4, .int x_29), (0, .ref (ad 0 0)), (1, .int x), (2, .int y)]) hx hb dX10_plan_480 hl (k := 4) rfl (by rw [ex_160]; rfl) (by decide) rfl (fun ls hl => ?_)
                                                  refine lv_aload_n hx hb dX10_plan_483 rfl (lv_at hl 5 rfl) ?_
                                                  refine gs_get (C := RX10) (T := TX10) (N := 59) hx hb hts inX10 hown hK hM 0 0 49 (by decide) rfl rfl (by decide) (hts _ gm_950) (fun _ h9 => h9) rfl dX10_plan_484 ?_
                                                  refine lv_iload_n hx hb dX10_plan_487 rfl (lv_at hl 0 rfl) ?_
                                                  refine lv_iconst (v := 0) hx hb dX10_plan_488 (by decide) ?_
                                                  refine gs_iast hx hb hK hI hm hM hS 33 0 (by decide) (fun _ => rfl) (vp_in_iff.mpr ⟨by omega, by omega⟩) dX10_plan_489 (fun st_161 H locs est_161 hM hS => ?_)
                                                  have hB_st_161 : gBN bM kM [0, 55, 56, 57, 58, 2900, 3000, 3100, 3200, 3300, 3400, 3500, 3600, 3700, 3800] st st_161 := by rw [est_161]; exact hB_st_158.up (show (3300 : Nat) ∈ _ from by decide) (show (0 : Int) ≤ ((0 : Int32)).toInt from by decide) (show ((0 : Int32)).toInt ≤ (8 : Int) from by decide)
                                                  refine lv_iload hx hb dX10_plan_490 (lv_at hl 4 rfl) ?_
                                                  refine lv_iconst (v := 3) hx hb dX10_plan_492 (by decide) ?_
                                                  refine lv_icmp_ge (tgt := 499) hx hb dX10_plan_493 (by decide) (fun c_162 => ?_) (fun c_162 => ?_)
                                                  · have ic_162 := gz_le (by decide : (3 : Int32).toInt = 3) (rfl : x_29.toInt = x_29.toInt) c_162
                                                    refine lv_aload_n hx hb dX10_plan_499 rfl (lv_at hl 5 rfl) ?_
                                                    refine lv_iload_n hx hb dX10_plan_500 rfl (lv_at hl 0 rfl) ?_
                                                    refine lv_iconst (v := 4) hx hb dX10_plan_501 (by decide) ?_
                                                    refine lv_idiv hx hb dX10_plan_502 (by decide) ?_
                                                    refine lv_topi (fun x_163 ex_163 => ?_)
                                                    try have tx_163 := gs_div2 (y := 4) (by decide) (show 0 ≤ x_160.toInt from by omega) (by omega) ex_163
                                                    refine lv_aload_n hx hb dX10_plan_503 rfl (lv_at hl 5 rfl) ?_
                                                    refine gs_get (C := RX10) (T := TX10) (N := 59) hx hb hts inX10 hown hK hM 0 0 58 (by decide) rfl rfl (by decide) (hts _ gm_959) (fun _ h9 => h9) rfl dX10_plan_504 ?_
                                                    refine lv_topi (fun x_164 ex_164 => ?_)
                                                    have ex_164 : (sv25 0 0 58) = x_164 := Eq.symm (ex_164.trans (((congrFun (congrFun (congrFun est_161 0) 0) 58).trans (congrFun (congrFun (gU_k (by decide)) 0) 58)).trans ((n_158.2 0 0 58 (show (58 : Nat) ∉ _ from by decide)).trans (((congrFun (congrFun (congrFun est_156 0) 0) 58).trans (congrFun (congrFun (gU_k (by decide)) 0) 58)).trans (((congrFun (congrFun (congrFun est_155 0) 0) 58).trans (gU_other (by decide))).trans ((congrFun (congrFun (congrFun est_148 0) 0) 58).trans (congrFun (congrFun (gU_k (by decide)) 0) 58)))))))
                                                    subst ex_164
                                                    refine lv_icmp_le (tgt := 516) hx hb dX10_plan_507 (by decide) (fun c_166 => ?_) (fun c_166 => ?_)
                                                    · have ic_166 := gz_le (rfl : x_163.toInt = x_163.toInt) (rfl : (sv25 0 0 58).toInt = (sv25 0 0 58).toInt) c_166
                                                      refine lv_aload_n hx hb dX10_plan_516 rfl (lv_at hl 5 rfl) ?_
                                                      refine gs_get (C := RX10) (T := TX10) (N := 59) hx hb hts inX10 hown hK hM 0 0 58 (by decide) rfl rfl (by decide) (hts _ gm_959) (fun _ h9 => h9) rfl dX10_plan_517 ?_
                                                      refine lv_topi (fun x_167 ex_167 => ?_)
                                                      have ex_167 : (sv25 0 0 58) = x_167 := Eq.symm (ex_167.trans (((congrFun (congrFun (congrFun est_161 0) 0) 58).trans (congrFun (congrFun (gU_k (by decide)) 0) 58)).trans ((n_158.2 0 0 58 (show (58 : Nat) ∉ _ from by decide)).trans (((congrFun (congrFun (congrFun est_156 0) 0) 58).trans (congrFun (congrFun (gU_k (by decide)) 0) 58)).trans (((congrFun (congrFun (congrFun est_155 0) 0) 58).trans (gU_other (by decide))).trans ((congrFun (congrFun (congrFun est_148 0) 0) 58).trans (congrFun (congrFun (gU_k (by decide)) 0) 58)))))))
                                                      subst ex_167
                                                      refine gs_put (C := RX10) (T := TX10) (N := 59) (ty := .int) (val := .int (sv25 0 0 58)) hx hb hts inX10 tyX10 tyX10_ok nmX10 hown hK hI hm hM hS 0 0 58 (by decide) rfl rfl (by decide) (hts _ gm_959) (fun _ h9 => h9) rfl ((sv25 0 0 58) : Int32) rfl (by decide +kernel) rfl rfl (Nat.le_of_ble_eq_true rfl) dX10_plan_520 (fun st_169 H locs est_169 hM hS => ?_)
                                                      have hB_st_169 : gBN bM kM [0, 55, 56, 57, 58, 2900, 3000, 3100, 3200, 3300, 3400, 3500, 3600, 3700, 3800] st st_169 := by rw [est_169]; exact hB_st_161.up (show (58 : Nat) ∈ _ from by decide) (gi_lo _) (gi_hi _)
                                                      refine lv_iload_n hx hb dX10_plan_523 rfl (lv_at hl 0 rfl) ?_
                                                      refine lv_iconst (v := 4) hx hb dX10_plan_524 (by decide) ?_
                                                      refine lv_iload_n hx hb dX10_plan_525 rfl (lv_at hl 6 rfl) ?_
                                                      refine lv_imul hx hb dX10_plan_526 ?_
                                                      refine lv_topi (fun x_170 ex_170 => ?_)
                                                      try have tx_170 : x_170.toInt = 4 * x.toInt := by rw [ex_170]; exact gz_mulI (x := 4) (y := x.toInt) (by decide) rfl (by omega) (by omega)
                                                      refine lv_icmp_ge (tgt := 539) hx hb dX10_plan_527 (by decide) (fun c_171 => ?_) (fun c_171 => ?_)
                                                      · have ic_171 := gz_le (rfl : x_170.toInt = x_170.toInt) (rfl : x_160.toInt = x_160.toInt) c_171
                                                        refine lv_goto (tgt := 195) hx hb dX10_plan_539 (by decide) ?_
                                                        exact ih_25 st_169 (x_160 : Int32) H _ ls (by rw [show st_169 33 0 = (upd (upd (sv25 33 0) (y25_0.toNatClampNeg) (x_147 : Int32)) (x_160.toNatClampNeg) (0 : Int32)) from ((congrFun (congrFun est_169 33) 0).trans ((congrFun (gU_k (by decide)) 0).trans ((congrFun (congrFun est_161 33) 0).trans ((gU_at _ _ _ _ _).trans (congrArg (fun f9 => upd f9 (x_160.toNatClampNeg) (0 : Int32)) ((funext (fun j9 => n_158.2 33 0 j9 (show (3300 : Nat) ∉ _ from by decide))).trans ((congrFun (congrFun est_156 33) 0).trans ((congrFun (gU_k (by decide)) 0).trans ((congrFun (congrFun est_155 33) 0).trans ((congrFun (gU_k (by decide)) 0).trans ((congrFun (congrFun est_148 33) 0).trans ((gU_at _ _ _ _ _).trans (congrArg (fun f9 => upd f9 (y25_0.toNatClampNeg) (x_147 : Int32)) rfl)))))))))))))]; exact pMu_u (y := y25_0) (by omega) (by omega) (by omega) (show (0 : Int) ≤ _ ∧ _ ≤ (8 : Int) from hB_sv25.1 33 0 _) (by omega) (by omega) hme25) hB_st_169 (by omega) (by omega) hM hS (lv_sub hl [0, 5, 6, 7] rfl)
                                                      · have ic_171 := gz_nle (rfl : x_170.toInt = x_170.toInt) (rfl : x_160.toInt = x_160.toInt) c_171
                                                        have lc_171 := gi_hi x_170
                                                        refine lv_aload_n hx hb dX10_plan_530 rfl (lv_at hl 5 rfl) ?_
                                                        refine lv_iload_n hx hb dX10_plan_531 rfl (lv_at hl 0 rfl) ?_
                                                        refine lv_iload hx hb dX10_plan_532 (lv_at hl 3 rfl) ?_
                                                        refine lv_iconst (v := 1) hx hb dX10_plan_534 (by decide) ?_
                                                        refine lv_iadd hx hb dX10_plan_535 ?_
                                                        refine lv_topi (fun x_172 ex_172 => ?_)
                                                        try have tx_172 : x_172.toInt = x_34.toInt + 1 := by rw [ex_172]; exact gz_addP (x := x_34.toInt) (y := 1) rfl (by decide) (by omega) (by omega)
                                                        refine gs_callv (va_runV (As := [.int x_160, .int x_172]) (rest := []) ⟨hx, hb, hml, hown, hts⟩ (m_dawn l G cy sK sV ad H.size st_169 hB_st_169.1 x_160 x_172 x_160.toInt x_172.toInt rfl rfl (by first | decide | omega) (by first | decide | omega) (by first | decide | omega) (by first | decide | omega) rs bk ((congrArg Int32.toInt ((((congrFun (congrFun (congrFun est_169 0) 0) 28).trans (gU_other (by decide))).trans (((congrFun (congrFun (congrFun est_161 0) 0) 28).trans (congrFun (congrFun (gU_k (by decide)) 0) 28)).trans ((n_158.2 0 0 28 (show (28 : Nat) ∉ _ from by decide)).trans (((congrFun (congrFun (congrFun est_156 0) 0) 28).trans (congrFun (congrFun (gU_k (by decide)) 0) 28)).trans (((congrFun (congrFun (congrFun est_155 0) 0) 28).trans (gU_other (by decide))).trans (((congrFun (congrFun (congrFun est_148 0) 0) 28).trans (congrFun (congrFun (gU_k (by decide)) 0) 28)).trans (hB_sv25.2 0 0 28 (show (28 : Nat) ∉ _ from by decide)))))))))).trans hbk) ((congrArg Int32.toInt ((((congrFun (congrFun (congrFun est_169 0) 0) 29).trans (gU_other (by decide))).trans (((congrFun (congrFun (congrFun est_161 0) 0) 29).trans (congrFun (congrFun (gU_k (by decide)) 0) 29)).trans ((n_158.2 0 0 29 (show (29 : Nat) ∉ _ from by decide)).trans (((congrFun (congrFun (congrFun est_156 0) 0) 29).trans (congrFun (congrFun (gU_k (by decide)) 0) 29)).trans (((congrFun (congrFun (congrFun est_155 0) 0) 29).trans (gU_other (by decide))).trans (((congrFun (congrFun (congrFun est_148 0) 0) 29).trans (congrFun (congrFun (gU_k (by decide)) 0) 29)).trans (hB_sv25.2 0 0 29 (show (29 : Nat) ∉ _ from by decide)))))))))).trans hru) (LM.all hLM (mA.trans (mA.trans (mA.trans (mA.trans (mA.trans (mA.trans (mA.trans mA.rf (mA.frame hB_sv25.2 (by decide))) (mA.upk est_148 (by decide))) (mA.upk est_155 (by decide))) (mA.upk est_156 (by decide))) (mA.frame n_158.2 (by decide))) (mA.upk est_161 (by decide))) (mA.upk est_169 (by decide))))) ⟨(gz_cb (n := 2) hts gm_1277 gm_12 gm_1280 ⟨by decide +kernel, by decide +kernel, by decide +kernel⟩ ⟨Nat.le_of_ble_eq_true rfl, Nat.le_of_ble_eq_true rfl⟩), hts _ gm_1279, hts _ gs_56⟩ (gs_preV hK hov hE hI hM hm hS hA 0 0 (by decide) rfl rfl) rfl rfl hl.1 rfl (lv_room (Nat.le_of_ble_eq_true rfl)) dX10_plan_536 ⟨Nat.le_of_ble_eq_true rfl, Nat.le_of_ble_eq_true rfl⟩) hm hS hA (fun st_173 H locs hw_173 hM hS => ?_)
                                                        obtain ⟨n_173, hw_173⟩ := hw_173
                                                        have hB_st_173 : gBN bM kM [0, 55, 56, 57, 58, 2900, 3000, 3100, 3200, 3300, 3400, 3500, 3600, 3700, 3800] st st_173 := hB_st_169.call n_173 (by decide)
                                                        refine lv_goto (tgt := 195) hx hb dX10_plan_539 (by decide) ?_
                                                        exact ih_25 st_173 (x_160 : Int32) H _ ls (by rw [show st_173 33 0 = (upd (upd (sv25 33 0) (y25_0.toNatClampNeg) (x_147 : Int32)) (x_160.toNatClampNeg) (0 : Int32)) from ((funext (fun j9 => n_173.2 33 0 j9 (show (3300 : Nat) ∉ _ from by decide))).trans ((congrFun (congrFun est_169 33) 0).trans ((congrFun (gU_k (by decide)) 0).trans ((congrFun (congrFun est_161 33) 0).trans ((gU_at _ _ _ _ _).trans (congrArg (fun f9 => upd f9 (x_160.toNatClampNeg) (0 : Int32)) ((funext (fun j9 => n_158.2 33 0 j9 (show (3300 : Nat) ∉ _ from by decide))).trans ((congrFun (congrFun est_156 33) 0).trans ((congrFun (gU_k (by decide)) 0).trans ((congrFun (congrFun est_155 33) 0).trans ((congrFun (gU_k (by decide)) 0).trans ((congrFun (congrFun est_148 33) 0).trans ((gU_at _ _ _ _ _).trans (congrArg (fun f9 => upd f9 (y25_0.toNatClampNeg) (x_147 : Int32)) rfl))))))))))))))]; exact pMu_u (y := y25_0) (by omega) (by omega) (by omega) (show (0 : Int) ≤ _ ∧ _ ≤ (8 : Int) from hB_sv25.1 33 0 _) (by omega) (by omega) hme25) hB_st_173 (by omega) (by omega) hM hS (lv_sub hl [0, 5, 6, 7] rfl)
                                                    · have ic_166 := gz_nle (rfl : x_163.toInt = x_163.toInt) (rfl : (sv25 0 0 58).toInt = (sv25 0 0 58).toInt) c_166
                                                      have lc_166 := gi_hi x_163
                                                      refine lv_iload_n hx hb dX10_plan_510 rfl (lv_at hl 0 rfl) ?_
                                                      refine lv_iconst (v := 4) hx hb dX10_plan_511 (by decide) ?_
                                                      refine lv_idiv hx hb dX10_plan_512 (by decide) ?_
                                                      refine lv_topi (fun x_174 ex_174 => ?_)
                                                      try have tx_174 := gs_div2 (y := 4) (by decide) (show 0 ≤ x_160.toInt from by omega) (by omega) ex_174
                                                      refine lv_goto (tgt := 520) hx hb dX10_plan_513 (by decide) ?_
                                                      refine gs_put (C := RX10) (T := TX10) (N := 59) (ty := .int) (val := .int x_174) hx hb hts inX10 tyX10 tyX10_ok nmX10 hown hK hI hm hM hS 0 0 58 (by decide) rfl rfl (by decide) (hts _ gm_959) (fun _ h9 => h9) rfl (x_174 : Int32) rfl (by decide +kernel) rfl rfl (Nat.le_of_ble_eq_true rfl) dX10_plan_520 (fun st_175 H locs est_175 hM hS => ?_)
                                                      have hB_st_175 : gBN bM kM [0, 55, 56, 57, 58, 2900, 3000, 3100, 3200, 3300, 3400, 3500, 3600, 3700, 3800] st st_175 := by rw [est_175]; exact hB_st_161.up (show (58 : Nat) ∈ _ from by decide) (gi_lo _) (gi_hi _)
                                                      refine lv_iload_n hx hb dX10_plan_523 rfl (lv_at hl 0 rfl) ?_
                                                      refine lv_iconst (v := 4) hx hb dX10_plan_524 (by decide) ?_
                                                      refine lv_iload_n hx hb dX10_plan_525 rfl (lv_at hl 6 rfl) ?_
                                                      refine lv_imul hx hb dX10_plan_526 ?_
                                                      refine lv_topi (fun x_176 ex_176 => ?_)
                                                      try have tx_176 : x_176.toInt = 4 * x.toInt := by rw [ex_176]; exact gz_mulI (x := 4) (y := x.toInt) (by decide) rfl (by omega) (by omega)
                                                      refine lv_icmp_ge (tgt := 539) hx hb dX10_plan_527 (by decide) (fun c_177 => ?_) (fun c_177 => ?_)
                                                      · have ic_177 := gz_le (rfl : x_176.toInt = x_176.toInt) (rfl : x_160.toInt = x_160.toInt) c_177
                                                        refine lv_goto (tgt := 195) hx hb dX10_plan_539 (by decide) ?_
                                                        exact ih_25 st_175 (x_160 : Int32) H _ ls (by rw [show st_175 33 0 = (upd (upd (sv25 33 0) (y25_0.toNatClampNeg) (x_147 : Int32)) (x_160.toNatClampNeg) (0 : Int32)) from ((congrFun (congrFun est_175 33) 0).trans ((congrFun (gU_k (by decide)) 0).trans ((congrFun (congrFun est_161 33) 0).trans ((gU_at _ _ _ _ _).trans (congrArg (fun f9 => upd f9 (x_160.toNatClampNeg) (0 : Int32)) ((funext (fun j9 => n_158.2 33 0 j9 (show (3300 : Nat) ∉ _ from by decide))).trans ((congrFun (congrFun est_156 33) 0).trans ((congrFun (gU_k (by decide)) 0).trans ((congrFun (congrFun est_155 33) 0).trans ((congrFun (gU_k (by decide)) 0).trans ((congrFun (congrFun est_148 33) 0).trans ((gU_at _ _ _ _ _).trans (congrArg (fun f9 => upd f9 (y25_0.toNatClampNeg) (x_147 : Int32)) rfl)))))))))))))]; exact pMu_u (y := y25_0) (by omega) (by omega) (by omega) (show (0 : Int) ≤ _ ∧ _ ≤ (8 : Int) from hB_sv25.1 33 0 _) (by omega) (by omega) hme25) hB_st_175 (by omega) (by omega) hM hS (lv_sub hl [0, 5, 6, 7] rfl)
                                                      · have ic_177 := gz_nle (rfl : x_176.toInt = x_176.toInt) (rfl : x_160.toInt = x_160.toInt) c_177
                                                        have lc_177 := gi_hi x_176
                                                        refine lv_aload_n hx hb dX10_plan_530 rfl (lv_at hl 5 rfl) ?_
                                                        refine lv_iload_n hx hb dX10_plan_531 rfl (lv_at hl 0 rfl) ?_
                                                        refine lv_iload hx hb dX10_plan_532 (lv_at hl 3 rfl) ?_
                                                        refine lv_iconst (v := 1) hx hb dX10_plan_534 (by decide) ?_
                                                        refine lv_iadd hx hb dX10_plan_535 ?_
                                                        refine lv_topi (fun x_178 ex_178 => ?_)
                                                        try have tx_178 : x_178.toInt = x_34.toInt + 1 := by rw [ex_178]; exact gz_addP (x := x_34.toInt) (y := 1) rfl (by decide) (by omega) (by omega)
                                                        refine gs_callv (va_runV (As := [.int x_160, .int x_178]) (rest := []) ⟨hx, hb, hml, hown, hts⟩ (m_dawn l G cy sK sV ad H.size st_175 hB_st_175.1 x_160 x_178 x_160.toInt x_178.toInt rfl rfl (by first | decide | omega) (by first | decide | omega) (by first | decide | omega) (by first | decide | omega) rs bk ((congrArg Int32.toInt ((((congrFun (congrFun (congrFun est_175 0) 0) 28).trans (gU_other (by decide))).trans (((congrFun (congrFun (congrFun est_161 0) 0) 28).trans (congrFun (congrFun (gU_k (by decide)) 0) 28)).trans ((n_158.2 0 0 28 (show (28 : Nat) ∉ _ from by decide)).trans (((congrFun (congrFun (congrFun est_156 0) 0) 28).trans (congrFun (congrFun (gU_k (by decide)) 0) 28)).trans (((congrFun (congrFun (congrFun est_155 0) 0) 28).trans (gU_other (by decide))).trans (((congrFun (congrFun (congrFun est_148 0) 0) 28).trans (congrFun (congrFun (gU_k (by decide)) 0) 28)).trans (hB_sv25.2 0 0 28 (show (28 : Nat) ∉ _ from by decide)))))))))).trans hbk) ((congrArg Int32.toInt ((((congrFun (congrFun (congrFun est_175 0) 0) 29).trans (gU_other (by decide))).trans (((congrFun (congrFun (congrFun est_161 0) 0) 29).trans (congrFun (congrFun (gU_k (by decide)) 0) 29)).trans ((n_158.2 0 0 29 (show (29 : Nat) ∉ _ from by decide)).trans (((congrFun (congrFun (congrFun est_156 0) 0) 29).trans (congrFun (congrFun (gU_k (by decide)) 0) 29)).trans (((congrFun (congrFun (congrFun est_155 0) 0) 29).trans (gU_other (by decide))).trans (((congrFun (congrFun (congrFun est_148 0) 0) 29).trans (congrFun (congrFun (gU_k (by decide)) 0) 29)).trans (hB_sv25.2 0 0 29 (show (29 : Nat) ∉ _ from by decide)))))))))).trans hru) (LM.all hLM (mA.trans (mA.trans (mA.trans (mA.trans (mA.trans (mA.trans (mA.trans mA.rf (mA.frame hB_sv25.2 (by decide))) (mA.upk est_148 (by decide))) (mA.upk est_155 (by decide))) (mA.upk est_156 (by decide))) (mA.frame n_158.2 (by decide))) (mA.upk est_161 (by decide))) (mA.upk est_175 (by decide))))) ⟨(gz_cb (n := 2) hts gm_1277 gm_12 gm_1280 ⟨by decide +kernel, by decide +kernel, by decide +kernel⟩ ⟨Nat.le_of_ble_eq_true rfl, Nat.le_of_ble_eq_true rfl⟩), hts _ gm_1279, hts _ gs_56⟩ (gs_preV hK hov hE hI hM hm hS hA 0 0 (by decide) rfl rfl) rfl rfl hl.1 rfl (lv_room (Nat.le_of_ble_eq_true rfl)) dX10_plan_536 ⟨Nat.le_of_ble_eq_true rfl, Nat.le_of_ble_eq_true rfl⟩) hm hS hA (fun st_179 H locs hw_179 hM hS => ?_)
                                                        obtain ⟨n_179, hw_179⟩ := hw_179
                                                        have hB_st_179 : gBN bM kM [0, 55, 56, 57, 58, 2900, 3000, 3100, 3200, 3300, 3400, 3500, 3600, 3700, 3800] st st_179 := hB_st_175.call n_179 (by decide)
                                                        refine lv_goto (tgt := 195) hx hb dX10_plan_539 (by decide) ?_
                                                        exact ih_25 st_179 (x_160 : Int32) H _ ls (by rw [show st_179 33 0 = (upd (upd (sv25 33 0) (y25_0.toNatClampNeg) (x_147 : Int32)) (x_160.toNatClampNeg) (0 : Int32)) from ((funext (fun j9 => n_179.2 33 0 j9 (show (3300 : Nat) ∉ _ from by decide))).trans ((congrFun (congrFun est_175 33) 0).trans ((congrFun (gU_k (by decide)) 0).trans ((congrFun (congrFun est_161 33) 0).trans ((gU_at _ _ _ _ _).trans (congrArg (fun f9 => upd f9 (x_160.toNatClampNeg) (0 : Int32)) ((funext (fun j9 => n_158.2 33 0 j9 (show (3300 : Nat) ∉ _ from by decide))).trans ((congrFun (congrFun est_156 33) 0).trans ((congrFun (gU_k (by decide)) 0).trans ((congrFun (congrFun est_155 33) 0).trans ((congrFun (gU_k (by decide)) 0).trans ((congrFun (congrFun est_148 33) 0).trans ((gU_at _ _ _ _ _).trans (congrArg (fun f9 => upd f9 (y25_0.toNatClampNeg) (x_147 : Int32)) rfl))))))))))))))]; exact pMu_u (y := y25_0) (by omega) (by omega) (by omega) (show (0 : Int) ≤ _ ∧ _ ≤ (8 : Int) from hB_sv25.1 33 0 _) (by omega) (by omega) hme25) hB_st_179 (by omega) (by omega) hM hS (lv_sub hl [0, 5, 6, 7] rfl)
                                                  · have ic_162 := gz_nle (by decide : (3 : Int32).toInt = 3) (rfl : x_29.toInt = x_29.toInt) c_162
                                                    refine lv_goto (tgt := 195) hx hb dX10_plan_496 (by decide) ?_
                                                    exact ih_25 st_161 (x_160 : Int32) H _ ls (by rw [show st_161 33 0 = (upd (upd (sv25 33 0) (y25_0.toNatClampNeg) (x_147 : Int32)) (x_160.toNatClampNeg) (0 : Int32)) from ((congrFun (congrFun est_161 33) 0).trans ((gU_at _ _ _ _ _).trans (congrArg (fun f9 => upd f9 (x_160.toNatClampNeg) (0 : Int32)) ((funext (fun j9 => n_158.2 33 0 j9 (show (3300 : Nat) ∉ _ from by decide))).trans ((congrFun (congrFun est_156 33) 0).trans ((congrFun (gU_k (by decide)) 0).trans ((congrFun (congrFun est_155 33) 0).trans ((congrFun (gU_k (by decide)) 0).trans ((congrFun (congrFun est_148 33) 0).trans ((gU_at _ _ _ _ _).trans (congrArg (fun f9 => upd f9 (y25_0.toNatClampNeg) (x_147 : Int32)) rfl)))))))))))]; exact pMu_u (y := y25_0) (by omega) (by omega) (by omega) (show (0 : Int) ≤ _ ∧ _ ≤ (8 : Int) from hB_sv25.1 33 0 _) (by omega) (by omega) hme25) hB_st_161 (by omega) (by omega) hM hS (lv_sub hl [0, 5, 6, 7] rfl)
                                                · have ic_159 := gz_eqn (rfl : x_29.toInt = x_29.toInt) (by decide : (3 : Int32).toInt = 3) c_159
                                                  refine lv_aload_n hx hb dX10_plan_465 rfl (lv_at hl 5 rfl) ?_
                                                  refine lv_iload_n hx hb dX10_plan_466 rfl (lv_at hl 4 rfl) ?_
                                                  refine lv_iconst (v := 1) hx hb dX10_plan_467 (by decide) ?_
                                                  refine lv_iadd hx hb dX10_plan_468 ?_
                                                  refine lv_topi (fun x_180 ex_180 => ?_)
                                                  try have tx_180 : x_180.toInt = y25_0.toInt + 1 := by rw [ex_180]; exact gz_addP (x := y25_0.toInt) (y := 1) rfl (by decide) (by omega) (by omega)
                                                  refine lv_iload hx hb dX10_plan_469 (lv_at hl 2 rfl) ?_
                                                  refine gs_calli (va_runV (As := [.int x_180, .int x_34]) (rest := []) ⟨hx, hb, hml, hown, hts⟩ (m_isGood l G cy sK sV ad H.size st_158 hB_st_158.1 x_180 x_34 x_180.toInt x_34.toInt rfl rfl (by first | decide | omega) (by first | decide | omega)) ⟨(gz_cb (n := 2) hts gm_1289 gm_12 gm_1292 ⟨by decide +kernel, by decide +kernel, by decide +kernel⟩ ⟨Nat.le_of_ble_eq_true rfl, Nat.le_of_ble_eq_true rfl⟩), hts _ gm_1291, hts _ gs_59⟩ (gs_preV hK hov hE hI hM hm hS hA 0 0 (by decide) rfl rfl) rfl rfl hl.1 rfl (lv_room (Nat.le_of_ble_eq_true rfl)) dX10_plan_471 ⟨Nat.le_of_ble_eq_true rfl, Nat.le_of_ble_eq_true rfl⟩) hm hS hA (fun r_181 st_181 H locs hw_181 hM hS => ?_)
                                                  obtain ⟨n_181, hw_181⟩ := hw_181
                                                  have n_181 := gBN.nil n_181
                                                  subst n_181
                                                  rcases hw_181 with rfl | rfl
                                                  · skip
                                                    refine lv_if_ne (tgt := 480) hx hb dX10_plan_474 (by decide) (fun _ => ?_) (fun h9 => absurd h9 (by decide))
                                                    obtain ⟨x_182, ex_182⟩ : ∃ y : Int32, y = y25_0 + 1 := ⟨_, rfl⟩
                                                    try have tx_182 : x_182.toInt = y25_0.toInt + 1 := by rw [ex_182]; exact gz_addP (x := y25_0.toInt) (y := 1) rfl (by decide) (by omega) (by omega)
                                                    refine lv_iinc (v := (x_182)) (lv' := [(3, .int x_182), (7, .int y144_0), (6, .int 1), (5, .int x_34), (4, .int x_29), (0, .ref (ad 0 0)), (1, .int x), (2, .int y)]) hx hb dX10_plan_480 hl (k := 4) rfl (by rw [ex_182]; rfl) (by decide) rfl (fun ls hl => ?_)
                                                    refine lv_aload_n hx hb dX10_plan_483 rfl (lv_at hl 5 rfl) ?_
                                                    refine gs_get (C := RX10) (T := TX10) (N := 59) hx hb hts inX10 hown hK hM 0 0 49 (by decide) rfl rfl (by decide) (hts _ gm_950) (fun _ h9 => h9) rfl dX10_plan_484 ?_
                                                    refine lv_iload_n hx hb dX10_plan_487 rfl (lv_at hl 0 rfl) ?_
                                                    refine lv_iconst (v := 0) hx hb dX10_plan_488 (by decide) ?_
                                                    refine gs_iast hx hb hK hI hm hM hS 33 0 (by decide) (fun _ => rfl) (vp_in_iff.mpr ⟨by omega, by omega⟩) dX10_plan_489 (fun st_183 H locs est_183 hM hS => ?_)
                                                    have hB_st_183 : gBN bM kM [0, 55, 56, 57, 58, 2900, 3000, 3100, 3200, 3300, 3400, 3500, 3600, 3700, 3800] st st_183 := by rw [est_183]; exact hB_st_158.up (show (3300 : Nat) ∈ _ from by decide) (show (0 : Int) ≤ ((0 : Int32)).toInt from by decide) (show ((0 : Int32)).toInt ≤ (8 : Int) from by decide)
                                                    refine lv_iload hx hb dX10_plan_490 (lv_at hl 4 rfl) ?_
                                                    refine lv_iconst (v := 3) hx hb dX10_plan_492 (by decide) ?_
                                                    refine lv_icmp_ge (tgt := 499) hx hb dX10_plan_493 (by decide) (fun c_184 => ?_) (fun c_184 => ?_)
                                                    · have ic_184 := gz_le (by decide : (3 : Int32).toInt = 3) (rfl : x_29.toInt = x_29.toInt) c_184
                                                      refine lv_aload_n hx hb dX10_plan_499 rfl (lv_at hl 5 rfl) ?_
                                                      refine lv_iload_n hx hb dX10_plan_500 rfl (lv_at hl 0 rfl) ?_
                                                      refine lv_iconst (v := 4) hx hb dX10_plan_501 (by decide) ?_
                                                      refine lv_idiv hx hb dX10_plan_502 (by decide) ?_
                                                      refine lv_topi (fun x_185 ex_185 => ?_)
                                                      try have tx_185 := gs_div2 (y := 4) (by decide) (show 0 ≤ x_182.toInt from by omega) (by omega) ex_185
                                                      refine lv_aload_n hx hb dX10_plan_503 rfl (lv_at hl 5 rfl) ?_
                                                      refine gs_get (C := RX10) (T := TX10) (N := 59) hx hb hts inX10 hown hK hM 0 0 58 (by decide) rfl rfl (by decide) (hts _ gm_959) (fun _ h9 => h9) rfl dX10_plan_504 ?_
                                                      refine lv_topi (fun x_186 ex_186 => ?_)
                                                      have ex_186 : (sv25 0 0 58) = x_186 := Eq.symm (ex_186.trans (((congrFun (congrFun (congrFun est_183 0) 0) 58).trans (congrFun (congrFun (gU_k (by decide)) 0) 58)).trans ((n_158.2 0 0 58 (show (58 : Nat) ∉ _ from by decide)).trans (((congrFun (congrFun (congrFun est_156 0) 0) 58).trans (congrFun (congrFun (gU_k (by decide)) 0) 58)).trans (((congrFun (congrFun (congrFun est_155 0) 0) 58).trans (gU_other (by decide))).trans ((congrFun (congrFun (congrFun est_148 0) 0) 58).trans (congrFun (congrFun (gU_k (by decide)) 0) 58)))))))
                                                      subst ex_186
                                                      refine lv_icmp_le (tgt := 516) hx hb dX10_plan_507 (by decide) (fun c_188 => ?_) (fun c_188 => ?_)
                                                      · have ic_188 := gz_le (rfl : x_185.toInt = x_185.toInt) (rfl : (sv25 0 0 58).toInt = (sv25 0 0 58).toInt) c_188
                                                        refine lv_aload_n hx hb dX10_plan_516 rfl (lv_at hl 5 rfl) ?_
                                                        refine gs_get (C := RX10) (T := TX10) (N := 59) hx hb hts inX10 hown hK hM 0 0 58 (by decide) rfl rfl (by decide) (hts _ gm_959) (fun _ h9 => h9) rfl dX10_plan_517 ?_
                                                        refine lv_topi (fun x_189 ex_189 => ?_)
                                                        have ex_189 : (sv25 0 0 58) = x_189 := Eq.symm (ex_189.trans (((congrFun (congrFun (congrFun est_183 0) 0) 58).trans (congrFun (congrFun (gU_k (by decide)) 0) 58)).trans ((n_158.2 0 0 58 (show (58 : Nat) ∉ _ from by decide)).trans (((congrFun (congrFun (congrFun est_156 0) 0) 58).trans (congrFun (congrFun (gU_k (by decide)) 0) 58)).trans (((congrFun (congrFun (congrFun est_155 0) 0) 58).trans (gU_other (by decide))).trans ((congrFun (congrFun (congrFun est_148 0) 0) 58).trans (congrFun (congrFun (gU_k (by decide)) 0) 58)))))))
                                                        subst ex_189
                                                        refine gs_put (C := RX10) (T := TX10) (N := 59) (ty := .int) (val := .int (sv25 0 0 58)) hx hb hts inX10 tyX10 tyX10_ok nmX10 hown hK hI hm hM hS 0 0 58 (by decide) rfl rfl (by decide) (hts _ gm_959) (fun _ h9 => h9) rfl ((sv25 0 0 58) : Int32) rfl (by decide +kernel) rfl rfl (Nat.le_of_ble_eq_true rfl) dX10_plan_520 (fun st_191 H locs est_191 hM hS => ?_)
                                                        have hB_st_191 : gBN bM kM [0, 55, 56, 57, 58, 2900, 3000, 3100, 3200, 3300, 3400, 3500, 3600, 3700, 3800] st st_191 := by rw [est_191]; exact hB_st_183.up (show (58 : Nat) ∈ _ from by decide) (gi_lo _) (gi_hi _)
                                                        refine lv_iload_n hx hb dX10_plan_523 rfl (lv_at hl 0 rfl) ?_
                                                        refine lv_iconst (v := 4) hx hb dX10_plan_524 (by decide) ?_
                                                        refine lv_iload_n hx hb dX10_plan_525 rfl (lv_at hl 6 rfl) ?_
                                                        refine lv_imul hx hb dX10_plan_526 ?_
                                                        refine lv_topi (fun x_192 ex_192 => ?_)
                                                        try have tx_192 : x_192.toInt = 4 * x.toInt := by rw [ex_192]; exact gz_mulI (x := 4) (y := x.toInt) (by decide) rfl (by omega) (by omega)
                                                        refine lv_icmp_ge (tgt := 539) hx hb dX10_plan_527 (by decide) (fun c_193 => ?_) (fun c_193 => ?_)
                                                        · have ic_193 := gz_le (rfl : x_192.toInt = x_192.toInt) (rfl : x_182.toInt = x_182.toInt) c_193
                                                          refine lv_goto (tgt := 195) hx hb dX10_plan_539 (by decide) ?_
                                                          exact ih_25 st_191 (x_182 : Int32) H _ ls (by rw [show st_191 33 0 = (upd (upd (sv25 33 0) (y25_0.toNatClampNeg) (x_147 : Int32)) (x_182.toNatClampNeg) (0 : Int32)) from ((congrFun (congrFun est_191 33) 0).trans ((congrFun (gU_k (by decide)) 0).trans ((congrFun (congrFun est_183 33) 0).trans ((gU_at _ _ _ _ _).trans (congrArg (fun f9 => upd f9 (x_182.toNatClampNeg) (0 : Int32)) ((funext (fun j9 => n_158.2 33 0 j9 (show (3300 : Nat) ∉ _ from by decide))).trans ((congrFun (congrFun est_156 33) 0).trans ((congrFun (gU_k (by decide)) 0).trans ((congrFun (congrFun est_155 33) 0).trans ((congrFun (gU_k (by decide)) 0).trans ((congrFun (congrFun est_148 33) 0).trans ((gU_at _ _ _ _ _).trans (congrArg (fun f9 => upd f9 (y25_0.toNatClampNeg) (x_147 : Int32)) rfl)))))))))))))]; exact pMu_u (y := y25_0) (by omega) (by omega) (by omega) (show (0 : Int) ≤ _ ∧ _ ≤ (8 : Int) from hB_sv25.1 33 0 _) (by omega) (by omega) hme25) hB_st_191 (by omega) (by omega) hM hS (lv_sub hl [0, 5, 6, 7] rfl)
                                                        · have ic_193 := gz_nle (rfl : x_192.toInt = x_192.toInt) (rfl : x_182.toInt = x_182.toInt) c_193
                                                          have lc_193 := gi_hi x_192
                                                          refine lv_aload_n hx hb dX10_plan_530 rfl (lv_at hl 5 rfl) ?_
                                                          refine lv_iload_n hx hb dX10_plan_531 rfl (lv_at hl 0 rfl) ?_
                                                          refine lv_iload hx hb dX10_plan_532 (lv_at hl 3 rfl) ?_
                                                          refine lv_iconst (v := 1) hx hb dX10_plan_534 (by decide) ?_
                                                          refine lv_iadd hx hb dX10_plan_535 ?_
                                                          refine lv_topi (fun x_194 ex_194 => ?_)
                                                          try have tx_194 : x_194.toInt = x_34.toInt + 1 := by rw [ex_194]; exact gz_addP (x := x_34.toInt) (y := 1) rfl (by decide) (by omega) (by omega)
                                                          refine gs_callv (va_runV (As := [.int x_182, .int x_194]) (rest := []) ⟨hx, hb, hml, hown, hts⟩ (m_dawn l G cy sK sV ad H.size st_191 hB_st_191.1 x_182 x_194 x_182.toInt x_194.toInt rfl rfl (by first | decide | omega) (by first | decide | omega) (by first | decide | omega) (by first | decide | omega) rs bk ((congrArg Int32.toInt ((((congrFun (congrFun (congrFun est_191 0) 0) 28).trans (gU_other (by decide))).trans (((congrFun (congrFun (congrFun est_183 0) 0) 28).trans (congrFun (congrFun (gU_k (by decide)) 0) 28)).trans ((n_158.2 0 0 28 (show (28 : Nat) ∉ _ from by decide)).trans (((congrFun (congrFun (congrFun est_156 0) 0) 28).trans (congrFun (congrFun (gU_k (by decide)) 0) 28)).trans (((congrFun (congrFun (congrFun est_155 0) 0) 28).trans (gU_other (by decide))).trans (((congrFun (congrFun (congrFun est_148 0) 0) 28).trans (congrFun (congrFun (gU_k (by decide)) 0) 28)).trans (hB_sv25.2 0 0 28 (show (28 : Nat) ∉ _ from by decide)))))))))).trans hbk) ((congrArg Int32.toInt ((((congrFun (congrFun (congrFun est_191 0) 0) 29).trans (gU_other (by decide))).trans (((congrFun (congrFun (congrFun est_183 0) 0) 29).trans (congrFun (congrFun (gU_k (by decide)) 0) 29)).trans ((n_158.2 0 0 29 (show (29 : Nat) ∉ _ from by decide)).trans (((congrFun (congrFun (congrFun est_156 0) 0) 29).trans (congrFun (congrFun (gU_k (by decide)) 0) 29)).trans (((congrFun (congrFun (congrFun est_155 0) 0) 29).trans (gU_other (by decide))).trans (((congrFun (congrFun (congrFun est_148 0) 0) 29).trans (congrFun (congrFun (gU_k (by decide)) 0) 29)).trans (hB_sv25.2 0 0 29 (show (29 : Nat) ∉ _ from by decide)))))))))).trans hru) (LM.all hLM (mA.trans (mA.trans (mA.trans (mA.trans (mA.trans (mA.trans (mA.trans mA.rf (mA.frame hB_sv25.2 (by decide))) (mA.upk est_148 (by decide))) (mA.upk est_155 (by decide))) (mA.upk est_156 (by decide))) (mA.frame n_158.2 (by decide))) (mA.upk est_183 (by decide))) (mA.upk est_191 (by decide))))) ⟨(gz_cb (n := 2) hts gm_1277 gm_12 gm_1280 ⟨by decide +kernel, by decide +kernel, by decide +kernel⟩ ⟨Nat.le_of_ble_eq_true rfl, Nat.le_of_ble_eq_true rfl⟩), hts _ gm_1279, hts _ gs_56⟩ (gs_preV hK hov hE hI hM hm hS hA 0 0 (by decide) rfl rfl) rfl rfl hl.1 rfl (lv_room (Nat.le_of_ble_eq_true rfl)) dX10_plan_536 ⟨Nat.le_of_ble_eq_true rfl, Nat.le_of_ble_eq_true rfl⟩) hm hS hA (fun st_195 H locs hw_195 hM hS => ?_)
                                                          obtain ⟨n_195, hw_195⟩ := hw_195
                                                          have hB_st_195 : gBN bM kM [0, 55, 56, 57, 58, 2900, 3000, 3100, 3200, 3300, 3400, 3500, 3600, 3700, 3800] st st_195 := hB_st_191.call n_195 (by decide)
                                                          refine lv_goto (tgt := 195) hx hb dX10_plan_539 (by decide) ?_
                                                          exact ih_25 st_195 (x_182 : Int32) H _ ls (by rw [show st_195 33 0 = (upd (upd (sv25 33 0) (y25_0.toNatClampNeg) (x_147 : Int32)) (x_182.toNatClampNeg) (0 : Int32)) from ((funext (fun j9 => n_195.2 33 0 j9 (show (3300 : Nat) ∉ _ from by decide))).trans ((congrFun (congrFun est_191 33) 0).trans ((congrFun (gU_k (by decide)) 0).trans ((congrFun (congrFun est_183 33) 0).trans ((gU_at _ _ _ _ _).trans (congrArg (fun f9 => upd f9 (x_182.toNatClampNeg) (0 : Int32)) ((funext (fun j9 => n_158.2 33 0 j9 (show (3300 : Nat) ∉ _ from by decide))).trans ((congrFun (congrFun est_156 33) 0).trans ((congrFun (gU_k (by decide)) 0).trans ((congrFun (congrFun est_155 33) 0).trans ((congrFun (gU_k (by decide)) 0).trans ((congrFun (congrFun est_148 33) 0).trans ((gU_at _ _ _ _ _).trans (congrArg (fun f9 => upd f9 (y25_0.toNatClampNeg) (x_147 : Int32)) rfl))))))))))))))]; exact pMu_u (y := y25_0) (by omega) (by omega) (by omega) (show (0 : Int) ≤ _ ∧ _ ≤ (8 : Int) from hB_sv25.1 33 0 _) (by omega) (by omega) hme25) hB_st_195 (by omega) (by omega) hM hS (lv_sub hl [0, 5, 6, 7] rfl)
                                                      · have ic_188 := gz_nle (rfl : x_185.toInt = x_185.toInt) (rfl : (sv25 0 0 58).toInt = (sv25 0 0 58).toInt) c_188
                                                        have lc_188 := gi_hi x_185
                                                        refine lv_iload_n hx hb dX10_plan_510 rfl (lv_at hl 0 rfl) ?_
                                                        refine lv_iconst (v := 4) hx hb dX10_plan_511 (by decide) ?_
                                                        refine lv_idiv hx hb dX10_plan_512 (by decide) ?_
                                                        refine lv_topi (fun x_196 ex_196 => ?_)
                                                        try have tx_196 := gs_div2 (y := 4) (by decide) (show 0 ≤ x_182.toInt from by omega) (by omega) ex_196
                                                        refine lv_goto (tgt := 520) hx hb dX10_plan_513 (by decide) ?_
                                                        refine gs_put (C := RX10) (T := TX10) (N := 59) (ty := .int) (val := .int x_196) hx hb hts inX10 tyX10 tyX10_ok nmX10 hown hK hI hm hM hS 0 0 58 (by decide) rfl rfl (by decide) (hts _ gm_959) (fun _ h9 => h9) rfl (x_196 : Int32) rfl (by decide +kernel) rfl rfl (Nat.le_of_ble_eq_true rfl) dX10_plan_520 (fun st_197 H locs est_197 hM hS => ?_)
                                                        have hB_st_197 : gBN bM kM [0, 55, 56, 57, 58, 2900, 3000, 3100, 3200, 3300, 3400, 3500, 3600, 3700, 3800] st st_197 := by rw [est_197]; exact hB_st_183.up (show (58 : Nat) ∈ _ from by decide) (gi_lo _) (gi_hi _)
                                                        refine lv_iload_n hx hb dX10_plan_523 rfl (lv_at hl 0 rfl) ?_
                                                        refine lv_iconst (v := 4) hx hb dX10_plan_524 (by decide) ?_
                                                        refine lv_iload_n hx hb dX10_plan_525 rfl (lv_at hl 6 rfl) ?_
                                                        refine lv_imul hx hb dX10_plan_526 ?_
                                                        refine lv_topi (fun x_198 ex_198 => ?_)
                                                        try have tx_198 : x_198.toInt = 4 * x.toInt := by rw [ex_198]; exact gz_mulI (x := 4) (y := x.toInt) (by decide) rfl (by omega) (by omega)
                                                        refine lv_icmp_ge (tgt := 539) hx hb dX10_plan_527 (by decide) (fun c_199 => ?_) (fun c_199 => ?_)
                                                        · have ic_199 := gz_le (rfl : x_198.toInt = x_198.toInt) (rfl : x_182.toInt = x_182.toInt) c_199
                                                          refine lv_goto (tgt := 195) hx hb dX10_plan_539 (by decide) ?_
                                                          exact ih_25 st_197 (x_182 : Int32) H _ ls (by rw [show st_197 33 0 = (upd (upd (sv25 33 0) (y25_0.toNatClampNeg) (x_147 : Int32)) (x_182.toNatClampNeg) (0 : Int32)) from ((congrFun (congrFun est_197 33) 0).trans ((congrFun (gU_k (by decide)) 0).trans ((congrFun (congrFun est_183 33) 0).trans ((gU_at _ _ _ _ _).trans (congrArg (fun f9 => upd f9 (x_182.toNatClampNeg) (0 : Int32)) ((funext (fun j9 => n_158.2 33 0 j9 (show (3300 : Nat) ∉ _ from by decide))).trans ((congrFun (congrFun est_156 33) 0).trans ((congrFun (gU_k (by decide)) 0).trans ((congrFun (congrFun est_155 33) 0).trans ((congrFun (gU_k (by decide)) 0).trans ((congrFun (congrFun est_148 33) 0).trans ((gU_at _ _ _ _ _).trans (congrArg (fun f9 => upd f9 (y25_0.toNatClampNeg) (x_147 : Int32)) rfl)))))))))))))]; exact pMu_u (y := y25_0) (by omega) (by omega) (by omega) (show (0 : Int) ≤ _ ∧ _ ≤ (8 : Int) from hB_sv25.1 33 0 _) (by omega) (by omega) hme25) hB_st_197 (by omega) (by omega) hM hS (lv_sub hl [0, 5, 6, 7] rfl)
                                                        · have ic_199 := gz_nle (rfl : x_198.toInt = x_198.toInt) (rfl : x_182.toInt = x_182.toInt) c_199
                                                          have lc_199 := gi_hi x_198
                                                          refine lv_aload_n hx hb dX10_plan_530 rfl (lv_at hl 5 rfl) ?_
                                                          refine lv_iload_n hx hb dX10_plan_531 rfl (lv_at hl 0 rfl) ?_
                                                          refine lv_iload hx hb dX10_plan_532 (lv_at hl 3 rfl) ?_
                                                          refine lv_iconst (v := 1) hx hb dX10_plan_534 (by decide) ?_
                                                          refine lv_iadd hx hb dX10_plan_535 ?_
                                                          refine lv_topi (fun x_200 ex_200 => ?_)
                                                          try have tx_200 : x_200.toInt = x_34.toInt + 1 := by rw [ex_200]; exact gz_addP (x := x_34.toInt) (y := 1) rfl (by decide) (by omega) (by omega)
                                                          refine gs_callv (va_runV (As := [.int x_182, .int x_200]) (rest := []) ⟨hx, hb, hml, hown, hts⟩ (m_dawn l G cy sK sV ad H.size st_197 hB_st_197.1 x_182 x_200 x_182.toInt x_200.toInt rfl rfl (by first | decide | omega) (by first | decide | omega) (by first | decide | omega) (by first | decide | omega) rs bk ((congrArg Int32.toInt ((((congrFun (congrFun (congrFun est_197 0) 0) 28).trans (gU_other (by decide))).trans (((congrFun (congrFun (congrFun est_183 0) 0) 28).trans (congrFun (congrFun (gU_k (by decide)) 0) 28)).trans ((n_158.2 0 0 28 (show (28 : Nat) ∉ _ from by decide)).trans (((congrFun (congrFun (congrFun est_156 0) 0) 28).trans (congrFun (congrFun (gU_k (by decide)) 0) 28)).trans (((congrFun (congrFun (congrFun est_155 0) 0) 28).trans (gU_other (by decide))).trans (((congrFun (congrFun (congrFun est_148 0) 0) 28).trans (congrFun (congrFun (gU_k (by decide)) 0) 28)).trans (hB_sv25.2 0 0 28 (show (28 : Nat) ∉ _ from by decide)))))))))).trans hbk) ((congrArg Int32.toInt ((((congrFun (congrFun (congrFun est_197 0) 0) 29).trans (gU_other (by decide))).trans (((congrFun (congrFun (congrFun est_183 0) 0) 29).trans (congrFun (congrFun (gU_k (by decide)) 0) 29)).trans ((n_158.2 0 0 29 (show (29 : Nat) ∉ _ from by decide)).trans (((congrFun (congrFun (congrFun est_156 0) 0) 29).trans (congrFun (congrFun (gU_k (by decide)) 0) 29)).trans (((congrFun (congrFun (congrFun est_155 0) 0) 29).trans (gU_other (by decide))).trans (((congrFun (congrFun (congrFun est_148 0) 0) 29).trans (congrFun (congrFun (gU_k (by decide)) 0) 29)).trans (hB_sv25.2 0 0 29 (show (29 : Nat) ∉ _ from by decide)))))))))).trans hru) (LM.all hLM (mA.trans (mA.trans (mA.trans (mA.trans (mA.trans (mA.trans (mA.trans mA.rf (mA.frame hB_sv25.2 (by decide))) (mA.upk est_148 (by decide))) (mA.upk est_155 (by decide))) (mA.upk est_156 (by decide))) (mA.frame n_158.2 (by decide))) (mA.upk est_183 (by decide))) (mA.upk est_197 (by decide))))) ⟨(gz_cb (n := 2) hts gm_1277 gm_12 gm_1280 ⟨by decide +kernel, by decide +kernel, by decide +kernel⟩ ⟨Nat.le_of_ble_eq_true rfl, Nat.le_of_ble_eq_true rfl⟩), hts _ gm_1279, hts _ gs_56⟩ (gs_preV hK hov hE hI hM hm hS hA 0 0 (by decide) rfl rfl) rfl rfl hl.1 rfl (lv_room (Nat.le_of_ble_eq_true rfl)) dX10_plan_536 ⟨Nat.le_of_ble_eq_true rfl, Nat.le_of_ble_eq_true rfl⟩) hm hS hA (fun st_201 H locs hw_201 hM hS => ?_)
                                                          obtain ⟨n_201, hw_201⟩ := hw_201
                                                          have hB_st_201 : gBN bM kM [0, 55, 56, 57, 58, 2900, 3000, 3100, 3200, 3300, 3400, 3500, 3600, 3700, 3800] st st_201 := hB_st_197.call n_201 (by decide)
                                                          refine lv_goto (tgt := 195) hx hb dX10_plan_539 (by decide) ?_
                                                          exact ih_25 st_201 (x_182 : Int32) H _ ls (by rw [show st_201 33 0 = (upd (upd (sv25 33 0) (y25_0.toNatClampNeg) (x_147 : Int32)) (x_182.toNatClampNeg) (0 : Int32)) from ((funext (fun j9 => n_201.2 33 0 j9 (show (3300 : Nat) ∉ _ from by decide))).trans ((congrFun (congrFun est_197 33) 0).trans ((congrFun (gU_k (by decide)) 0).trans ((congrFun (congrFun est_183 33) 0).trans ((gU_at _ _ _ _ _).trans (congrArg (fun f9 => upd f9 (x_182.toNatClampNeg) (0 : Int32)) ((funext (fun j9 => n_158.2 33 0 j9 (show (3300 : Nat) ∉ _ from by decide))).trans ((congrFun (congrFun est_156 33) 0).trans ((congrFun (gU_k (by decide)) 0).trans ((congrFun (congrFun est_155 33) 0).trans ((congrFun (gU_k (by decide)) 0).trans ((congrFun (congrFun est_148 33) 0).trans ((gU_at _ _ _ _ _).trans (congrArg (fun f9 => upd f9 (y25_0.toNatClampNeg) (x_147 : Int32)) rfl))))))))))))))]; exact pMu_u (y := y25_0) (by omega) (by omega) (by omega) (show (0 : Int) ≤ _ ∧ _ ≤ (8 : Int) from hB_sv25.1 33 0 _) (by omega) (by omega) hme25) hB_st_201 (by omega) (by omega) hM hS (lv_sub hl [0, 5, 6, 7] rfl)
                                                    · have ic_184 := gz_nle (by decide : (3 : Int32).toInt = 3) (rfl : x_29.toInt = x_29.toInt) c_184
                                                      refine lv_goto (tgt := 195) hx hb dX10_plan_496 (by decide) ?_
                                                      exact ih_25 st_183 (x_182 : Int32) H _ ls (by rw [show st_183 33 0 = (upd (upd (sv25 33 0) (y25_0.toNatClampNeg) (x_147 : Int32)) (x_182.toNatClampNeg) (0 : Int32)) from ((congrFun (congrFun est_183 33) 0).trans ((gU_at _ _ _ _ _).trans (congrArg (fun f9 => upd f9 (x_182.toNatClampNeg) (0 : Int32)) ((funext (fun j9 => n_158.2 33 0 j9 (show (3300 : Nat) ∉ _ from by decide))).trans ((congrFun (congrFun est_156 33) 0).trans ((congrFun (gU_k (by decide)) 0).trans ((congrFun (congrFun est_155 33) 0).trans ((congrFun (gU_k (by decide)) 0).trans ((congrFun (congrFun est_148 33) 0).trans ((gU_at _ _ _ _ _).trans (congrArg (fun f9 => upd f9 (y25_0.toNatClampNeg) (x_147 : Int32)) rfl)))))))))))]; exact pMu_u (y := y25_0) (by omega) (by omega) (by omega) (show (0 : Int) ≤ _ ∧ _ ≤ (8 : Int) from hB_sv25.1 33 0 _) (by omega) (by omega) hme25) hB_st_183 (by omega) (by omega) hM hS (lv_sub hl [0, 5, 6, 7] rfl)
                                                  · skip
                                                    refine lv_if_ne (tgt := 480) hx hb dX10_plan_474 (by decide) (fun h9 => absurd (by decide) h9) (fun _ => ?_)
                                                    refine lv_goto (tgt := 195) hx hb dX10_plan_477 (by decide) ?_
                                                    exact ih_25 st_158 (y25_0 : Int32) H _ ls (by rw [show st_158 33 0 = (upd (sv25 33 0) (y25_0.toNatClampNeg) (x_147 : Int32)) from ((funext (fun j9 => n_158.2 33 0 j9 (show (3300 : Nat) ∉ _ from by decide))).trans ((congrFun (congrFun est_156 33) 0).trans ((congrFun (gU_k (by decide)) 0).trans ((congrFun (congrFun est_155 33) 0).trans ((congrFun (gU_k (by decide)) 0).trans ((congrFun (congrFun est_148 33) 0).trans ((gU_at _ _ _ _ _).trans (congrArg (fun f9 => upd f9 (y25_0.toNatClampNeg) (x_147 : Int32)) rfl))))))))]; exact pMu_s (y := y25_0) (by omega) (show (0 : Int) ≤ _ ∧ _ ≤ (8 : Int) from hB_sv25.1 33 0 _) (by omega) hme25) hB_st_158 (by omega) (by omega) hM hS (lv_sub hl [4, 5, 6, 7] rfl)
                                              · have ic_151 := gz_eqn (rfl : (sv25 0 0 57).toInt = (sv25 0 0 57).toInt) (rfl : y.toInt = y.toInt) c_151
                                                refine lv_iconst (v := 2) hx hb dX10_plan_414 (by decide) ?_
                                                rw [← hQe]
                                                exact gs_iret hx hb hr hlocks hM hS rfl ⟨hB_st_148, trivial⟩ (by exact Nat.le_refl _) (by exact Nat.le_refl _) dX10_plan_415
                                            · have ic_146 := gz_nlt (rfl : y144_0.toInt = y144_0.toInt) (by decide : (8 : Int32).toInt = 8) c_146
                                              obtain ⟨x_202, ex_202⟩ : ∃ y : Int32, y = y25_0 + (-1) := ⟨_, rfl⟩
                                              try have tx_202 : x_202.toInt = y25_0.toInt + (-1) := by rw [ex_202]; exact gz_addI (x := y25_0.toInt) (y := (-1)) rfl (by decide) (by omega) (by omega)
                                              refine lv_iinc (v := (x_202)) (lv' := [(3, .int x_202), (7, .int y144_0), (6, .int 1), (5, .int x_34), (4, .int x_29), (0, .ref (ad 0 0)), (1, .int x), (2, .int y)]) hx hb dX10_plan_385 hl (k := 4) rfl (by rw [ex_202]; rfl) (by decide) rfl (fun ls hl => ?_)
                                              refine lv_goto (tgt := 195) hx hb dX10_plan_388 (by decide) ?_
                                              exact ih_25 sv25 (x_202 : Int32) H _ ls (by exact pMu_d (y := y25_0) (by omega) (by omega) (show (0 : Int) ≤ _ ∧ _ ≤ (8 : Int) from hB_sv25.1 33 0 _) hme25) hB_sv25 (by omega) (by omega) hM hS (lv_sub hl [0, 5, 6, 7] rfl)
                                          · have ic_145 := gz_nle (by decide : (8 : Int32).toInt = 8) (rfl : y144_0.toInt = y144_0.toInt) c_145
                                            refine lv_aload_n hx hb dX10_plan_351 rfl (lv_at hl 5 rfl) ?_
                                            refine lv_iload_n hx hb dX10_plan_352 rfl (lv_at hl 4 rfl) ?_
                                            refine lv_iload hx hb dX10_plan_353 (lv_at hl 3 rfl) ?_
                                            refine lv_iload hx hb dX10_plan_355 (lv_at hl 0 rfl) ?_
                                            refine gs_calli (va_runV (As := [.int y25_0, .int x_29, .int y144_0]) (rest := []) ⟨hx, hb, hml, hown, hts⟩ (m_mayDo l G cy sK sV ad H.size sv25 hB_sv25.1 y25_0 x_29 y144_0 y25_0.toInt x_29.toInt y144_0.toInt rfl rfl rfl (by first | decide | omega) (by first | decide | omega) (by first | decide | omega) (by first | decide | omega) (by first | decide | omega) (by first | decide | omega) rs bk ((congrArg Int32.toInt ((hB_sv25.2 0 0 28 (show (28 : Nat) ∉ _ from by decide)))).trans hbk) ((congrArg Int32.toInt ((hB_sv25.2 0 0 29 (show (29 : Nat) ∉ _ from by decide)))).trans hru) (LM.all hLM (mA.trans mA.rf (mA.frame hB_sv25.2 (by decide)))) hwf) ⟨(gz_cb (n := 3) hts gm_1281 gm_12 gm_1284 ⟨by decide +kernel, by decide +kernel, by decide +kernel⟩ ⟨Nat.le_of_ble_eq_true rfl, Nat.le_of_ble_eq_true rfl⟩), hts _ gm_1283, hts _ gs_57⟩ (gs_preV hK hov hE hI hM hm hS hA 0 0 (by decide) rfl rfl) rfl rfl hl.1 rfl (lv_room (Nat.le_of_ble_eq_true rfl)) dX10_plan_357 ⟨Nat.le_of_ble_eq_true rfl, Nat.le_of_ble_eq_true rfl⟩) hm hS hA (fun r_203 st_203 H locs hw_203 hM hS => ?_)
                                            obtain ⟨n_203, hw_203⟩ := hw_203
                                            have n_203 := gBN.nil n_203
                                            subst n_203
                                            rcases hw_203 with rfl | rfl
                                            · skip
                                              refine lv_if_ne (tgt := 369) hx hb dX10_plan_360 (by decide) (fun _ => ?_) (fun h9 => absurd h9 (by decide))
                                              refine lv_iload hx hb dX10_plan_369 (lv_at hl 0 rfl) ?_
                                              refine lv_iload hx hb dX10_plan_371 (lv_at hl 1 rfl) ?_
                                              refine lv_if_eq (tgt := 381) hx hb dX10_plan_373 (by decide) (fun h9 => absurd h9 (by decide)) (fun _ => ?_)
                                              refine lv_bipush (v := 8) hx hb dX10_plan_376 (by decide) ?_
                                              refine lv_goto (tgt := 382) hx hb dX10_plan_378 (by decide) ?_
                                              refine lv_icmp_lt (tgt := 391) hx hb dX10_plan_382 (by decide) (fun c_204 => ?_) (fun c_204 => ?_)
                                              · have ic_204 := gz_lt (rfl : y144_0.toInt = y144_0.toInt) (by decide : (8 : Int32).toInt = 8) c_204
                                                refine lv_aload_n hx hb dX10_plan_391 rfl (lv_at hl 5 rfl) ?_
                                                refine gs_get (C := RX10) (T := TX10) (N := 59) hx hb hts inX10 hown hK hM 0 0 49 (by decide) rfl rfl (by decide) (hts _ gm_950) (fun _ h9 => h9) rfl dX10_plan_392 ?_
                                                refine lv_iload_n hx hb dX10_plan_395 rfl (lv_at hl 4 rfl) ?_
                                                refine lv_iload hx hb dX10_plan_396 (lv_at hl 0 rfl) ?_
                                                refine lv_iconst (v := 1) hx hb dX10_plan_398 (by decide) ?_
                                                refine lv_iadd hx hb dX10_plan_399 ?_
                                                refine lv_topi (fun x_205 ex_205 => ?_)
                                                try have tx_205 : x_205.toInt = y144_0.toInt + 1 := by rw [ex_205]; exact gz_addP (x := y144_0.toInt) (y := 1) rfl (by decide) (by omega) (by omega)
                                                refine gs_iast hx hb hK hI hm hM hS 33 0 (by decide) (fun _ => rfl) (vp_in_iff.mpr ⟨by omega, by omega⟩) dX10_plan_400 (fun st_206 H locs est_206 hM hS => ?_)
                                                have hB_st_206 : gBN bM kM [0, 55, 56, 57, 58, 2900, 3000, 3100, 3200, 3300, 3400, 3500, 3600, 3700, 3800] st st_206 := by rw [est_206]; exact hB_sv25.up (show (3300 : Nat) ∈ _ from by decide) (show (0 : Int) ≤ x_205.toInt from by omega) (show x_205.toInt ≤ (8 : Int) from by omega)
                                                refine lv_iload hx hb dX10_plan_401 (lv_at hl 1 rfl) ?_
                                                refine lv_if_eq (tgt := 426) hx hb dX10_plan_403 (by decide) (fun h9 => absurd h9 (by decide)) (fun _ => ?_)
                                                refine lv_aload_n hx hb dX10_plan_406 rfl (lv_at hl 5 rfl) ?_
                                                refine gs_get (C := RX10) (T := TX10) (N := 59) hx hb hts inX10 hown hK hM 0 0 57 (by decide) rfl rfl (by decide) (hts _ gm_958) (fun _ h9 => h9) rfl dX10_plan_407 ?_
                                                refine lv_topi (fun x_207 ex_207 => ?_)
                                                have ex_207 : (sv25 0 0 57) = x_207 := Eq.symm (ex_207.trans ((congrFun (congrFun (congrFun est_206 0) 0) 57).trans (congrFun (congrFun (gU_k (by decide)) 0) 57)))
                                                subst ex_207
                                                refine lv_iload_n hx hb dX10_plan_410 rfl (lv_at hl 7 rfl) ?_
                                                refine lv_icmp_ne (tgt := 416) hx hb dX10_plan_411 (by decide) (fun c_209 => ?_) (fun c_209 => ?_)
                                                · have ic_209 := gz_ne (rfl : (sv25 0 0 57).toInt = (sv25 0 0 57).toInt) (rfl : y.toInt = y.toInt) c_209
                                                  refine lv_aload_n hx hb dX10_plan_416 rfl (lv_at hl 5 rfl) ?_
                                                  refine lv_dup hx hb dX10_plan_417 rfl ?_
                                                  refine gs_get (C := RX10) (T := TX10) (N := 59) hx hb hts inX10 hown hK hM 0 0 57 (by decide) rfl rfl (by decide) (hts _ gm_958) (fun _ h9 => h9) rfl dX10_plan_418 ?_
                                                  refine lv_topi (fun x_210 ex_210 => ?_)
                                                  have ex_210 : (sv25 0 0 57) = x_210 := Eq.symm (ex_210.trans ((congrFun (congrFun (congrFun est_206 0) 0) 57).trans (congrFun (congrFun (gU_k (by decide)) 0) 57)))
                                                  subst ex_210
                                                  refine lv_iconst (v := 1) hx hb dX10_plan_421 (by decide) ?_
                                                  refine lv_iadd hx hb dX10_plan_422 ?_
                                                  refine lv_topi (fun x_212 ex_212 => ?_)
                                                  refine gs_put (C := RX10) (T := TX10) (N := 59) (ty := .int) (val := .int x_212) hx hb hts inX10 tyX10 tyX10_ok nmX10 hown hK hI hm hM hS 0 0 57 (by decide) rfl rfl (by decide) (hts _ gm_958) (fun _ h9 => h9) rfl (x_212 : Int32) rfl (by decide +kernel) rfl rfl (Nat.le_of_ble_eq_true rfl) dX10_plan_423 (fun st_213 H locs est_213 hM hS => ?_)
                                                  have hB_st_213 : gBN bM kM [0, 55, 56, 57, 58, 2900, 3000, 3100, 3200, 3300, 3400, 3500, 3600, 3700, 3800] st st_213 := by rw [est_213]; exact hB_st_206.up (show (57 : Nat) ∈ _ from by decide) (gi_lo _) (gi_hi _)
                                                  refine lv_aload_n hx hb dX10_plan_426 rfl (lv_at hl 5 rfl) ?_
                                                  refine gs_get (C := RX10) (T := TX10) (N := 59) hx hb hts inX10 hown hK hM 0 0 50 (by decide) rfl rfl (by decide) (hts _ gm_951) (fun _ h9 => h9) rfl dX10_plan_427 ?_
                                                  refine lv_iload_n hx hb dX10_plan_430 rfl (lv_at hl 4 rfl) ?_
                                                  refine lv_iload hx hb dX10_plan_431 (lv_at hl 1 rfl) ?_
                                                  refine lv_if_eq (tgt := 441) hx hb dX10_plan_433 (by decide) (fun h9 => absurd h9 (by decide)) (fun _ => ?_)
                                                  refine lv_iload hx hb dX10_plan_436 (lv_at hl 0 rfl) ?_
                                                  refine lv_goto (tgt := 443) hx hb dX10_plan_438 (by decide) ?_
                                                  refine gs_iast hx hb hK hI hm hM hS 34 0 (by decide) (fun _ => rfl) (vp_in_iff.mpr ⟨by omega, by omega⟩) dX10_plan_443 (fun st_214 H locs est_214 hM hS => ?_)
                                                  have hB_st_214 : gBN bM kM [0, 55, 56, 57, 58, 2900, 3000, 3100, 3200, 3300, 3400, 3500, 3600, 3700, 3800] st st_214 := by rw [est_214]; exact hB_st_213.up (show (3400 : Nat) ∈ _ from by decide) (gi_lo _) (gi_hi _)
                                                  refine lv_aload_n hx hb dX10_plan_444 rfl (lv_at hl 5 rfl) ?_
                                                  refine lv_iload_n hx hb dX10_plan_445 rfl (lv_at hl 4 rfl) ?_
                                                  refine lv_iload hx hb dX10_plan_446 (lv_at hl 3 rfl) ?_
                                                  refine lv_aload_n hx hb dX10_plan_448 rfl (lv_at hl 5 rfl) ?_
                                                  refine gs_get (C := RX10) (T := TX10) (N := 59) hx hb hts inX10 hown hK hM 0 0 50 (by decide) rfl rfl (by decide) (hts _ gm_951) (fun _ h9 => h9) rfl dX10_plan_449 ?_
                                                  refine lv_iload_n hx hb dX10_plan_452 rfl (lv_at hl 4 rfl) ?_
                                                  refine gs_iald hx hb hK hM 34 0 (by decide) rfl (vp_in_iff.mpr ⟨by omega, by omega⟩) dX10_plan_453 ?_
                                                  refine lv_topi (fun x_215 ex_215 => ?_)
                                                  have qx_215 : x_215.toInt = (st_214 34 0 (y25_0.toNatClampNeg)).toInt := congrArg Int32.toInt ex_215
                                                  have rx_215 : x_215.toInt = (y144_0 : Int32).toInt := by rw [ex_215]; exact congrArg Int32.toInt (((congrFun (congrFun (congrFun est_214 34) 0) (y25_0.toNatClampNeg)).trans (gU_same _ _ _ _ _)))
                                                  refine lv_iload hx hb dX10_plan_454 (lv_at hl 2 rfl) ?_
                                                  refine gs_callv (va_runV (As := [.int y25_0, .int x_29, .int x_215, .int x_34]) (rest := []) ⟨hx, hb, hml, hown, hts⟩ (m_goes l G cy sK sV ad H.size st_214 hB_st_214.1 y25_0 x_29 x_215 x_34 y25_0.toInt x_29.toInt x_215.toInt x_34.toInt rfl rfl rfl rfl (by first | decide | omega) (by first | decide | omega) (by first | decide | omega) (by first | decide | omega) (by first | decide | omega)) ⟨(gz_cb (n := 4) hts gm_1285 gm_12 gm_1288 ⟨by decide +kernel, by decide +kernel, by decide +kernel⟩ ⟨Nat.le_of_ble_eq_true rfl, Nat.le_of_ble_eq_true rfl⟩), hts _ gm_1287, hts _ gs_58⟩ (gs_preV hK hov hE hI hM hm hS hA 0 0 (by decide) rfl rfl) rfl rfl hl.1 rfl (lv_room (Nat.le_of_ble_eq_true rfl)) dX10_plan_456 ⟨Nat.le_of_ble_eq_true rfl, Nat.le_of_ble_eq_true rfl⟩) hm hS hA (fun st_216 H locs hw_216 hM hS => ?_)
                                                  obtain ⟨n_216, hw_216⟩ := hw_216
                                                  have hB_st_216 : gBN bM kM [0, 55, 56, 57, 58, 2900, 3000, 3100, 3200, 3300, 3400, 3500, 3600, 3700, 3800] st st_216 := hB_st_214.call n_216 (by decide)
                                                  refine lv_iload hx hb dX10_plan_459 (lv_at hl 3 rfl) ?_
                                                  refine lv_iconst (v := 3) hx hb dX10_plan_461 (by decide) ?_
                                                  refine lv_icmp_ne (tgt := 480) hx hb dX10_plan_462 (by decide) (fun c_217 => ?_) (fun c_217 => ?_)
                                                  · have ic_217 := gz_ne (rfl : x_29.toInt = x_29.toInt) (by decide : (3 : Int32).toInt = 3) c_217
                                                    obtain ⟨x_218, ex_218⟩ : ∃ y : Int32, y = y25_0 + 1 := ⟨_, rfl⟩
                                                    try have tx_218 : x_218.toInt = y25_0.toInt + 1 := by rw [ex_218]; exact gz_addP (x := y25_0.toInt) (y := 1) rfl (by decide) (by omega) (by omega)
                                                    refine lv_iinc (v := (x_218)) (lv' := [(3, .int x_218), (7, .int y144_0), (6, .int 1), (5, .int x_34), (4, .int x_29), (0, .ref (ad 0 0)), (1, .int x), (2, .int y)]) hx hb dX10_plan_480 hl (k := 4) rfl (by rw [ex_218]; rfl) (by decide) rfl (fun ls hl => ?_)
                                                    refine lv_aload_n hx hb dX10_plan_483 rfl (lv_at hl 5 rfl) ?_
                                                    refine gs_get (C := RX10) (T := TX10) (N := 59) hx hb hts inX10 hown hK hM 0 0 49 (by decide) rfl rfl (by decide) (hts _ gm_950) (fun _ h9 => h9) rfl dX10_plan_484 ?_
                                                    refine lv_iload_n hx hb dX10_plan_487 rfl (lv_at hl 0 rfl) ?_
                                                    refine lv_iconst (v := 0) hx hb dX10_plan_488 (by decide) ?_
                                                    refine gs_iast hx hb hK hI hm hM hS 33 0 (by decide) (fun _ => rfl) (vp_in_iff.mpr ⟨by omega, by omega⟩) dX10_plan_489 (fun st_219 H locs est_219 hM hS => ?_)
                                                    have hB_st_219 : gBN bM kM [0, 55, 56, 57, 58, 2900, 3000, 3100, 3200, 3300, 3400, 3500, 3600, 3700, 3800] st st_219 := by rw [est_219]; exact hB_st_216.up (show (3300 : Nat) ∈ _ from by decide) (show (0 : Int) ≤ ((0 : Int32)).toInt from by decide) (show ((0 : Int32)).toInt ≤ (8 : Int) from by decide)
                                                    refine lv_iload hx hb dX10_plan_490 (lv_at hl 4 rfl) ?_
                                                    refine lv_iconst (v := 3) hx hb dX10_plan_492 (by decide) ?_
                                                    refine lv_icmp_ge (tgt := 499) hx hb dX10_plan_493 (by decide) (fun c_220 => ?_) (fun c_220 => ?_)
                                                    · have ic_220 := gz_le (by decide : (3 : Int32).toInt = 3) (rfl : x_29.toInt = x_29.toInt) c_220
                                                      refine lv_aload_n hx hb dX10_plan_499 rfl (lv_at hl 5 rfl) ?_
                                                      refine lv_iload_n hx hb dX10_plan_500 rfl (lv_at hl 0 rfl) ?_
                                                      refine lv_iconst (v := 4) hx hb dX10_plan_501 (by decide) ?_
                                                      refine lv_idiv hx hb dX10_plan_502 (by decide) ?_
                                                      refine lv_topi (fun x_221 ex_221 => ?_)
                                                      try have tx_221 := gs_div2 (y := 4) (by decide) (show 0 ≤ x_218.toInt from by omega) (by omega) ex_221
                                                      refine lv_aload_n hx hb dX10_plan_503 rfl (lv_at hl 5 rfl) ?_
                                                      refine gs_get (C := RX10) (T := TX10) (N := 59) hx hb hts inX10 hown hK hM 0 0 58 (by decide) rfl rfl (by decide) (hts _ gm_959) (fun _ h9 => h9) rfl dX10_plan_504 ?_
                                                      refine lv_topi (fun x_222 ex_222 => ?_)
                                                      have ex_222 : (sv25 0 0 58) = x_222 := Eq.symm (ex_222.trans (((congrFun (congrFun (congrFun est_219 0) 0) 58).trans (congrFun (congrFun (gU_k (by decide)) 0) 58)).trans ((n_216.2 0 0 58 (show (58 : Nat) ∉ _ from by decide)).trans (((congrFun (congrFun (congrFun est_214 0) 0) 58).trans (congrFun (congrFun (gU_k (by decide)) 0) 58)).trans (((congrFun (congrFun (congrFun est_213 0) 0) 58).trans (gU_other (by decide))).trans ((congrFun (congrFun (congrFun est_206 0) 0) 58).trans (congrFun (congrFun (gU_k (by decide)) 0) 58)))))))
                                                      subst ex_222
                                                      refine lv_icmp_le (tgt := 516) hx hb dX10_plan_507 (by decide) (fun c_224 => ?_) (fun c_224 => ?_)
                                                      · have ic_224 := gz_le (rfl : x_221.toInt = x_221.toInt) (rfl : (sv25 0 0 58).toInt = (sv25 0 0 58).toInt) c_224
                                                        refine lv_aload_n hx hb dX10_plan_516 rfl (lv_at hl 5 rfl) ?_
                                                        refine gs_get (C := RX10) (T := TX10) (N := 59) hx hb hts inX10 hown hK hM 0 0 58 (by decide) rfl rfl (by decide) (hts _ gm_959) (fun _ h9 => h9) rfl dX10_plan_517 ?_
                                                        refine lv_topi (fun x_225 ex_225 => ?_)
                                                        have ex_225 : (sv25 0 0 58) = x_225 := Eq.symm (ex_225.trans (((congrFun (congrFun (congrFun est_219 0) 0) 58).trans (congrFun (congrFun (gU_k (by decide)) 0) 58)).trans ((n_216.2 0 0 58 (show (58 : Nat) ∉ _ from by decide)).trans (((congrFun (congrFun (congrFun est_214 0) 0) 58).trans (congrFun (congrFun (gU_k (by decide)) 0) 58)).trans (((congrFun (congrFun (congrFun est_213 0) 0) 58).trans (gU_other (by decide))).trans ((congrFun (congrFun (congrFun est_206 0) 0) 58).trans (congrFun (congrFun (gU_k (by decide)) 0) 58)))))))
                                                        subst ex_225
                                                        refine gs_put (C := RX10) (T := TX10) (N := 59) (ty := .int) (val := .int (sv25 0 0 58)) hx hb hts inX10 tyX10 tyX10_ok nmX10 hown hK hI hm hM hS 0 0 58 (by decide) rfl rfl (by decide) (hts _ gm_959) (fun _ h9 => h9) rfl ((sv25 0 0 58) : Int32) rfl (by decide +kernel) rfl rfl (Nat.le_of_ble_eq_true rfl) dX10_plan_520 (fun st_227 H locs est_227 hM hS => ?_)
                                                        have hB_st_227 : gBN bM kM [0, 55, 56, 57, 58, 2900, 3000, 3100, 3200, 3300, 3400, 3500, 3600, 3700, 3800] st st_227 := by rw [est_227]; exact hB_st_219.up (show (58 : Nat) ∈ _ from by decide) (gi_lo _) (gi_hi _)
                                                        refine lv_iload_n hx hb dX10_plan_523 rfl (lv_at hl 0 rfl) ?_
                                                        refine lv_iconst (v := 4) hx hb dX10_plan_524 (by decide) ?_
                                                        refine lv_iload_n hx hb dX10_plan_525 rfl (lv_at hl 6 rfl) ?_
                                                        refine lv_imul hx hb dX10_plan_526 ?_
                                                        refine lv_topi (fun x_228 ex_228 => ?_)
                                                        try have tx_228 : x_228.toInt = 4 * x.toInt := by rw [ex_228]; exact gz_mulI (x := 4) (y := x.toInt) (by decide) rfl (by omega) (by omega)
                                                        refine lv_icmp_ge (tgt := 539) hx hb dX10_plan_527 (by decide) (fun c_229 => ?_) (fun c_229 => ?_)
                                                        · have ic_229 := gz_le (rfl : x_228.toInt = x_228.toInt) (rfl : x_218.toInt = x_218.toInt) c_229
                                                          refine lv_goto (tgt := 195) hx hb dX10_plan_539 (by decide) ?_
                                                          exact ih_25 st_227 (x_218 : Int32) H _ ls (by rw [show st_227 33 0 = (upd (upd (sv25 33 0) (y25_0.toNatClampNeg) (x_205 : Int32)) (x_218.toNatClampNeg) (0 : Int32)) from ((congrFun (congrFun est_227 33) 0).trans ((congrFun (gU_k (by decide)) 0).trans ((congrFun (congrFun est_219 33) 0).trans ((gU_at _ _ _ _ _).trans (congrArg (fun f9 => upd f9 (x_218.toNatClampNeg) (0 : Int32)) ((funext (fun j9 => n_216.2 33 0 j9 (show (3300 : Nat) ∉ _ from by decide))).trans ((congrFun (congrFun est_214 33) 0).trans ((congrFun (gU_k (by decide)) 0).trans ((congrFun (congrFun est_213 33) 0).trans ((congrFun (gU_k (by decide)) 0).trans ((congrFun (congrFun est_206 33) 0).trans ((gU_at _ _ _ _ _).trans (congrArg (fun f9 => upd f9 (y25_0.toNatClampNeg) (x_205 : Int32)) rfl)))))))))))))]; exact pMu_u (y := y25_0) (by omega) (by omega) (by omega) (show (0 : Int) ≤ _ ∧ _ ≤ (8 : Int) from hB_sv25.1 33 0 _) (by omega) (by omega) hme25) hB_st_227 (by omega) (by omega) hM hS (lv_sub hl [0, 5, 6, 7] rfl)
                                                        · have ic_229 := gz_nle (rfl : x_228.toInt = x_228.toInt) (rfl : x_218.toInt = x_218.toInt) c_229
                                                          have lc_229 := gi_hi x_228
                                                          refine lv_aload_n hx hb dX10_plan_530 rfl (lv_at hl 5 rfl) ?_
                                                          refine lv_iload_n hx hb dX10_plan_531 rfl (lv_at hl 0 rfl) ?_
                                                          refine lv_iload hx hb dX10_plan_532 (lv_at hl 3 rfl) ?_
                                                          refine lv_iconst (v := 1) hx hb dX10_plan_534 (by decide) ?_
                                                          refine lv_iadd hx hb dX10_plan_535 ?_
                                                          refine lv_topi (fun x_230 ex_230 => ?_)
                                                          try have tx_230 : x_230.toInt = x_34.toInt + 1 := by rw [ex_230]; exact gz_addP (x := x_34.toInt) (y := 1) rfl (by decide) (by omega) (by omega)
                                                          refine gs_callv (va_runV (As := [.int x_218, .int x_230]) (rest := []) ⟨hx, hb, hml, hown, hts⟩ (m_dawn l G cy sK sV ad H.size st_227 hB_st_227.1 x_218 x_230 x_218.toInt x_230.toInt rfl rfl (by first | decide | omega) (by first | decide | omega) (by first | decide | omega) (by first | decide | omega) rs bk ((congrArg Int32.toInt ((((congrFun (congrFun (congrFun est_227 0) 0) 28).trans (gU_other (by decide))).trans (((congrFun (congrFun (congrFun est_219 0) 0) 28).trans (congrFun (congrFun (gU_k (by decide)) 0) 28)).trans ((n_216.2 0 0 28 (show (28 : Nat) ∉ _ from by decide)).trans (((congrFun (congrFun (congrFun est_214 0) 0) 28).trans (congrFun (congrFun (gU_k (by decide)) 0) 28)).trans (((congrFun (congrFun (congrFun est_213 0) 0) 28).trans (gU_other (by decide))).trans (((congrFun (congrFun (congrFun est_206 0) 0) 28).trans (congrFun (congrFun (gU_k (by decide)) 0) 28)).trans (hB_sv25.2 0 0 28 (show (28 : Nat) ∉ _ from by decide)))))))))).trans hbk) ((congrArg Int32.toInt ((((congrFun (congrFun (congrFun est_227 0) 0) 29).trans (gU_other (by decide))).trans (((congrFun (congrFun (congrFun est_219 0) 0) 29).trans (congrFun (congrFun (gU_k (by decide)) 0) 29)).trans ((n_216.2 0 0 29 (show (29 : Nat) ∉ _ from by decide)).trans (((congrFun (congrFun (congrFun est_214 0) 0) 29).trans (congrFun (congrFun (gU_k (by decide)) 0) 29)).trans (((congrFun (congrFun (congrFun est_213 0) 0) 29).trans (gU_other (by decide))).trans (((congrFun (congrFun (congrFun est_206 0) 0) 29).trans (congrFun (congrFun (gU_k (by decide)) 0) 29)).trans (hB_sv25.2 0 0 29 (show (29 : Nat) ∉ _ from by decide)))))))))).trans hru) (LM.all hLM (mA.trans (mA.trans (mA.trans (mA.trans (mA.trans (mA.trans (mA.trans mA.rf (mA.frame hB_sv25.2 (by decide))) (mA.upk est_206 (by decide))) (mA.upk est_213 (by decide))) (mA.upk est_214 (by decide))) (mA.frame n_216.2 (by decide))) (mA.upk est_219 (by decide))) (mA.upk est_227 (by decide))))) ⟨(gz_cb (n := 2) hts gm_1277 gm_12 gm_1280 ⟨by decide +kernel, by decide +kernel, by decide +kernel⟩ ⟨Nat.le_of_ble_eq_true rfl, Nat.le_of_ble_eq_true rfl⟩), hts _ gm_1279, hts _ gs_56⟩ (gs_preV hK hov hE hI hM hm hS hA 0 0 (by decide) rfl rfl) rfl rfl hl.1 rfl (lv_room (Nat.le_of_ble_eq_true rfl)) dX10_plan_536 ⟨Nat.le_of_ble_eq_true rfl, Nat.le_of_ble_eq_true rfl⟩) hm hS hA (fun st_231 H locs hw_231 hM hS => ?_)
                                                          obtain ⟨n_231, hw_231⟩ := hw_231
                                                          have hB_st_231 : gBN bM kM [0, 55, 56, 57, 58, 2900, 3000, 3100, 3200, 3300, 3400, 3500, 3600, 3700, 3800] st st_231 := hB_st_227.call n_231 (by decide)
                                                          refine lv_goto (tgt := 195) hx hb dX10_plan_539 (by decide) ?_
                                                          exact ih_25 st_231 (x_218 : Int32) H _ ls (by rw [show st_231 33 0 = (upd (upd (sv25 33 0) (y25_0.toNatClampNeg) (x_205 : Int32)) (x_218.toNatClampNeg) (0 : Int32)) from ((funext (fun j9 => n_231.2 33 0 j9 (show (3300 : Nat) ∉ _ from by decide))).trans ((congrFun (congrFun est_227 33) 0).trans ((congrFun (gU_k (by decide)) 0).trans ((congrFun (congrFun est_219 33) 0).trans ((gU_at _ _ _ _ _).trans (congrArg (fun f9 => upd f9 (x_218.toNatClampNeg) (0 : Int32)) ((funext (fun j9 => n_216.2 33 0 j9 (show (3300 : Nat) ∉ _ from by decide))).trans ((congrFun (congrFun est_214 33) 0).trans ((congrFun (gU_k (by decide)) 0).trans ((congrFun (congrFun est_213 33) 0).trans ((congrFun (gU_k (by decide)) 0).trans ((congrFun (congrFun est_206 33) 0).trans ((gU_at _ _ _ _ _).trans (congrArg (fun f9 => upd f9 (y25_0.toNatClampNeg) (x_205 : Int32)) rfl))))))))))))))]; exact pMu_u (y := y25_0) (by omega) (by omega) (by omega) (show (0 : Int) ≤ _ ∧ _ ≤ (8 : Int) from hB_sv25.1 33 0 _) (by omega) (by omega) hme25) hB_st_231 (by omega) (by omega) hM hS (lv_sub hl [0, 5, 6, 7] rfl)
                                                      · have ic_224 := gz_nle (rfl : x_221.toInt = x_221.toInt) (rfl : (sv25 0 0 58).toInt = (sv25 0 0 58).toInt) c_224
                                                        have lc_224 := gi_hi x_221
                                                        refine lv_iload_n hx hb dX10_plan_510 rfl (lv_at hl 0 rfl) ?_
                                                        refine lv_iconst (v := 4) hx hb dX10_plan_511 (by decide) ?_
                                                        refine lv_idiv hx hb dX10_plan_512 (by decide) ?_
                                                        refine lv_topi (fun x_232 ex_232 => ?_)
                                                        try have tx_232 := gs_div2 (y := 4) (by decide) (show 0 ≤ x_218.toInt from by omega) (by omega) ex_232
                                                        refine lv_goto (tgt := 520) hx hb dX10_plan_513 (by decide) ?_
                                                        refine gs_put (C := RX10) (T := TX10) (N := 59) (ty := .int) (val := .int x_232) hx hb hts inX10 tyX10 tyX10_ok nmX10 hown hK hI hm hM hS 0 0 58 (by decide) rfl rfl (by decide) (hts _ gm_959) (fun _ h9 => h9) rfl (x_232 : Int32) rfl (by decide +kernel) rfl rfl (Nat.le_of_ble_eq_true rfl) dX10_plan_520 (fun st_233 H locs est_233 hM hS => ?_)
                                                        have hB_st_233 : gBN bM kM [0, 55, 56, 57, 58, 2900, 3000, 3100, 3200, 3300, 3400, 3500, 3600, 3700, 3800] st st_233 := by rw [est_233]; exact hB_st_219.up (show (58 : Nat) ∈ _ from by decide) (gi_lo _) (gi_hi _)
                                                        refine lv_iload_n hx hb dX10_plan_523 rfl (lv_at hl 0 rfl) ?_
                                                        refine lv_iconst (v := 4) hx hb dX10_plan_524 (by decide) ?_
                                                        refine lv_iload_n hx hb dX10_plan_525 rfl (lv_at hl 6 rfl) ?_
                                                        refine lv_imul hx hb dX10_plan_526 ?_
                                                        refine lv_topi (fun x_234 ex_234 => ?_)
                                                        try have tx_234 : x_234.toInt = 4 * x.toInt := by rw [ex_234]; exact gz_mulI (x := 4) (y := x.toInt) (by decide) rfl (by omega) (by omega)
                                                        refine lv_icmp_ge (tgt := 539) hx hb dX10_plan_527 (by decide) (fun c_235 => ?_) (fun c_235 => ?_)
                                                        · have ic_235 := gz_le (rfl : x_234.toInt = x_234.toInt) (rfl : x_218.toInt = x_218.toInt) c_235
                                                          refine lv_goto (tgt := 195) hx hb dX10_plan_539 (by decide) ?_
                                                          exact ih_25 st_233 (x_218 : Int32) H _ ls (by rw [show st_233 33 0 = (upd (upd (sv25 33 0) (y25_0.toNatClampNeg) (x_205 : Int32)) (x_218.toNatClampNeg) (0 : Int32)) from ((congrFun (congrFun est_233 33) 0).trans ((congrFun (gU_k (by decide)) 0).trans ((congrFun (congrFun est_219 33) 0).trans ((gU_at _ _ _ _ _).trans (congrArg (fun f9 => upd f9 (x_218.toNatClampNeg) (0 : Int32)) ((funext (fun j9 => n_216.2 33 0 j9 (show (3300 : Nat) ∉ _ from by decide))).trans ((congrFun (congrFun est_214 33) 0).trans ((congrFun (gU_k (by decide)) 0).trans ((congrFun (congrFun est_213 33) 0).trans ((congrFun (gU_k (by decide)) 0).trans ((congrFun (congrFun est_206 33) 0).trans ((gU_at _ _ _ _ _).trans (congrArg (fun f9 => upd f9 (y25_0.toNatClampNeg) (x_205 : Int32)) rfl)))))))))))))]; exact pMu_u (y := y25_0) (by omega) (by omega) (by omega) (show (0 : Int) ≤ _ ∧ _ ≤ (8 : Int) from hB_sv25.1 33 0 _) (by omega) (by omega) hme25) hB_st_233 (by omega) (by omega) hM hS (lv_sub hl [0, 5, 6, 7] rfl)
                                                        · have ic_235 := gz_nle (rfl : x_234.toInt = x_234.toInt) (rfl : x_218.toInt = x_218.toInt) c_235
                                                          have lc_235 := gi_hi x_234
                                                          refine lv_aload_n hx hb dX10_plan_530 rfl (lv_at hl 5 rfl) ?_
                                                          refine lv_iload_n hx hb dX10_plan_531 rfl (lv_at hl 0 rfl) ?_
                                                          refine lv_iload hx hb dX10_plan_532 (lv_at hl 3 rfl) ?_
                                                          refine lv_iconst (v := 1) hx hb dX10_plan_534 (by decide) ?_
                                                          refine lv_iadd hx hb dX10_plan_535 ?_
                                                          refine lv_topi (fun x_236 ex_236 => ?_)
                                                          try have tx_236 : x_236.toInt = x_34.toInt + 1 := by rw [ex_236]; exact gz_addP (x := x_34.toInt) (y := 1) rfl (by decide) (by omega) (by omega)
                                                          refine gs_callv (va_runV (As := [.int x_218, .int x_236]) (rest := []) ⟨hx, hb, hml, hown, hts⟩ (m_dawn l G cy sK sV ad H.size st_233 hB_st_233.1 x_218 x_236 x_218.toInt x_236.toInt rfl rfl (by first | decide | omega) (by first | decide | omega) (by first | decide | omega) (by first | decide | omega) rs bk ((congrArg Int32.toInt ((((congrFun (congrFun (congrFun est_233 0) 0) 28).trans (gU_other (by decide))).trans (((congrFun (congrFun (congrFun est_219 0) 0) 28).trans (congrFun (congrFun (gU_k (by decide)) 0) 28)).trans ((n_216.2 0 0 28 (show (28 : Nat) ∉ _ from by decide)).trans (((congrFun (congrFun (congrFun est_214 0) 0) 28).trans (congrFun (congrFun (gU_k (by decide)) 0) 28)).trans (((congrFun (congrFun (congrFun est_213 0) 0) 28).trans (gU_other (by decide))).trans (((congrFun (congrFun (congrFun est_206 0) 0) 28).trans (congrFun (congrFun (gU_k (by decide)) 0) 28)).trans (hB_sv25.2 0 0 28 (show (28 : Nat) ∉ _ from by decide)))))))))).trans hbk) ((congrArg Int32.toInt ((((congrFun (congrFun (congrFun est_233 0) 0) 29).trans (gU_other (by decide))).trans (((congrFun (congrFun (congrFun est_219 0) 0) 29).trans (congrFun (congrFun (gU_k (by decide)) 0) 29)).trans ((n_216.2 0 0 29 (show (29 : Nat) ∉ _ from by decide)).trans (((congrFun (congrFun (congrFun est_214 0) 0) 29).trans (congrFun (congrFun (gU_k (by decide)) 0) 29)).trans (((congrFun (congrFun (congrFun est_213 0) 0) 29).trans (gU_other (by decide))).trans (((congrFun (congrFun (congrFun est_206 0) 0) 29).trans (congrFun (congrFun (gU_k (by decide)) 0) 29)).trans (hB_sv25.2 0 0 29 (show (29 : Nat) ∉ _ from by decide)))))))))).trans hru) (LM.all hLM (mA.trans (mA.trans (mA.trans (mA.trans (mA.trans (mA.trans (mA.trans mA.rf (mA.frame hB_sv25.2 (by decide))) (mA.upk est_206 (by decide))) (mA.upk est_213 (by decide))) (mA.upk est_214 (by decide))) (mA.frame n_216.2 (by decide))) (mA.upk est_219 (by decide))) (mA.upk est_233 (by decide))))) ⟨(gz_cb (n := 2) hts gm_1277 gm_12 gm_1280 ⟨by decide +kernel, by decide +kernel, by decide +kernel⟩ ⟨Nat.le_of_ble_eq_true rfl, Nat.le_of_ble_eq_true rfl⟩), hts _ gm_1279, hts _ gs_56⟩ (gs_preV hK hov hE hI hM hm hS hA 0 0 (by decide) rfl rfl) rfl rfl hl.1 rfl (lv_room (Nat.le_of_ble_eq_true rfl)) dX10_plan_536 ⟨Nat.le_of_ble_eq_true rfl, Nat.le_of_ble_eq_true rfl⟩) hm hS hA (fun st_237 H locs hw_237 hM hS => ?_)
                                                          obtain ⟨n_237, hw_237⟩ := hw_237
                                                          have hB_st_237 : gBN bM kM [0, 55, 56, 57, 58, 2900, 3000, 3100, 3200, 3300, 3400, 3500, 3600, 3700, 3800] st st_237 := hB_st_233.call n_237 (by decide)
                                                          refine lv_goto (tgt := 195) hx hb dX10_plan_539 (by decide) ?_
                                                          exact ih_25 st_237 (x_218 : Int32) H _ ls (by rw [show st_237 33 0 = (upd (upd (sv25 33 0) (y25_0.toNatClampNeg) (x_205 : Int32)) (x_218.toNatClampNeg) (0 : Int32)) from ((funext (fun j9 => n_237.2 33 0 j9 (show (3300 : Nat) ∉ _ from by decide))).trans ((congrFun (congrFun est_233 33) 0).trans ((congrFun (gU_k (by decide)) 0).trans ((congrFun (congrFun est_219 33) 0).trans ((gU_at _ _ _ _ _).trans (congrArg (fun f9 => upd f9 (x_218.toNatClampNeg) (0 : Int32)) ((funext (fun j9 => n_216.2 33 0 j9 (show (3300 : Nat) ∉ _ from by decide))).trans ((congrFun (congrFun est_214 33) 0).trans ((congrFun (gU_k (by decide)) 0).trans ((congrFun (congrFun est_213 33) 0).trans ((congrFun (gU_k (by decide)) 0).trans ((congrFun (congrFun est_206 33) 0).trans ((gU_at _ _ _ _ _).trans (congrArg (fun f9 => upd f9 (y25_0.toNatClampNeg) (x_205 : Int32)) rfl))))))))))))))]; exact pMu_u (y := y25_0) (by omega) (by omega) (by omega) (show (0 : Int) ≤ _ ∧ _ ≤ (8 : Int) from hB_sv25.1 33 0 _) (by omega) (by omega) hme25) hB_st_237 (by omega) (by omega) hM hS (lv_sub hl [0, 5, 6, 7] rfl)
                                                    · have ic_220 := gz_nle (by decide : (3 : Int32).toInt = 3) (rfl : x_29.toInt = x_29.toInt) c_220
                                                      refine lv_goto (tgt := 195) hx hb dX10_plan_496 (by decide) ?_
                                                      exact ih_25 st_219 (x_218 : Int32) H _ ls (by rw [show st_219 33 0 = (upd (upd (sv25 33 0) (y25_0.toNatClampNeg) (x_205 : Int32)) (x_218.toNatClampNeg) (0 : Int32)) from ((congrFun (congrFun est_219 33) 0).trans ((gU_at _ _ _ _ _).trans (congrArg (fun f9 => upd f9 (x_218.toNatClampNeg) (0 : Int32)) ((funext (fun j9 => n_216.2 33 0 j9 (show (3300 : Nat) ∉ _ from by decide))).trans ((congrFun (congrFun est_214 33) 0).trans ((congrFun (gU_k (by decide)) 0).trans ((congrFun (congrFun est_213 33) 0).trans ((congrFun (gU_k (by decide)) 0).trans ((congrFun (congrFun est_206 33) 0).trans ((gU_at _ _ _ _ _).trans (congrArg (fun f9 => upd f9 (y25_0.toNatClampNeg) (x_205 : Int32)) rfl)))))))))))]; exact pMu_u (y := y25_0) (by omega) (by omega) (by omega) (show (0 : Int) ≤ _ ∧ _ ≤ (8 : Int) from hB_sv25.1 33 0 _) (by omega) (by omega) hme25) hB_st_219 (by omega) (by omega) hM hS (lv_sub hl [0, 5, 6, 7] rfl)
                                                  · have ic_217 := gz_eqn (rfl : x_29.toInt = x_29.toInt) (by decide : (3 : Int32).toInt = 3) c_217
                                                    refine lv_aload_n hx hb dX10_plan_465 rfl (lv_at hl 5 rfl) ?_
                                                    refine lv_iload_n hx hb dX10_plan_466 rfl (lv_at hl 4 rfl) ?_
                                                    refine lv_iconst (v := 1) hx hb dX10_plan_467 (by decide) ?_
                                                    refine lv_iadd hx hb dX10_plan_468 ?_
                                                    refine lv_topi (fun x_238 ex_238 => ?_)
                                                    try have tx_238 : x_238.toInt = y25_0.toInt + 1 := by rw [ex_238]; exact gz_addP (x := y25_0.toInt) (y := 1) rfl (by decide) (by omega) (by omega)
                                                    refine lv_iload hx hb dX10_plan_469 (lv_at hl 2 rfl) ?_
                                                    refine gs_calli (va_runV (As := [.int x_238, .int x_34]) (rest := []) ⟨hx, hb, hml, hown, hts⟩ (m_isGood l G cy sK sV ad H.size st_216 hB_st_216.1 x_238 x_34 x_238.toInt x_34.toInt rfl rfl (by first | decide | omega) (by first | decide | omega)) ⟨(gz_cb (n := 2) hts gm_1289 gm_12 gm_1292 ⟨by decide +kernel, by decide +kernel, by decide +kernel⟩ ⟨Nat.le_of_ble_eq_true rfl, Nat.le_of_ble_eq_true rfl⟩), hts _ gm_1291, hts _ gs_59⟩ (gs_preV hK hov hE hI hM hm hS hA 0 0 (by decide) rfl rfl) rfl rfl hl.1 rfl (lv_room (Nat.le_of_ble_eq_true rfl)) dX10_plan_471 ⟨Nat.le_of_ble_eq_true rfl, Nat.le_of_ble_eq_true rfl⟩) hm hS hA (fun r_239 st_239 H locs hw_239 hM hS => ?_)
                                                    obtain ⟨n_239, hw_239⟩ := hw_239
                                                    have n_239 := gBN.nil n_239
                                                    subst n_239
                                                    rcases hw_239 with rfl | rfl
                                                    · skip
                                                      refine lv_if_ne (tgt := 480) hx hb dX10_plan_474 (by decide) (fun _ => ?_) (fun h9 => absurd h9 (by decide))
                                                      obtain ⟨x_240, ex_240⟩ : ∃ y : Int32, y = y25_0 + 1 := ⟨_, rfl⟩
                                                      try have tx_240 : x_240.toInt = y25_0.toInt + 1 := by rw [ex_240]; exact gz_addP (x := y25_0.toInt) (y := 1) rfl (by decide) (by omega) (by omega)
                                                      refine lv_iinc (v := (x_240)) (lv' := [(3, .int x_240), (7, .int y144_0), (6, .int 1), (5, .int x_34), (4, .int x_29), (0, .ref (ad 0 0)), (1, .int x), (2, .int y)]) hx hb dX10_plan_480 hl (k := 4) rfl (by rw [ex_240]; rfl) (by decide) rfl (fun ls hl => ?_)
                                                      refine lv_aload_n hx hb dX10_plan_483 rfl (lv_at hl 5 rfl) ?_
                                                      refine gs_get (C := RX10) (T := TX10) (N := 59) hx hb hts inX10 hown hK hM 0 0 49 (by decide) rfl rfl (by decide) (hts _ gm_950) (fun _ h9 => h9) rfl dX10_plan_484 ?_
                                                      refine lv_iload_n hx hb dX10_plan_487 rfl (lv_at hl 0 rfl) ?_
                                                      refine lv_iconst (v := 0) hx hb dX10_plan_488 (by decide) ?_
                                                      refine gs_iast hx hb hK hI hm hM hS 33 0 (by decide) (fun _ => rfl) (vp_in_iff.mpr ⟨by omega, by omega⟩) dX10_plan_489 (fun st_241 H locs est_241 hM hS => ?_)
                                                      have hB_st_241 : gBN bM kM [0, 55, 56, 57, 58, 2900, 3000, 3100, 3200, 3300, 3400, 3500, 3600, 3700, 3800] st st_241 := by rw [est_241]; exact hB_st_216.up (show (3300 : Nat) ∈ _ from by decide) (show (0 : Int) ≤ ((0 : Int32)).toInt from by decide) (show ((0 : Int32)).toInt ≤ (8 : Int) from by decide)
                                                      refine lv_iload hx hb dX10_plan_490 (lv_at hl 4 rfl) ?_
                                                      refine lv_iconst (v := 3) hx hb dX10_plan_492 (by decide) ?_
                                                      refine lv_icmp_ge (tgt := 499) hx hb dX10_plan_493 (by decide) (fun c_242 => ?_) (fun c_242 => ?_)
                                                      · have ic_242 := gz_le (by decide : (3 : Int32).toInt = 3) (rfl : x_29.toInt = x_29.toInt) c_242
                                                        refine lv_aload_n hx hb dX10_plan_499 rfl (lv_at hl 5 rfl) ?_
                                                        refine lv_iload_n hx hb dX10_plan_500 rfl (lv_at hl 0 rfl) ?_
                                                        refine lv_iconst (v := 4) hx hb dX10_plan_501 (by decide) ?_
                                                        refine lv_idiv hx hb dX10_plan_502 (by decide) ?_
                                                        refine lv_topi (fun x_243 ex_243 => ?_)
                                                        try have tx_243 := gs_div2 (y := 4) (by decide) (show 0 ≤ x_240.toInt from by omega) (by omega) ex_243
                                                        refine lv_aload_n hx hb dX10_plan_503 rfl (lv_at hl 5 rfl) ?_
                                                        refine gs_get (C := RX10) (T := TX10) (N := 59) hx hb hts inX10 hown hK hM 0 0 58 (by decide) rfl rfl (by decide) (hts _ gm_959) (fun _ h9 => h9) rfl dX10_plan_504 ?_
                                                        refine lv_topi (fun x_244 ex_244 => ?_)
                                                        have ex_244 : (sv25 0 0 58) = x_244 := Eq.symm (ex_244.trans (((congrFun (congrFun (congrFun est_241 0) 0) 58).trans (congrFun (congrFun (gU_k (by decide)) 0) 58)).trans ((n_216.2 0 0 58 (show (58 : Nat) ∉ _ from by decide)).trans (((congrFun (congrFun (congrFun est_214 0) 0) 58).trans (congrFun (congrFun (gU_k (by decide)) 0) 58)).trans (((congrFun (congrFun (congrFun est_213 0) 0) 58).trans (gU_other (by decide))).trans ((congrFun (congrFun (congrFun est_206 0) 0) 58).trans (congrFun (congrFun (gU_k (by decide)) 0) 58)))))))
                                                        subst ex_244
                                                        refine lv_icmp_le (tgt := 516) hx hb dX10_plan_507 (by decide) (fun c_246 => ?_) (fun c_246 => ?_)
                                                        · have ic_246 := gz_le (rfl : x_243.toInt = x_243.toInt) (rfl : (sv25 0 0 58).toInt = (sv25 0 0 58).toInt) c_246
                                                          refine lv_aload_n hx hb dX10_plan_516 rfl (lv_at hl 5 rfl) ?_
                                                          refine gs_get (C := RX10) (T := TX10) (N := 59) hx hb hts inX10 hown hK hM 0 0 58 (by decide) rfl rfl (by decide) (hts _ gm_959) (fun _ h9 => h9) rfl dX10_plan_517 ?_
                                                          refine lv_topi (fun x_247 ex_247 => ?_)
                                                          have ex_247 : (sv25 0 0 58) = x_247 := Eq.symm (ex_247.trans (((congrFun (congrFun (congrFun est_241 0) 0) 58).trans (congrFun (congrFun (gU_k (by decide)) 0) 58)).trans ((n_216.2 0 0 58 (show (58 : Nat) ∉ _ from by decide)).trans (((congrFun (congrFun (congrFun est_214 0) 0) 58).trans (congrFun (congrFun (gU_k (by decide)) 0) 58)).trans (((congrFun (congrFun (congrFun est_213 0) 0) 58).trans (gU_other (by decide))).trans ((congrFun (congrFun (congrFun est_206 0) 0) 58).trans (congrFun (congrFun (gU_k (by decide)) 0) 58)))))))
                                                          subst ex_247
                                                          refine gs_put (C := RX10) (T := TX10) (N := 59) (ty := .int) (val := .int (sv25 0 0 58)) hx hb hts inX10 tyX10 tyX10_ok nmX10 hown hK hI hm hM hS 0 0 58 (by decide) rfl rfl (by decide) (hts _ gm_959) (fun _ h9 => h9) rfl ((sv25 0 0 58) : Int32) rfl (by decide +kernel) rfl rfl (Nat.le_of_ble_eq_true rfl) dX10_plan_520 (fun st_249 H locs est_249 hM hS => ?_)
                                                          have hB_st_249 : gBN bM kM [0, 55, 56, 57, 58, 2900, 3000, 3100, 3200, 3300, 3400, 3500, 3600, 3700, 3800] st st_249 := by rw [est_249]; exact hB_st_241.up (show (58 : Nat) ∈ _ from by decide) (gi_lo _) (gi_hi _)
                                                          refine lv_iload_n hx hb dX10_plan_523 rfl (lv_at hl 0 rfl) ?_
                                                          refine lv_iconst (v := 4) hx hb dX10_plan_524 (by decide) ?_
                                                          refine lv_iload_n hx hb dX10_plan_525 rfl (lv_at hl 6 rfl) ?_
                                                          refine lv_imul hx hb dX10_plan_526 ?_
                                                          refine lv_topi (fun x_250 ex_250 => ?_)
                                                          try have tx_250 : x_250.toInt = 4 * x.toInt := by rw [ex_250]; exact gz_mulI (x := 4) (y := x.toInt) (by decide) rfl (by omega) (by omega)
                                                          refine lv_icmp_ge (tgt := 539) hx hb dX10_plan_527 (by decide) (fun c_251 => ?_) (fun c_251 => ?_)
                                                          · have ic_251 := gz_le (rfl : x_250.toInt = x_250.toInt) (rfl : x_240.toInt = x_240.toInt) c_251
                                                            refine lv_goto (tgt := 195) hx hb dX10_plan_539 (by decide) ?_
                                                            exact ih_25 st_249 (x_240 : Int32) H _ ls (by rw [show st_249 33 0 = (upd (upd (sv25 33 0) (y25_0.toNatClampNeg) (x_205 : Int32)) (x_240.toNatClampNeg) (0 : Int32)) from ((congrFun (congrFun est_249 33) 0).trans ((congrFun (gU_k (by decide)) 0).trans ((congrFun (congrFun est_241 33) 0).trans ((gU_at _ _ _ _ _).trans (congrArg (fun f9 => upd f9 (x_240.toNatClampNeg) (0 : Int32)) ((funext (fun j9 => n_216.2 33 0 j9 (show (3300 : Nat) ∉ _ from by decide))).trans ((congrFun (congrFun est_214 33) 0).trans ((congrFun (gU_k (by decide)) 0).trans ((congrFun (congrFun est_213 33) 0).trans ((congrFun (gU_k (by decide)) 0).trans ((congrFun (congrFun est_206 33) 0).trans ((gU_at _ _ _ _ _).trans (congrArg (fun f9 => upd f9 (y25_0.toNatClampNeg) (x_205 : Int32)) rfl)))))))))))))]; exact pMu_u (y := y25_0) (by omega) (by omega) (by omega) (show (0 : Int) ≤ _ ∧ _ ≤ (8 : Int) from hB_sv25.1 33 0 _) (by omega) (by omega) hme25) hB_st_249 (by omega) (by omega) hM hS (lv_sub hl [0, 5, 6, 7] rfl)
                                                          · have ic_251 := gz_nle (rfl : x_250.toInt = x_250.toInt) (rfl : x_240.toInt = x_240.toInt) c_251
                                                            have lc_251 := gi_hi x_250
                                                            refine lv_aload_n hx hb dX10_plan_530 rfl (lv_at hl 5 rfl) ?_
                                                            refine lv_iload_n hx hb dX10_plan_531 rfl (lv_at hl 0 rfl) ?_
                                                            refine lv_iload hx hb dX10_plan_532 (lv_at hl 3 rfl) ?_
                                                            refine lv_iconst (v := 1) hx hb dX10_plan_534 (by decide) ?_
                                                            refine lv_iadd hx hb dX10_plan_535 ?_
                                                            refine lv_topi (fun x_252 ex_252 => ?_)
                                                            try have tx_252 : x_252.toInt = x_34.toInt + 1 := by rw [ex_252]; exact gz_addP (x := x_34.toInt) (y := 1) rfl (by decide) (by omega) (by omega)
                                                            refine gs_callv (va_runV (As := [.int x_240, .int x_252]) (rest := []) ⟨hx, hb, hml, hown, hts⟩ (m_dawn l G cy sK sV ad H.size st_249 hB_st_249.1 x_240 x_252 x_240.toInt x_252.toInt rfl rfl (by first | decide | omega) (by first | decide | omega) (by first | decide | omega) (by first | decide | omega) rs bk ((congrArg Int32.toInt ((((congrFun (congrFun (congrFun est_249 0) 0) 28).trans (gU_other (by decide))).trans (((congrFun (congrFun (congrFun est_241 0) 0) 28).trans (congrFun (congrFun (gU_k (by decide)) 0) 28)).trans ((n_216.2 0 0 28 (show (28 : Nat) ∉ _ from by decide)).trans (((congrFun (congrFun (congrFun est_214 0) 0) 28).trans (congrFun (congrFun (gU_k (by decide)) 0) 28)).trans (((congrFun (congrFun (congrFun est_213 0) 0) 28).trans (gU_other (by decide))).trans (((congrFun (congrFun (congrFun est_206 0) 0) 28).trans (congrFun (congrFun (gU_k (by decide)) 0) 28)).trans (hB_sv25.2 0 0 28 (show (28 : Nat) ∉ _ from by decide)))))))))).trans hbk) ((congrArg Int32.toInt ((((congrFun (congrFun (congrFun est_249 0) 0) 29).trans (gU_other (by decide))).trans (((congrFun (congrFun (congrFun est_241 0) 0) 29).trans (congrFun (congrFun (gU_k (by decide)) 0) 29)).trans ((n_216.2 0 0 29 (show (29 : Nat) ∉ _ from by decide)).trans (((congrFun (congrFun (congrFun est_214 0) 0) 29).trans (congrFun (congrFun (gU_k (by decide)) 0) 29)).trans (((congrFun (congrFun (congrFun est_213 0) 0) 29).trans (gU_other (by decide))).trans (((congrFun (congrFun (congrFun est_206 0) 0) 29).trans (congrFun (congrFun (gU_k (by decide)) 0) 29)).trans (hB_sv25.2 0 0 29 (show (29 : Nat) ∉ _ from by decide)))))))))).trans hru) (LM.all hLM (mA.trans (mA.trans (mA.trans (mA.trans (mA.trans (mA.trans (mA.trans mA.rf (mA.frame hB_sv25.2 (by decide))) (mA.upk est_206 (by decide))) (mA.upk est_213 (by decide))) (mA.upk est_214 (by decide))) (mA.frame n_216.2 (by decide))) (mA.upk est_241 (by decide))) (mA.upk est_249 (by decide))))) ⟨(gz_cb (n := 2) hts gm_1277 gm_12 gm_1280 ⟨by decide +kernel, by decide +kernel, by decide +kernel⟩ ⟨Nat.le_of_ble_eq_true rfl, Nat.le_of_ble_eq_true rfl⟩), hts _ gm_1279, hts _ gs_56⟩ (gs_preV hK hov hE hI hM hm hS hA 0 0 (by decide) rfl rfl) rfl rfl hl.1 rfl (lv_room (Nat.le_of_ble_eq_true rfl)) dX10_plan_536 ⟨Nat.le_of_ble_eq_true rfl, Nat.le_of_ble_eq_true rfl⟩) hm hS hA (fun st_253 H locs hw_253 hM hS => ?_)
                                                            obtain ⟨n_253, hw_253⟩ := hw_253
                                                            have hB_st_253 : gBN bM kM [0, 55, 56, 57, 58, 2900, 3000, 3100, 3200, 3300, 3400, 3500, 3600, 3700, 3800] st st_253 := hB_st_249.call n_253 (by decide)
                                                            refine lv_goto (tgt := 195) hx hb dX10_plan_539 (by decide) ?_
                                                            exact ih_25 st_253 (x_240 : Int32) H _ ls (by rw [show st_253 33 0 = (upd (upd (sv25 33 0) (y25_0.toNatClampNeg) (x_205 : Int32)) (x_240.toNatClampNeg) (0 : Int32)) from ((funext (fun j9 => n_253.2 33 0 j9 (show (3300 : Nat) ∉ _ from by decide))).trans ((congrFun (congrFun est_249 33) 0).trans ((congrFun (gU_k (by decide)) 0).trans ((congrFun (congrFun est_241 33) 0).trans ((gU_at _ _ _ _ _).trans (congrArg (fun f9 => upd f9 (x_240.toNatClampNeg) (0 : Int32)) ((funext (fun j9 => n_216.2 33 0 j9 (show (3300 : Nat) ∉ _ from by decide))).trans ((congrFun (congrFun est_214 33) 0).trans ((congrFun (gU_k (by decide)) 0).trans ((congrFun (congrFun est_213 33) 0).trans ((congrFun (gU_k (by decide)) 0).trans ((congrFun (congrFun est_206 33) 0).trans ((gU_at _ _ _ _ _).trans (congrArg (fun f9 => upd f9 (y25_0.toNatClampNeg) (x_205 : Int32)) rfl))))))))))))))]; exact pMu_u (y := y25_0) (by omega) (by omega) (by omega) (show (0 : Int) ≤ _ ∧ _ ≤ (8 : Int) from hB_sv25.1 33 0 _) (by omega) (by omega) hme25) hB_st_253 (by omega) (by omega) hM hS (lv_sub hl [0, 5, 6, 7] rfl)
                                                        · have ic_246 := gz_nle (rfl : x_243.toInt = x_243.toInt) (rfl : (sv25 0 0 58).toInt = (sv25 0 0 58).toInt) c_246
                                                          have lc_246 := gi_hi x_243
                                                          refine lv_iload_n hx hb dX10_plan_510 rfl (lv_at hl 0 rfl) ?_
                                                          refine lv_iconst (v := 4) hx hb dX10_plan_511 (by decide) ?_
                                                          refine lv_idiv hx hb dX10_plan_512 (by decide) ?_
                                                          refine lv_topi (fun x_254 ex_254 => ?_)
                                                          try have tx_254 := gs_div2 (y := 4) (by decide) (show 0 ≤ x_240.toInt from by omega) (by omega) ex_254
                                                          refine lv_goto (tgt := 520) hx hb dX10_plan_513 (by decide) ?_
                                                          refine gs_put (C := RX10) (T := TX10) (N := 59) (ty := .int) (val := .int x_254) hx hb hts inX10 tyX10 tyX10_ok nmX10 hown hK hI hm hM hS 0 0 58 (by decide) rfl rfl (by decide) (hts _ gm_959) (fun _ h9 => h9) rfl (x_254 : Int32) rfl (by decide +kernel) rfl rfl (Nat.le_of_ble_eq_true rfl) dX10_plan_520 (fun st_255 H locs est_255 hM hS => ?_)
                                                          have hB_st_255 : gBN bM kM [0, 55, 56, 57, 58, 2900, 3000, 3100, 3200, 3300, 3400, 3500, 3600, 3700, 3800] st st_255 := by rw [est_255]; exact hB_st_241.up (show (58 : Nat) ∈ _ from by decide) (gi_lo _) (gi_hi _)
                                                          refine lv_iload_n hx hb dX10_plan_523 rfl (lv_at hl 0 rfl) ?_
                                                          refine lv_iconst (v := 4) hx hb dX10_plan_524 (by decide) ?_
                                                          refine lv_iload_n hx hb dX10_plan_525 rfl (lv_at hl 6 rfl) ?_
                                                          refine lv_imul hx hb dX10_plan_526 ?_
                                                          refine lv_topi (fun x_256 ex_256 => ?_)
                                                          try have tx_256 : x_256.toInt = 4 * x.toInt := by rw [ex_256]; exact gz_mulI (x := 4) (y := x.toInt) (by decide) rfl (by omega) (by omega)
                                                          refine lv_icmp_ge (tgt := 539) hx hb dX10_plan_527 (by decide) (fun c_257 => ?_) (fun c_257 => ?_)
                                                          · have ic_257 := gz_le (rfl : x_256.toInt = x_256.toInt) (rfl : x_240.toInt = x_240.toInt) c_257
                                                            refine lv_goto (tgt := 195) hx hb dX10_plan_539 (by decide) ?_
                                                            exact ih_25 st_255 (x_240 : Int32) H _ ls (by rw [show st_255 33 0 = (upd (upd (sv25 33 0) (y25_0.toNatClampNeg) (x_205 : Int32)) (x_240.toNatClampNeg) (0 : Int32)) from ((congrFun (congrFun est_255 33) 0).trans ((congrFun (gU_k (by decide)) 0).trans ((congrFun (congrFun est_241 33) 0).trans ((gU_at _ _ _ _ _).trans (congrArg (fun f9 => upd f9 (x_240.toNatClampNeg) (0 : Int32)) ((funext (fun j9 => n_216.2 33 0 j9 (show (3300 : Nat) ∉ _ from by decide))).trans ((congrFun (congrFun est_214 33) 0).trans ((congrFun (gU_k (by decide)) 0).trans ((congrFun (congrFun est_213 33) 0).trans ((congrFun (gU_k (by decide)) 0).trans ((congrFun (congrFun est_206 33) 0).trans ((gU_at _ _ _ _ _).trans (congrArg (fun f9 => upd f9 (y25_0.toNatClampNeg) (x_205 : Int32)) rfl)))))))))))))]; exact pMu_u (y := y25_0) (by omega) (by omega) (by omega) (show (0 : Int) ≤ _ ∧ _ ≤ (8 : Int) from hB_sv25.1 33 0 _) (by omega) (by omega) hme25) hB_st_255 (by omega) (by omega) hM hS (lv_sub hl [0, 5, 6, 7] rfl)
                                                          · have ic_257 := gz_nle (rfl : x_256.toInt = x_256.toInt) (rfl : x_240.toInt = x_240.toInt) c_257
                                                            have lc_257 := gi_hi x_256
                                                            refine lv_aload_n hx hb dX10_plan_530 rfl (lv_at hl 5 rfl) ?_
                                                            refine lv_iload_n hx hb dX10_plan_531 rfl (lv_at hl 0 rfl) ?_
                                                            refine lv_iload hx hb dX10_plan_532 (lv_at hl 3 rfl) ?_
                                                            refine lv_iconst (v := 1) hx hb dX10_plan_534 (by decide) ?_
                                                            refine lv_iadd hx hb dX10_plan_535 ?_
                                                            refine lv_topi (fun x_258 ex_258 => ?_)
                                                            try have tx_258 : x_258.toInt = x_34.toInt + 1 := by rw [ex_258]; exact gz_addP (x := x_34.toInt) (y := 1) rfl (by decide) (by omega) (by omega)
                                                            refine gs_callv (va_runV (As := [.int x_240, .int x_258]) (rest := []) ⟨hx, hb, hml, hown, hts⟩ (m_dawn l G cy sK sV ad H.size st_255 hB_st_255.1 x_240 x_258 x_240.toInt x_258.toInt rfl rfl (by first | decide | omega) (by first | decide | omega) (by first | decide | omega) (by first | decide | omega) rs bk ((congrArg Int32.toInt ((((congrFun (congrFun (congrFun est_255 0) 0) 28).trans (gU_other (by decide))).trans (((congrFun (congrFun (congrFun est_241 0) 0) 28).trans (congrFun (congrFun (gU_k (by decide)) 0) 28)).trans ((n_216.2 0 0 28 (show (28 : Nat) ∉ _ from by decide)).trans (((congrFun (congrFun (congrFun est_214 0) 0) 28).trans (congrFun (congrFun (gU_k (by decide)) 0) 28)).trans (((congrFun (congrFun (congrFun est_213 0) 0) 28).trans (gU_other (by decide))).trans (((congrFun (congrFun (congrFun est_206 0) 0) 28).trans (congrFun (congrFun (gU_k (by decide)) 0) 28)).trans (hB_sv25.2 0 0 28 (show (28 : Nat) ∉ _ from by decide)))))))))).trans hbk) ((congrArg Int32.toInt ((((congrFun (congrFun (congrFun est_255 0) 0) 29).trans (gU_other (by decide))).trans (((congrFun (congrFun (congrFun est_241 0) 0) 29).trans (congrFun (congrFun (gU_k (by decide)) 0) 29)).trans ((n_216.2 0 0 29 (show (29 : Nat) ∉ _ from by decide)).trans (((congrFun (congrFun (congrFun est_214 0) 0) 29).trans (congrFun (congrFun (gU_k (by decide)) 0) 29)).trans (((congrFun (congrFun (congrFun est_213 0) 0) 29).trans (gU_other (by decide))).trans (((congrFun (congrFun (congrFun est_206 0) 0) 29).trans (congrFun (congrFun (gU_k (by decide)) 0) 29)).trans (hB_sv25.2 0 0 29 (show (29 : Nat) ∉ _ from by decide)))))))))).trans hru) (LM.all hLM (mA.trans (mA.trans (mA.trans (mA.trans (mA.trans (mA.trans (mA.trans mA.rf (mA.frame hB_sv25.2 (by decide))) (mA.upk est_206 (by decide))) (mA.upk est_213 (by decide))) (mA.upk est_214 (by decide))) (mA.frame n_216.2 (by decide))) (mA.upk est_241 (by decide))) (mA.upk est_255 (by decide))))) ⟨(gz_cb (n := 2) hts gm_1277 gm_12 gm_1280 ⟨by decide +kernel, by decide +kernel, by decide +kernel⟩ ⟨Nat.le_of_ble_eq_true rfl, Nat.le_of_ble_eq_true rfl⟩), hts _ gm_1279, hts _ gs_56⟩ (gs_preV hK hov hE hI hM hm hS hA 0 0 (by decide) rfl rfl) rfl rfl hl.1 rfl (lv_room (Nat.le_of_ble_eq_true rfl)) dX10_plan_536 ⟨Nat.le_of_ble_eq_true rfl, Nat.le_of_ble_eq_true rfl⟩) hm hS hA (fun st_259 H locs hw_259 hM hS => ?_)
                                                            obtain ⟨n_259, hw_259⟩ := hw_259
                                                            have hB_st_259 : gBN bM kM [0, 55, 56, 57, 58, 2900, 3000, 3100, 3200, 3300, 3400, 3500, 3600, 3700, 3800] st st_259 := hB_st_255.call n_259 (by decide)
                                                            refine lv_goto (tgt := 195) hx hb dX10_plan_539 (by decide) ?_
                                                            exact ih_25 st_259 (x_240 : Int32) H _ ls (by rw [show st_259 33 0 = (upd (upd (sv25 33 0) (y25_0.toNatClampNeg) (x_205 : Int32)) (x_240.toNatClampNeg) (0 : Int32)) from ((funext (fun j9 => n_259.2 33 0 j9 (show (3300 : Nat) ∉ _ from by decide))).trans ((congrFun (congrFun est_255 33) 0).trans ((congrFun (gU_k (by decide)) 0).trans ((congrFun (congrFun est_241 33) 0).trans ((gU_at _ _ _ _ _).trans (congrArg (fun f9 => upd f9 (x_240.toNatClampNeg) (0 : Int32)) ((funext (fun j9 => n_216.2 33 0 j9 (show (3300 : Nat) ∉ _ from by decide))).trans ((congrFun (congrFun est_214 33) 0).trans ((congrFun (gU_k (by decide)) 0).trans ((congrFun (congrFun est_213 33) 0).trans ((congrFun (gU_k (by decide)) 0).trans ((congrFun (congrFun est_206 33) 0).trans ((gU_at _ _ _ _ _).trans (congrArg (fun f9 => upd f9 (y25_0.toNatClampNeg) (x_205 : Int32)) rfl))))))))))))))]; exact pMu_u (y := y25_0) (by omega) (by omega) (by omega) (show (0 : Int) ≤ _ ∧ _ ≤ (8 : Int) from hB_sv25.1 33 0 _) (by omega) (by omega) hme25) hB_st_259 (by omega) (by omega) hM hS (lv_sub hl [0, 5, 6, 7] rfl)
                                                      · have ic_242 := gz_nle (by decide : (3 : Int32).toInt = 3) (rfl : x_29.toInt = x_29.toInt) c_242
                                                        refine lv_goto (tgt := 195) hx hb dX10_plan_496 (by decide) ?_
                                                        exact ih_25 st_241 (x_240 : Int32) H _ ls (by rw [show st_241 33 0 = (upd (upd (sv25 33 0) (y25_0.toNatClampNeg) (x_205 : Int32)) (x_240.toNatClampNeg) (0 : Int32)) from ((congrFun (congrFun est_241 33) 0).trans ((gU_at _ _ _ _ _).trans (congrArg (fun f9 => upd f9 (x_240.toNatClampNeg) (0 : Int32)) ((funext (fun j9 => n_216.2 33 0 j9 (show (3300 : Nat) ∉ _ from by decide))).trans ((congrFun (congrFun est_214 33) 0).trans ((congrFun (gU_k (by decide)) 0).trans ((congrFun (congrFun est_213 33) 0).trans ((congrFun (gU_k (by decide)) 0).trans ((congrFun (congrFun est_206 33) 0).trans ((gU_at _ _ _ _ _).trans (congrArg (fun f9 => upd f9 (y25_0.toNatClampNeg) (x_205 : Int32)) rfl)))))))))))]; exact pMu_u (y := y25_0) (by omega) (by omega) (by omega) (show (0 : Int) ≤ _ ∧ _ ≤ (8 : Int) from hB_sv25.1 33 0 _) (by omega) (by omega) hme25) hB_st_241 (by omega) (by omega) hM hS (lv_sub hl [0, 5, 6, 7] rfl)
                                                    · skip
                                                      refine lv_if_ne (tgt := 480) hx hb dX10_plan_474 (by decide) (fun h9 => absurd (by decide) h9) (fun _ => ?_)
                                                      refine lv_goto (tgt := 195) hx hb dX10_plan_477 (by decide) ?_
                                                      exact ih_25 st_216 (y25_0 : Int32) H _ ls (by rw [show st_216 33 0 = (upd (sv25 33 0) (y25_0.toNatClampNeg) (x_205 : Int32)) from ((funext (fun j9 => n_216.2 33 0 j9 (show (3300 : Nat) ∉ _ from by decide))).trans ((congrFun (congrFun est_214 33) 0).trans ((congrFun (gU_k (by decide)) 0).trans ((congrFun (congrFun est_213 33) 0).trans ((congrFun (gU_k (by decide)) 0).trans ((congrFun (congrFun est_206 33) 0).trans ((gU_at _ _ _ _ _).trans (congrArg (fun f9 => upd f9 (y25_0.toNatClampNeg) (x_205 : Int32)) rfl))))))))]; exact pMu_s (y := y25_0) (by omega) (show (0 : Int) ≤ _ ∧ _ ≤ (8 : Int) from hB_sv25.1 33 0 _) (by omega) hme25) hB_st_216 (by omega) (by omega) hM hS (lv_sub hl [4, 5, 6, 7] rfl)
                                                · have ic_209 := gz_eqn (rfl : (sv25 0 0 57).toInt = (sv25 0 0 57).toInt) (rfl : y.toInt = y.toInt) c_209
                                                  refine lv_iconst (v := 2) hx hb dX10_plan_414 (by decide) ?_
                                                  rw [← hQe]
                                                  exact gs_iret hx hb hr hlocks hM hS rfl ⟨hB_st_206, trivial⟩ (by exact Nat.le_refl _) (by exact Nat.le_refl _) dX10_plan_415
                                              · have ic_204 := gz_nlt (rfl : y144_0.toInt = y144_0.toInt) (by decide : (8 : Int32).toInt = 8) c_204
                                                obtain ⟨x_260, ex_260⟩ : ∃ y : Int32, y = y25_0 + (-1) := ⟨_, rfl⟩
                                                try have tx_260 : x_260.toInt = y25_0.toInt + (-1) := by rw [ex_260]; exact gz_addI (x := y25_0.toInt) (y := (-1)) rfl (by decide) (by omega) (by omega)
                                                refine lv_iinc (v := (x_260)) (lv' := [(3, .int x_260), (7, .int y144_0), (6, .int 1), (5, .int x_34), (4, .int x_29), (0, .ref (ad 0 0)), (1, .int x), (2, .int y)]) hx hb dX10_plan_385 hl (k := 4) rfl (by rw [ex_260]; rfl) (by decide) rfl (fun ls hl => ?_)
                                                refine lv_goto (tgt := 195) hx hb dX10_plan_388 (by decide) ?_
                                                exact ih_25 sv25 (x_260 : Int32) H _ ls (by exact pMu_d (y := y25_0) (by omega) (by omega) (show (0 : Int) ≤ _ ∧ _ ≤ (8 : Int) from hB_sv25.1 33 0 _) hme25) hB_sv25 (by omega) (by omega) hM hS (lv_sub hl [0, 5, 6, 7] rfl)
                                            · skip
                                              refine lv_if_ne (tgt := 369) hx hb dX10_plan_360 (by decide) (fun h9 => absurd (by decide) h9) (fun _ => ?_)
                                              obtain ⟨x_261, ex_261⟩ : ∃ y : Int32, y = y144_0 + 1 := ⟨_, rfl⟩
                                              try have tx_261 : x_261.toInt = y144_0.toInt + 1 := by rw [ex_261]; exact gz_addP (x := y144_0.toInt) (y := 1) rfl (by decide) (by omega) (by omega)
                                              refine lv_iinc (v := (x_261)) (lv' := [(7, .int x_261), (6, .int 1), (5, .int x_34), (4, .int x_29), (3, .int y25_0), (0, .ref (ad 0 0)), (1, .int x), (2, .int y)]) hx hb dX10_plan_363 hl (k := 0) rfl (by rw [ex_261]; rfl) (by decide) rfl (fun ls hl => ?_)
                                              refine lv_goto (tgt := 344) hx hb dX10_plan_366 (by decide) ?_
                                              exact ih_144  (x_261 : Int32) H _ ls (by omega)  (by omega) (by omega) (by omega) hM hS (lv_sub hl [0, 1, 2, 3, 4, 5, 6, 7] rfl)
                                      exact lp144 ((8 - (x_143 : Int32).toInt).toNat + 1)  (x_143 : Int32) H _ ls (Nat.lt_succ_self _)  (by omega) (by omega) (by omega) hM hS (lv_sub hl [0, 1, 2, 3, 4, 5, 6, 7] rfl)
                                · have ic_28 := gz_eqn (rfl : y25_0.toInt = y25_0.toInt) (rfl : x_27.toInt = x_27.toInt) c_28
                                  refine lv_iconst (v := 0) hx hb dX10_plan_206 (by decide) ?_
                                  refine lv_istore (lv' := [(4, .int 0), (3, .int y25_0), (0, .ref (ad 0 0)), (1, .int x), (2, .int y)]) hx hb dX10_plan_207 hl (by decide) rfl (fun ls hl => ?_)
                                  have lp262 : ∀ (n262 : Nat) (sv262 : gS) (y262_0 : Int32) (H : Heap) (locs : List Loc) (ls : Array Slot), (56 - y262_0.toInt).toNat < n262 → gBN bM kM [0, 55, 56, 57, 58, 2900, 3000, 3100, 3200, 3300, 3400, 3500, 3600, 3700, 3800] st sv262 → (0 ≤ y262_0.toInt) → gM G (shM cy ad) cnM ad sv262 H → va_S A s.heap H locs → lv_has ls 8 [(4, .int y262_0), (3, .int y25_0), (0, .ref (ad 0 0)), (1, .int x), (2, .int y)] → W p l e ({ frames := 2, cells := 0, slots := 0, locals := 53 } : Room) s m [.ref (ad 0 0), .int x, .int y].toArray below meth c H locs 0 0 Q (F0 m 209 ls []) := by
                                    intro n262
                                    induction n262 with
                                    | zero => intro sv262 y262_0 H locs ls h9; exact absurd h9 (Nat.not_lt_zero _)
                                    | succ n262 ih_262 =>
                                      intro sv262 y262_0 H locs ls hme262 hB_sv262 hv262_0 hM hS hl
                                      refine lv_iload hx hb dX10_plan_209 (lv_at hl 0 rfl) ?_
                                      refine lv_iload_n hx hb dX10_plan_211 rfl (lv_at hl 1 rfl) ?_
                                      refine lv_icmp_ge (tgt := 235) hx hb dX10_plan_212 (by decide) (fun c_263 => ?_) (fun c_263 => ?_)
                                      · have ic_263 := gz_le (rfl : y25_0.toInt = y25_0.toInt) (rfl : y262_0.toInt = y262_0.toInt) c_263
                                        refine lv_iconst (v := 0) hx hb dX10_plan_235 (by decide) ?_
                                        refine lv_istore (lv' := [(4, .int 0), (3, .int y25_0), (0, .ref (ad 0 0)), (1, .int x), (2, .int y)]) hx hb dX10_plan_236 hl (by decide) rfl (fun ls hl => ?_)
                                        have lp264 : ∀ (n264 : Nat) (sv264 : gS) (y264_0 : Int32) (H : Heap) (locs : List Loc) (ls : Array Slot), (4 - y264_0.toInt).toNat < n264 → gBN bM kM [0, 55, 56, 57, 58, 2900, 3000, 3100, 3200, 3300, 3400, 3500, 3600, 3700, 3800] st sv264 → (0 ≤ y264_0.toInt) → gM G (shM cy ad) cnM ad sv264 H → va_S A s.heap H locs → lv_has ls 8 [(4, .int y264_0), (3, .int y25_0), (0, .ref (ad 0 0)), (1, .int x), (2, .int y)] → W p l e ({ frames := 2, cells := 0, slots := 0, locals := 53 } : Room) s m [.ref (ad 0 0), .int x, .int y].toArray below meth c H locs 0 0 Q (F0 m 238 ls []) := by
                                          intro n264
                                          induction n264 with
                                          | zero => intro sv264 y264_0 H locs ls h9; exact absurd h9 (Nat.not_lt_zero _)
                                          | succ n264 ih_264 =>
                                            intro sv264 y264_0 H locs ls hme264 hB_sv264 hv264_0 hM hS hl
                                            refine lv_iload hx hb dX10_plan_238 (lv_at hl 0 rfl) ?_
                                            refine lv_iconst (v := 4) hx hb dX10_plan_240 (by decide) ?_
                                            refine lv_icmp_ge (tgt := 264) hx hb dX10_plan_241 (by decide) (fun c_265 => ?_) (fun c_265 => ?_)
                                            · have ic_265 := gz_le (by decide : (4 : Int32).toInt = 4) (rfl : y264_0.toInt = y264_0.toInt) c_265
                                              refine lv_aload_n hx hb dX10_plan_264 rfl (lv_at hl 2 rfl) ?_
                                              refine lv_aload_n hx hb dX10_plan_265 rfl (lv_at hl 2 rfl) ?_
                                              refine gs_get (C := RX10) (T := TX10) (N := 59) hx hb hts inX10 hown hK hM 0 0 7 (by decide) rfl rfl (by decide) (hts _ gm_908) (fun _ h9 => h9) rfl dX10_plan_266 ?_
                                              refine lv_topi (fun x_266 ex_266 => ?_)
                                              have ex_266 : (st 0 0 7) = x_266 := Eq.symm (ex_266.trans (hB_sv264.2 0 0 7 (show (7 : Nat) ∉ _ from by decide)))
                                              subst ex_266
                                              have bf_267 : (0 : Int) ≤ (st 0 0 7).toInt ∧ (st 0 0 7).toInt ≤ (199 : Int) := hB_st.1 0 0 7
                                              refine lv_iconst (v := 1) hx hb dX10_plan_269 (by decide) ?_
                                              refine lv_iadd hx hb dX10_plan_270 ?_
                                              refine lv_topi (fun x_268 ex_268 => ?_)
                                              try have tx_268 : x_268.toInt = (st 0 0 7).toInt + 1 := by rw [ex_268]; exact gz_addP (x := (st 0 0 7).toInt) (y := 1) rfl (by decide) (by omega) (by omega)
                                              refine gs_put (C := RX10) (T := TX10) (N := 59) (ty := .int) (val := .int x_268) hx hb hts inX10 tyX10 tyX10_ok nmX10 hown hK hI hm hM hS 0 0 55 (by decide) rfl rfl (by decide) (hts _ gm_956) (fun _ h9 => h9) rfl (x_268 : Int32) rfl (by decide +kernel) rfl rfl (Nat.le_of_ble_eq_true rfl) dX10_plan_271 (fun st_269 H locs est_269 hM hS => ?_)
                                              have hB_st_269 : gBN bM kM [0, 55, 56, 57, 58, 2900, 3000, 3100, 3200, 3300, 3400, 3500, 3600, 3700, 3800] st st_269 := by rw [est_269]; exact hB_sv264.up (show (55 : Nat) ∈ _ from by decide) (show (-1 : Int) ≤ x_268.toInt from by omega) (show x_268.toInt ≤ (199 : Int) from by omega)
                                              refine lv_aload_n hx hb dX10_plan_274 rfl (lv_at hl 2 rfl) ?_
                                              refine lv_iload_n hx hb dX10_plan_275 rfl (lv_at hl 3 rfl) ?_
                                              refine gs_put (C := RX10) (T := TX10) (N := 59) (ty := .int) (val := .int x) hx hb hts inX10 tyX10 tyX10_ok nmX10 hown hK hI hm hM hS 0 0 56 (by decide) rfl rfl (by decide) (hts _ gm_957) (fun _ h9 => h9) rfl (x : Int32) rfl (by decide +kernel) rfl rfl (Nat.le_of_ble_eq_true rfl) dX10_plan_276 (fun st_270 H locs est_270 hM hS => ?_)
                                              have hB_st_270 : gBN bM kM [0, 55, 56, 57, 58, 2900, 3000, 3100, 3200, 3300, 3400, 3500, 3600, 3700, 3800] st st_270 := by rw [est_270]; exact hB_st_269.up (show (56 : Nat) ∈ _ from by decide) (show (0 : Int) ≤ x.toInt from by omega) (show x.toInt ≤ (14 : Int) from by omega)
                                              refine lv_iconst (v := 0) hx hb dX10_plan_279 (by decide) ?_
                                              rw [← hQe]
                                              exact gs_iret hx hb hr hlocks hM hS rfl ⟨hB_st_270, trivial⟩ (by exact Nat.le_refl _) (by exact Nat.le_refl _) dX10_plan_280
                                            · have ic_265 := gz_nle (by decide : (4 : Int32).toInt = 4) (rfl : y264_0.toInt = y264_0.toInt) c_265
                                              refine lv_aload_n hx hb dX10_plan_244 rfl (lv_at hl 2 rfl) ?_
                                              refine gs_get (C := RX10) (T := TX10) (N := 59) hx hb hts inX10 hown hK hM 0 0 54 (by decide) rfl rfl (by decide) (hts _ gm_955) (fun _ h9 => h9) rfl dX10_plan_245 ?_
                                              refine lv_iload hx hb dX10_plan_248 (lv_at hl 0 rfl) ?_
                                              refine lv_aload_n hx hb dX10_plan_250 rfl (lv_at hl 2 rfl) ?_
                                              refine gs_get (C := RX10) (T := TX10) (N := 59) hx hb hts inX10 hown hK hM 0 0 38 (by decide) rfl rfl (by decide) (hts _ gm_939) (fun _ h9 => h9) rfl dX10_plan_251 ?_
                                              refine lv_iload hx hb dX10_plan_254 (lv_at hl 0 rfl) ?_
                                              refine gs_zald hx hb hK hM 22 0 (by decide) rfl (vp_in_iff.mpr ⟨by omega, by omega⟩) dX10_plan_256 ?_
                                              refine lv_topi (fun x_271 ex_271 => ?_)
                                              have qx_271 : x_271.toInt = (sv264 22 0 (y264_0.toNatClampNeg)).toInt := congrArg Int32.toInt ex_271
                                              have rx_271 : x_271.toInt = ((st 22 0 (y264_0.toNatClampNeg)) : Int32).toInt := by rw [ex_271]; exact congrArg Int32.toInt ((hB_sv264.2 22 0 (y264_0.toNatClampNeg) (show (2200 : Nat) ∉ _ from by decide)))
                                              refine gs_zast hx hb hK hI hm hM hS 38 0 (by decide) (fun _ => rfl) (vp_in_iff.mpr ⟨by omega, by omega⟩) dX10_plan_257 (fun st_272 H locs est_272 hM hS => ?_)
                                              have hB_st_272 : gBN bM kM [0, 55, 56, 57, 58, 2900, 3000, 3100, 3200, 3300, 3400, 3500, 3600, 3700, 3800] st st_272 := by rw [est_272]; exact hB_sv264.up (show (3800 : Nat) ∈ _ from by decide) (gi_lo _) (gi_hi _)
                                              obtain ⟨x_273, ex_273⟩ : ∃ y : Int32, y = y264_0 + 1 := ⟨_, rfl⟩
                                              try have tx_273 : x_273.toInt = y264_0.toInt + 1 := by rw [ex_273]; exact gz_addP (x := y264_0.toInt) (y := 1) rfl (by decide) (by omega) (by omega)
                                              refine lv_iinc (v := (x_273)) (lv' := [(4, .int x_273), (3, .int y25_0), (0, .ref (ad 0 0)), (1, .int x), (2, .int y)]) hx hb dX10_plan_258 hl (k := 0) rfl (by rw [ex_273]; rfl) (by decide) rfl (fun ls hl => ?_)
                                              refine lv_goto (tgt := 238) hx hb dX10_plan_261 (by decide) ?_
                                              exact ih_264 st_272 (x_273 : Int32) H _ ls (by omega) hB_st_272 (by omega) hM hS (lv_sub hl [0, 1, 2, 3, 4] rfl)
                                        exact lp264 ((4 - ((0 : Int32) : Int32).toInt).toNat + 1) sv262 ((0 : Int32) : Int32) H _ ls (Nat.lt_succ_self _) hB_sv262 (by have hl0 : (0 : Int32).toInt = 0 := (by decide); omega) hM hS (lv_sub hl [0, 1, 2, 3, 4] rfl)
                                      · have ic_263 := gz_nle (rfl : y25_0.toInt = y25_0.toInt) (rfl : y262_0.toInt = y262_0.toInt) c_263
                                        have lc_263 := gi_hi y25_0
                                        refine lv_aload_n hx hb dX10_plan_215 rfl (lv_at hl 2 rfl) ?_
                                        refine gs_get (C := RX10) (T := TX10) (N := 59) hx hb hts inX10 hown hK hM 0 0 53 (by decide) rfl rfl (by decide) (hts _ gm_954) (fun _ h9 => h9) rfl dX10_plan_216 ?_
                                        refine lv_iload hx hb dX10_plan_219 (lv_at hl 0 rfl) ?_
                                        refine lv_aload_n hx hb dX10_plan_221 rfl (lv_at hl 2 rfl) ?_
                                        refine gs_get (C := RX10) (T := TX10) (N := 59) hx hb hts inX10 hown hK hM 0 0 50 (by decide) rfl rfl (by decide) (hts _ gm_951) (fun _ h9 => h9) rfl dX10_plan_222 ?_
                                        refine lv_iload hx hb dX10_plan_225 (lv_at hl 0 rfl) ?_
                                        refine gs_iald hx hb hK hM 34 0 (by decide) rfl (vp_in_iff.mpr ⟨by omega, by omega⟩) dX10_plan_227 ?_
                                        refine lv_topi (fun x_274 ex_274 => ?_)
                                        have qx_274 : x_274.toInt = (sv262 34 0 (y262_0.toNatClampNeg)).toInt := congrArg Int32.toInt ex_274
                                        refine gs_iast hx hb hK hI hm hM hS 37 0 (by decide) (fun _ => rfl) (vp_in_iff.mpr ⟨by omega, by omega⟩) dX10_plan_228 (fun st_275 H locs est_275 hM hS => ?_)
                                        have hB_st_275 : gBN bM kM [0, 55, 56, 57, 58, 2900, 3000, 3100, 3200, 3300, 3400, 3500, 3600, 3700, 3800] st st_275 := by rw [est_275]; exact hB_sv262.up (show (3700 : Nat) ∈ _ from by decide) (gi_lo _) (gi_hi _)
                                        obtain ⟨x_276, ex_276⟩ : ∃ y : Int32, y = y262_0 + 1 := ⟨_, rfl⟩
                                        try have tx_276 : x_276.toInt = y262_0.toInt + 1 := by rw [ex_276]; exact gz_addP (x := y262_0.toInt) (y := 1) rfl (by decide) (by omega) (by omega)
                                        refine lv_iinc (v := (x_276)) (lv' := [(4, .int x_276), (3, .int y25_0), (0, .ref (ad 0 0)), (1, .int x), (2, .int y)]) hx hb dX10_plan_229 hl (k := 0) rfl (by rw [ex_276]; rfl) (by decide) rfl (fun ls hl => ?_)
                                        refine lv_goto (tgt := 209) hx hb dX10_plan_232 (by decide) ?_
                                        exact ih_262 st_275 (x_276 : Int32) H _ ls (by omega) hB_st_275 (by omega) hM hS (lv_sub hl [0, 1, 2, 3, 4] rfl)
                                  exact lp262 ((56 - ((0 : Int32) : Int32).toInt).toNat + 1) sv25 ((0 : Int32) : Int32) H _ ls (Nat.lt_succ_self _) hB_sv25 (by have hl0 : (0 : Int32).toInt = 0 := (by decide); omega) hM hS (lv_sub hl [0, 1, 2, 3, 4] rfl)
                          exact lp25 (pMu (st_24 33 0) (((0 : Int32) : Int32).toInt + 1).toNat + 1) st_24 ((0 : Int32) : Int32) H _ ls (Nat.lt_succ_self _) hB_st_24 (by have hl0 : (0 : Int32).toInt = 0 := (by decide); omega) (by have hl0 : (0 : Int32).toInt = 0 := (by decide); omega) hM hS (lv_sub hl [0, 1, 2, 3] rfl)
                        · have ic_19 := gz_nle (by decide : (4 : Int32).toInt = 4) (rfl : y18_0.toInt = y18_0.toInt) c_19
                          refine lv_aload_n hx hb dX10_plan_135 rfl (lv_at hl 1 rfl) ?_
                          refine gs_get (C := RX10) (T := TX10) (N := 59) hx hb hts inX10 hown hK hM 0 0 46 (by decide) rfl rfl (by decide) (hts _ gm_947) (fun _ h9 => h9) rfl dX10_plan_136 ?_
                          refine lv_iload_n hx hb dX10_plan_139 rfl (lv_at hl 0 rfl) ?_
                          refine lv_aload_n hx hb dX10_plan_140 rfl (lv_at hl 1 rfl) ?_
                          refine gs_get (C := RX10) (T := TX10) (N := 59) hx hb hts inX10 hown hK hM 0 0 42 (by decide) rfl rfl (by decide) (hts _ gm_943) (fun _ h9 => h9) rfl dX10_plan_141 ?_
                          refine lv_iload_n hx hb dX10_plan_144 rfl (lv_at hl 0 rfl) ?_
                          refine gs_iald hx hb hK hM 26 0 (by decide) rfl (vp_in_iff.mpr ⟨by omega, by omega⟩) dX10_plan_145 ?_
                          refine lv_topi (fun x_277 ex_277 => ?_)
                          have qx_277 : x_277.toInt = (sv18 26 0 (y18_0.toNatClampNeg)).toInt := congrArg Int32.toInt ex_277
                          have bx_277 : (0 : Int) ≤ x_277.toInt ∧ x_277.toInt ≤ (5 : Int) := by rw [qx_277]; exact hB_sv18.1 26 0 (y18_0.toNatClampNeg)
                          have rx_277 : x_277.toInt = ((st 26 0 (y18_0.toNatClampNeg)) : Int32).toInt := by rw [ex_277]; exact congrArg Int32.toInt ((hB_sv18.2 26 0 (y18_0.toNatClampNeg) (show (2600 : Nat) ∉ _ from by decide)))
                          refine gs_iast hx hb hK hI hm hM hS 30 0 (by decide) (fun _ => rfl) (vp_in_iff.mpr ⟨by omega, by omega⟩) dX10_plan_146 (fun st_278 H locs est_278 hM hS => ?_)
                          have hB_st_278 : gBN bM kM [0, 55, 56, 57, 58, 2900, 3000, 3100, 3200, 3300, 3400, 3500, 3600, 3700, 3800] st st_278 := by rw [est_278]; exact hB_sv18.up (show (3000 : Nat) ∈ _ from by decide) (show (0 : Int) ≤ x_277.toInt from by omega) (show x_277.toInt ≤ (5 : Int) from by omega)
                          refine lv_aload_n hx hb dX10_plan_147 rfl (lv_at hl 1 rfl) ?_
                          refine gs_get (C := RX10) (T := TX10) (N := 59) hx hb hts inX10 hown hK hM 0 0 47 (by decide) rfl rfl (by decide) (hts _ gm_948) (fun _ h9 => h9) rfl dX10_plan_148 ?_
                          refine lv_iload_n hx hb dX10_plan_151 rfl (lv_at hl 0 rfl) ?_
                          refine lv_aload_n hx hb dX10_plan_152 rfl (lv_at hl 1 rfl) ?_
                          refine gs_get (C := RX10) (T := TX10) (N := 59) hx hb hts inX10 hown hK hM 0 0 7 (by decide) rfl rfl (by decide) (hts _ gm_908) (fun _ h9 => h9) rfl dX10_plan_153 ?_
                          refine lv_topi (fun x_279 ex_279 => ?_)
                          have ex_279 : (st 0 0 7) = x_279 := Eq.symm (ex_279.trans (((congrFun (congrFun (congrFun est_278 0) 0) 7).trans (congrFun (congrFun (gU_k (by decide)) 0) 7)).trans (hB_sv18.2 0 0 7 (show (7 : Nat) ∉ _ from by decide))))
                          subst ex_279
                          have bf_280 : (0 : Int) ≤ (st 0 0 7).toInt ∧ (st 0 0 7).toInt ≤ (199 : Int) := hB_st.1 0 0 7
                          refine gs_iast hx hb hK hI hm hM hS 31 0 (by decide) (fun _ => rfl) (vp_in_iff.mpr ⟨by omega, by omega⟩) dX10_plan_156 (fun st_281 H locs est_281 hM hS => ?_)
                          have hB_st_281 : gBN bM kM [0, 55, 56, 57, 58, 2900, 3000, 3100, 3200, 3300, 3400, 3500, 3600, 3700, 3800] st st_281 := by rw [est_281]; exact hB_st_278.up (show (3100 : Nat) ∈ _ from by decide) (gi_lo _) (gi_hi _)
                          refine lv_aload_n hx hb dX10_plan_157 rfl (lv_at hl 1 rfl) ?_
                          refine gs_get (C := RX10) (T := TX10) (N := 59) hx hb hts inX10 hown hK hM 0 0 48 (by decide) rfl rfl (by decide) (hts _ gm_949) (fun _ h9 => h9) rfl dX10_plan_158 ?_
                          refine lv_iload_n hx hb dX10_plan_161 rfl (lv_at hl 0 rfl) ?_
                          refine lv_aload_n hx hb dX10_plan_162 rfl (lv_at hl 1 rfl) ?_
                          refine gs_get (C := RX10) (T := TX10) (N := 59) hx hb hts inX10 hown hK hM 0 0 43 (by decide) rfl rfl (by decide) (hts _ gm_944) (fun _ h9 => h9) rfl dX10_plan_163 ?_
                          refine lv_iload_n hx hb dX10_plan_166 rfl (lv_at hl 0 rfl) ?_
                          refine gs_iald hx hb hK hM 27 0 (by decide) rfl (vp_in_iff.mpr ⟨by omega, by omega⟩) dX10_plan_167 ?_
                          refine lv_topi (fun x_282 ex_282 => ?_)
                          have qx_282 : x_282.toInt = (st_281 27 0 (y18_0.toNatClampNeg)).toInt := congrArg Int32.toInt ex_282
                          have rx_282 : x_282.toInt = ((st 27 0 (y18_0.toNatClampNeg)) : Int32).toInt := by rw [ex_282]; exact congrArg Int32.toInt ((((congrFun (congrFun (congrFun est_281 27) 0) (y18_0.toNatClampNeg)).trans (congrFun (congrFun (gU_k (by decide)) 0) (y18_0.toNatClampNeg))).trans (((congrFun (congrFun (congrFun est_278 27) 0) (y18_0.toNatClampNeg)).trans (congrFun (congrFun (gU_k (by decide)) 0) (y18_0.toNatClampNeg))).trans (hB_sv18.2 27 0 (y18_0.toNatClampNeg) (show (2700 : Nat) ∉ _ from by decide)))))
                          refine gs_iast hx hb hK hI hm hM hS 32 0 (by decide) (fun _ => rfl) (vp_in_iff.mpr ⟨by omega, by omega⟩) dX10_plan_168 (fun st_283 H locs est_283 hM hS => ?_)
                          have hB_st_283 : gBN bM kM [0, 55, 56, 57, 58, 2900, 3000, 3100, 3200, 3300, 3400, 3500, 3600, 3700, 3800] st st_283 := by rw [est_283]; exact hB_st_281.up (show (3200 : Nat) ∈ _ from by decide) (gi_lo _) (gi_hi _)
                          obtain ⟨x_284, ex_284⟩ : ∃ y : Int32, y = y18_0 + 1 := ⟨_, rfl⟩
                          try have tx_284 : x_284.toInt = y18_0.toInt + 1 := by rw [ex_284]; exact gz_addP (x := y18_0.toInt) (y := 1) rfl (by decide) (by omega) (by omega)
                          refine lv_iinc (v := (x_284)) (lv' := [(3, .int x_284), (0, .ref (ad 0 0)), (1, .int x), (2, .int y)]) hx hb dX10_plan_169 hl (k := 0) rfl (by rw [ex_284]; rfl) (by decide) rfl (fun ls hl => ?_)
                          refine lv_goto (tgt := 130) hx hb dX10_plan_172 (by decide) ?_
                          exact ih_18 st_283 (x_284 : Int32) H _ ls (by omega) hB_st_283 (by omega) hM hS (lv_sub hl [0, 1, 2, 3] rfl)
                    exact lp18 ((4 - ((0 : Int32) : Int32).toInt).toNat + 1) sv16 ((0 : Int32) : Int32) H _ ls (Nat.lt_succ_self _) hB_sv16 (by have hl0 : (0 : Int32).toInt = 0 := (by decide); omega) hM hS (lv_sub hl [0, 1, 2, 3] rfl)
                  · have ic_17 := gz_nle (by decide : (6 : Int32).toInt = 6) (rfl : y16_0.toInt = y16_0.toInt) c_17
                    refine lv_aload_n hx hb dX10_plan_110 rfl (lv_at hl 1 rfl) ?_
                    refine gs_get (C := RX10) (T := TX10) (N := 59) hx hb hts inX10 hown hK hM 0 0 45 (by decide) rfl rfl (by decide) (hts _ gm_946) (fun _ h9 => h9) rfl dX10_plan_111 ?_
                    refine lv_iload_n hx hb dX10_plan_114 rfl (lv_at hl 0 rfl) ?_
                    refine lv_aload_n hx hb dX10_plan_115 rfl (lv_at hl 1 rfl) ?_
                    refine gs_get (C := RX10) (T := TX10) (N := 59) hx hb hts inX10 hown hK hM 0 0 4 (by decide) rfl rfl (by decide) (hts _ gm_905) (fun _ h9 => h9) rfl dX10_plan_116 ?_
                    refine lv_iload_n hx hb dX10_plan_119 rfl (lv_at hl 0 rfl) ?_
                    refine gs_iald hx hb hK hM 4 0 (by decide) rfl (vp_in_iff.mpr ⟨by omega, by omega⟩) dX10_plan_120 ?_
                    refine lv_topi (fun x_285 ex_285 => ?_)
                    have qx_285 : x_285.toInt = (sv16 4 0 (y16_0.toNatClampNeg)).toInt := congrArg Int32.toInt ex_285
                    have rx_285 : x_285.toInt = ((st 4 0 (y16_0.toNatClampNeg)) : Int32).toInt := by rw [ex_285]; exact congrArg Int32.toInt ((hB_sv16.2 4 0 (y16_0.toNatClampNeg) (show (400 : Nat) ∉ _ from by decide)))
                    refine gs_iast hx hb hK hI hm hM hS 29 0 (by decide) (fun _ => rfl) (vp_in_iff.mpr ⟨by omega, by omega⟩) dX10_plan_121 (fun st_286 H locs est_286 hM hS => ?_)
                    have hB_st_286 : gBN bM kM [0, 55, 56, 57, 58, 2900, 3000, 3100, 3200, 3300, 3400, 3500, 3600, 3700, 3800] st st_286 := by rw [est_286]; exact hB_sv16.up (show (2900 : Nat) ∈ _ from by decide) (gi_lo _) (gi_hi _)
                    obtain ⟨x_287, ex_287⟩ : ∃ y : Int32, y = y16_0 + 1 := ⟨_, rfl⟩
                    try have tx_287 : x_287.toInt = y16_0.toInt + 1 := by rw [ex_287]; exact gz_addP (x := y16_0.toInt) (y := 1) rfl (by decide) (by omega) (by omega)
                    refine lv_iinc (v := (x_287)) (lv' := [(3, .int x_287), (0, .ref (ad 0 0)), (1, .int x), (2, .int y)]) hx hb dX10_plan_122 hl (k := 0) rfl (by rw [ex_287]; rfl) (by decide) rfl (fun ls hl => ?_)
                    refine lv_goto (tgt := 104) hx hb dX10_plan_125 (by decide) ?_
                    exact ih_16 st_286 (x_287 : Int32) H _ ls (by omega) hB_st_286 (by omega) hM hS (lv_sub hl [0, 1, 2, 3] rfl)
              exact lp16 ((6 - ((0 : Int32) : Int32).toInt).toNat + 1) st_15 ((0 : Int32) : Int32) H _ ls (Nat.lt_succ_self _) hB_st_15 (by have hl0 : (0 : Int32).toInt = 0 := (by decide); omega) hM hS (lv_sub hl [0, 1, 2, 3] rfl)
            · have ic_13 := gz_nle (rfl : x_12.toInt = x_12.toInt) (by decide : (199 : Int32).toInt = 199) c_13
              refine lv_iconst (v := (-1)) hx hb dX10_plan_90 (by decide) ?_
              rw [← hQe]
              exact gs_iret hx hb hr hlocks hM hS rfl ⟨hB_st_5, trivial⟩ (by exact Nat.le_refl _) (by exact Nat.le_refl _) dX10_plan_91
      refine lv_aload_n hx hb dX10_plan_31 rfl (lv_at hl 0 rfl) ?_
      refine gs_get (C := RX10) (T := TX10) (N := 59) hx hb hts inX10 hown hK hM 0 0 38 (by decide) rfl rfl (by decide) (hts _ gm_939) (fun _ h9 => h9) rfl dX10_plan_32 ?_
      refine lv_iconst (v := 0) hx hb dX10_plan_35 (by decide) ?_
      refine gs_zald hx hb hK hM 22 0 (by decide) rfl (vp_in_iff.mpr (by decide)) dX10_plan_36 ?_
      refine lv_topi (fun x_288 ex_288 => ?_)
      have qx_288 : x_288.toInt = (st_5 22 0 0).toInt := congrArg Int32.toInt ex_288
      have rx_288 : x_288.toInt = ((st 22 0 0) : Int32).toInt := by rw [ex_288]; exact congrArg Int32.toInt (((congrFun (congrFun (congrFun est_5 22) 0) 0).trans (congrFun (congrFun (gU_k (by decide)) 0) 0)))
      refine lv_if_ne (tgt := 67) hx hb dX10_plan_37 (by decide) (fun c_289 => ?_) (fun c_289 => ?_)
      · have ic_289 := gz_ne (rfl : x_288.toInt = x_288.toInt) (by decide : (0 : Int32).toInt = 0) c_289
        exact jn7   H _ ls   hM hS (lv_sub hl [0, 1, 2] rfl)
      · have ic_289 := gz_eqn (rfl : x_288.toInt = x_288.toInt) (by decide : (0 : Int32).toInt = 0) c_289
        refine lv_aload_n hx hb dX10_plan_40 rfl (lv_at hl 0 rfl) ?_
        refine gs_get (C := RX10) (T := TX10) (N := 59) hx hb hts inX10 hown hK hM 0 0 38 (by decide) rfl rfl (by decide) (hts _ gm_939) (fun _ h9 => h9) rfl dX10_plan_41 ?_
        refine lv_iconst (v := 1) hx hb dX10_plan_44 (by decide) ?_
        refine gs_zald hx hb hK hM 22 0 (by decide) rfl (vp_in_iff.mpr (by decide)) dX10_plan_45 ?_
        refine lv_topi (fun x_290 ex_290 => ?_)
        have qx_290 : x_290.toInt = (st_5 22 0 1).toInt := congrArg Int32.toInt ex_290
        have rx_290 : x_290.toInt = ((st 22 0 1) : Int32).toInt := by rw [ex_290]; exact congrArg Int32.toInt (((congrFun (congrFun (congrFun est_5 22) 0) 1).trans (congrFun (congrFun (gU_k (by decide)) 0) 1)))
        refine lv_if_ne (tgt := 67) hx hb dX10_plan_46 (by decide) (fun c_291 => ?_) (fun c_291 => ?_)
        · have ic_291 := gz_ne (rfl : x_290.toInt = x_290.toInt) (by decide : (0 : Int32).toInt = 0) c_291
          exact jn7   H _ ls   hM hS (lv_sub hl [0, 1, 2] rfl)
        · have ic_291 := gz_eqn (rfl : x_290.toInt = x_290.toInt) (by decide : (0 : Int32).toInt = 0) c_291
          refine lv_aload_n hx hb dX10_plan_49 rfl (lv_at hl 0 rfl) ?_
          refine gs_get (C := RX10) (T := TX10) (N := 59) hx hb hts inX10 hown hK hM 0 0 38 (by decide) rfl rfl (by decide) (hts _ gm_939) (fun _ h9 => h9) rfl dX10_plan_50 ?_
          refine lv_iconst (v := 2) hx hb dX10_plan_53 (by decide) ?_
          refine gs_zald hx hb hK hM 22 0 (by decide) rfl (vp_in_iff.mpr (by decide)) dX10_plan_54 ?_
          refine lv_topi (fun x_292 ex_292 => ?_)
          have qx_292 : x_292.toInt = (st_5 22 0 2).toInt := congrArg Int32.toInt ex_292
          have rx_292 : x_292.toInt = ((st 22 0 2) : Int32).toInt := by rw [ex_292]; exact congrArg Int32.toInt (((congrFun (congrFun (congrFun est_5 22) 0) 2).trans (congrFun (congrFun (gU_k (by decide)) 0) 2)))
          refine lv_if_ne (tgt := 67) hx hb dX10_plan_55 (by decide) (fun c_293 => ?_) (fun c_293 => ?_)
          · have ic_293 := gz_ne (rfl : x_292.toInt = x_292.toInt) (by decide : (0 : Int32).toInt = 0) c_293
            exact jn7   H _ ls   hM hS (lv_sub hl [0, 1, 2] rfl)
          · have ic_293 := gz_eqn (rfl : x_292.toInt = x_292.toInt) (by decide : (0 : Int32).toInt = 0) c_293
            refine lv_aload_n hx hb dX10_plan_58 rfl (lv_at hl 0 rfl) ?_
            refine gs_get (C := RX10) (T := TX10) (N := 59) hx hb hts inX10 hown hK hM 0 0 38 (by decide) rfl rfl (by decide) (hts _ gm_939) (fun _ h9 => h9) rfl dX10_plan_59 ?_
            refine lv_iconst (v := 3) hx hb dX10_plan_62 (by decide) ?_
            refine gs_zald hx hb hK hM 22 0 (by decide) rfl (vp_in_iff.mpr (by decide)) dX10_plan_63 ?_
            refine lv_topi (fun x_294 ex_294 => ?_)
            have qx_294 : x_294.toInt = (st_5 22 0 3).toInt := congrArg Int32.toInt ex_294
            have rx_294 : x_294.toInt = ((st 22 0 3) : Int32).toInt := by rw [ex_294]; exact congrArg Int32.toInt (((congrFun (congrFun (congrFun est_5 22) 0) 3).trans (congrFun (congrFun (gU_k (by decide)) 0) 3)))
            refine lv_if_eq (tgt := 90) hx hb dX10_plan_64 (by decide) (fun c_295 => ?_) (fun c_295 => ?_)
            · have ic_295 := gz_eq (rfl : x_294.toInt = x_294.toInt) (by decide : (0 : Int32).toInt = 0) c_295
              refine lv_iconst (v := (-1)) hx hb dX10_plan_90 (by decide) ?_
              rw [← hQe]
              exact gs_iret hx hb hr hlocks hM hS rfl ⟨hB_st_5, trivial⟩ (by exact Nat.le_refl _) (by exact Nat.le_refl _) dX10_plan_91
            · have ic_295 := gz_ne (rfl : x_294.toInt = x_294.toInt) (by decide : (0 : Int32).toInt = 0) c_295
              exact jn7   H _ ls   hM hS (lv_sub hl [0, 1, 2] rfl)
    · have ic_4 := gz_nle (rfl : y.toInt = y.toInt) (by decide : (50000 : Int32).toInt = 50000) c_4
      refine lv_iconst (v := 1) hx hb dX10_plan_13 (by decide) ?_
      refine lv_goto (tgt := 18) hx hb dX10_plan_14 (by decide) ?_
      refine gs_put (C := RX10) (T := TX10) (N := 59) (ty := .int) (val := .int 1) hx hb hts inX10 tyX10 tyX10_ok nmX10 hown hK hI hm hM hS 0 0 0 (by decide) rfl rfl (by decide) (hts _ gm_901) (fun _ h9 => h9) rfl (1 : Int32) rfl (by decide +kernel) rfl rfl (Nat.le_of_ble_eq_true rfl) dX10_plan_18 (fun st_296 H locs est_296 hM hS => ?_)
      have hB_st_296 : gBN bM kM [0, 55, 56, 57, 58, 2900, 3000, 3100, 3200, 3300, 3400, 3500, 3600, 3700, 3800] st st_296 := by rw [est_296]; exact hB_st.up (show (0 : Nat) ∈ _ from by decide) (gi_lo _) (gi_hi _)
      refine lv_aload_n hx hb dX10_plan_21 rfl (lv_at hl 0 rfl) ?_
      refine gs_get (C := RX10) (T := TX10) (N := 59) hx hb hts inX10 hown hK hM 0 0 0 (by decide) rfl rfl (by decide) (hts _ gm_901) (fun _ h9 => h9) rfl dX10_plan_22 ?_
      refine lv_topi (fun x_297 ex_297 => ?_)
      have ex_297 : (1 : Int32) = x_297 := Eq.symm (ex_297.trans ((congrFun (congrFun (congrFun est_296 0) 0) 0).trans (gU_same _ _ _ _ _)))
      subst ex_297
      refine lv_iconst (v := 1) hx hb dX10_plan_25 (by decide) ?_
      refine lv_icmp_ne (tgt := 31) hx hb dX10_plan_26 (by decide) (fun h9 => absurd (by decide) h9) (fun _ => ?_)
      refine lv_iconst (v := 0) hx hb dX10_plan_29 (by decide) ?_
      rw [← hQe]
      exact gs_iret hx hb hr hlocks hM hS rfl ⟨hB_st_296, trivial⟩ (by exact Nat.le_refl _) (by exact Nat.le_refl _) dX10_plan_30
