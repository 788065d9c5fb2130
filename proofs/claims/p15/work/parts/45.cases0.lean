theorem gm_328 : (Jvm.Cond.methodLink "WellCourtLaw" (24 : Nat) ({ cls := "WellCourt", name := "feed", desc := "(IIIII)I" } : Jvm.MethodName)) ∈ gz_T := gz_at 328 (by decide +kernel) rfl
theorem gm_329 : (Jvm.Cond.instanceMethod ({ cls := "WellCourt", name := "feed", desc := "(IIIII)I" } : Jvm.MethodName)) ∈ gz_T := gz_at 329 (by decide +kernel) rfl
theorem gm_330 : (Jvm.Cond.selects "WellCourt" ({ cls := "WellCourt", name := "feed", desc := "(IIIII)I" } : Jvm.MethodName) ({ cls := "WellCourt", name := "feed", desc := "(IIIII)I" } : Jvm.MethodName)) ∈ gz_T := gz_at 330 (by decide +kernel) rfl
theorem gm_331 : (Jvm.Cond.code ({ cls := "WellCourt", name := "feed", desc := "(IIIII)I" } : Jvm.MethodName) prog_1_method_2_code (6 : Nat) (Option.some Jvm.ClassFile.FieldType.int)) ∈ gz_T := gz_at 331 (by decide +kernel) rfl
theorem gm_336 : (Jvm.Cond.methodLink "WellCourtLaw" (29 : Nat) ({ cls := "WellCourt", name := "end", desc := "(I)Z" } : Jvm.MethodName)) ∈ gz_T := gz_at 336 (by decide +kernel) rfl
theorem gm_337 : (Jvm.Cond.instanceMethod ({ cls := "WellCourt", name := "end", desc := "(I)Z" } : Jvm.MethodName)) ∈ gz_T := gz_at 337 (by decide +kernel) rfl
theorem gm_338 : (Jvm.Cond.selects "WellCourt" ({ cls := "WellCourt", name := "end", desc := "(I)Z" } : Jvm.MethodName) ({ cls := "WellCourt", name := "end", desc := "(I)Z" } : Jvm.MethodName)) ∈ gz_T := gz_at 338 (by decide +kernel) rfl
theorem gm_339 : (Jvm.Cond.code ({ cls := "WellCourt", name := "end", desc := "(I)Z" } : Jvm.MethodName) prog_1_method_3_code (2 : Nat) (Option.some Jvm.ClassFile.FieldType.boolean)) ∈ gz_T := gz_at 339 (by decide +kernel) rfl
theorem gm_340 : (Jvm.Cond.methodLink "WellCourtLaw" (34 : Nat) ({ cls := "WellCourt", name := "well", desc := "(IIII)Z" } : Jvm.MethodName)) ∈ gz_T := gz_at 340 (by decide +kernel) rfl
theorem gm_341 : (Jvm.Cond.instanceMethod ({ cls := "WellCourt", name := "well", desc := "(IIII)Z" } : Jvm.MethodName)) ∈ gz_T := gz_at 341 (by decide +kernel) rfl
theorem gm_342 : (Jvm.Cond.selects "WellCourt" ({ cls := "WellCourt", name := "well", desc := "(IIII)Z" } : Jvm.MethodName) ({ cls := "WellCourt", name := "well", desc := "(IIII)Z" } : Jvm.MethodName)) ∈ gz_T := gz_at 342 (by decide +kernel) rfl
theorem gm_343 : (Jvm.Cond.code ({ cls := "WellCourt", name := "well", desc := "(IIII)Z" } : Jvm.MethodName) prog_1_method_4_code (5 : Nat) (Option.some Jvm.ClassFile.FieldType.boolean)) ∈ gz_T := gz_at 343 (by decide +kernel) rfl
theorem gm_354 : (Jvm.Cond.methodLink "WellCourtLaw" (39 : Nat) ({ cls := "WellCourt", name := "rights", desc := "()I" } : Jvm.MethodName)) ∈ gz_T := gz_at 354 (by decide +kernel) rfl
theorem gm_355 : (Jvm.Cond.instanceMethod ({ cls := "WellCourt", name := "rights", desc := "()I" } : Jvm.MethodName)) ∈ gz_T := gz_at 355 (by decide +kernel) rfl
theorem gm_356 : (Jvm.Cond.selects "WellCourt" ({ cls := "WellCourt", name := "rights", desc := "()I" } : Jvm.MethodName) ({ cls := "WellCourt", name := "rights", desc := "()I" } : Jvm.MethodName)) ∈ gz_T := gz_at 356 (by decide +kernel) rfl
theorem gm_357 : (Jvm.Cond.code ({ cls := "WellCourt", name := "rights", desc := "()I" } : Jvm.MethodName) prog_1_method_5_code (3 : Nat) (Option.some Jvm.ClassFile.FieldType.int)) ∈ gz_T := gz_at 357 (by decide +kernel) rfl
theorem gm_567 : (Jvm.Cond.methodLink "WellCourtLaw" (44 : Nat) ({ cls := "WellCourt", name := "fault", desc := "()I" } : Jvm.MethodName)) ∈ gz_T := gz_at 567 (by decide +kernel) rfl
theorem gm_568 : (Jvm.Cond.instanceMethod ({ cls := "WellCourt", name := "fault", desc := "()I" } : Jvm.MethodName)) ∈ gz_T := gz_at 568 (by decide +kernel) rfl
theorem gm_569 : (Jvm.Cond.selects "WellCourt" ({ cls := "WellCourt", name := "fault", desc := "()I" } : Jvm.MethodName) ({ cls := "WellCourt", name := "fault", desc := "()I" } : Jvm.MethodName)) ∈ gz_T := gz_at 569 (by decide +kernel) rfl
theorem gm_570 : (Jvm.Cond.code ({ cls := "WellCourt", name := "fault", desc := "()I" } : Jvm.MethodName) prog_1_method_6_code (1 : Nat) (Option.some Jvm.ClassFile.FieldType.int)) ∈ gz_T := gz_at 570 (by decide +kernel) rfl
theorem gm_571 : (Jvm.Cond.methodLink "WellCourtLaw" (48 : Nat) ({ cls := "WellCourt", name := "next", desc := "()Z" } : Jvm.MethodName)) ∈ gz_T := gz_at 571 (by decide +kernel) rfl
theorem gm_572 : (Jvm.Cond.instanceMethod ({ cls := "WellCourt", name := "next", desc := "()Z" } : Jvm.MethodName)) ∈ gz_T := gz_at 572 (by decide +kernel) rfl
theorem gm_573 : (Jvm.Cond.selects "WellCourt" ({ cls := "WellCourt", name := "next", desc := "()Z" } : Jvm.MethodName) ({ cls := "WellCourt", name := "next", desc := "()Z" } : Jvm.MethodName)) ∈ gz_T := gz_at 573 (by decide +kernel) rfl
theorem gm_574 : (Jvm.Cond.code ({ cls := "WellCourt", name := "next", desc := "()Z" } : Jvm.MethodName) prog_1_method_7_code (1 : Nat) (Option.some Jvm.ClassFile.FieldType.boolean)) ∈ gz_T := gz_at 574 (by decide +kernel) rfl
theorem gm_1080 : (Jvm.Cond.methodLink "WellCourtLaw" (38 : Nat) ({ cls := "WellCourtModel", name := "well", desc := "(IIII)Z" } : Jvm.MethodName)) ∈ gz_T := gz_at 1080 (by decide +kernel) rfl
theorem gm_1081 : (Jvm.Cond.instanceMethod ({ cls := "WellCourtModel", name := "well", desc := "(IIII)Z" } : Jvm.MethodName)) ∈ gz_T := gz_at 1081 (by decide +kernel) rfl
theorem gm_1082 : (Jvm.Cond.selects "WellCourtModel" ({ cls := "WellCourtModel", name := "well", desc := "(IIII)Z" } : Jvm.MethodName) ({ cls := "WellCourtModel", name := "well", desc := "(IIII)Z" } : Jvm.MethodName)) ∈ gz_T := gz_at 1082 (by decide +kernel) rfl
theorem gm_1083 : (Jvm.Cond.code ({ cls := "WellCourtModel", name := "well", desc := "(IIII)Z" } : Jvm.MethodName) prog_12_method_4_code (5 : Nat) (Option.some Jvm.ClassFile.FieldType.boolean)) ∈ gz_T := gz_at 1083 (by decide +kernel) rfl
theorem gm_1084 : (Jvm.Cond.methodLink "WellCourtLaw" (28 : Nat) ({ cls := "WellCourtModel", name := "feed", desc := "(IIIII)I" } : Jvm.MethodName)) ∈ gz_T := gz_at 1084 (by decide +kernel) rfl
theorem gm_1085 : (Jvm.Cond.instanceMethod ({ cls := "WellCourtModel", name := "feed", desc := "(IIIII)I" } : Jvm.MethodName)) ∈ gz_T := gz_at 1085 (by decide +kernel) rfl
theorem gm_1086 : (Jvm.Cond.selects "WellCourtModel" ({ cls := "WellCourtModel", name := "feed", desc := "(IIIII)I" } : Jvm.MethodName) ({ cls := "WellCourtModel", name := "feed", desc := "(IIIII)I" } : Jvm.MethodName)) ∈ gz_T := gz_at 1086 (by decide +kernel) rfl
theorem gm_1087 : (Jvm.Cond.code ({ cls := "WellCourtModel", name := "feed", desc := "(IIIII)I" } : Jvm.MethodName) prog_12_method_5_code (6 : Nat) (Option.some Jvm.ClassFile.FieldType.int)) ∈ gz_T := gz_at 1087 (by decide +kernel) rfl
theorem gm_1092 : (Jvm.Cond.methodLink "WellCourtLaw" (33 : Nat) ({ cls := "WellCourtModel", name := "end", desc := "(I)Z" } : Jvm.MethodName)) ∈ gz_T := gz_at 1092 (by decide +kernel) rfl
theorem gm_1093 : (Jvm.Cond.instanceMethod ({ cls := "WellCourtModel", name := "end", desc := "(I)Z" } : Jvm.MethodName)) ∈ gz_T := gz_at 1093 (by decide +kernel) rfl
theorem gm_1094 : (Jvm.Cond.selects "WellCourtModel" ({ cls := "WellCourtModel", name := "end", desc := "(I)Z" } : Jvm.MethodName) ({ cls := "WellCourtModel", name := "end", desc := "(I)Z" } : Jvm.MethodName)) ∈ gz_T := gz_at 1094 (by decide +kernel) rfl
theorem gm_1095 : (Jvm.Cond.code ({ cls := "WellCourtModel", name := "end", desc := "(I)Z" } : Jvm.MethodName) prog_12_method_7_code (2 : Nat) (Option.some Jvm.ClassFile.FieldType.boolean)) ∈ gz_T := gz_at 1095 (by decide +kernel) rfl
theorem gm_1096 : (Jvm.Cond.methodLink "WellCourtLaw" (43 : Nat) ({ cls := "WellCourtModel", name := "rights", desc := "()I" } : Jvm.MethodName)) ∈ gz_T := gz_at 1096 (by decide +kernel) rfl
theorem gm_1097 : (Jvm.Cond.instanceMethod ({ cls := "WellCourtModel", name := "rights", desc := "()I" } : Jvm.MethodName)) ∈ gz_T := gz_at 1097 (by decide +kernel) rfl
theorem gm_1098 : (Jvm.Cond.selects "WellCourtModel" ({ cls := "WellCourtModel", name := "rights", desc := "()I" } : Jvm.MethodName) ({ cls := "WellCourtModel", name := "rights", desc := "()I" } : Jvm.MethodName)) ∈ gz_T := gz_at 1098 (by decide +kernel) rfl
theorem gm_1099 : (Jvm.Cond.code ({ cls := "WellCourtModel", name := "rights", desc := "()I" } : Jvm.MethodName) prog_12_method_19_code (5 : Nat) (Option.some Jvm.ClassFile.FieldType.int)) ∈ gz_T := gz_at 1099 (by decide +kernel) rfl
theorem gm_1189 : (Jvm.Cond.methodLink "WellCourtLaw" (47 : Nat) ({ cls := "WellCourtModel", name := "fault", desc := "()I" } : Jvm.MethodName)) ∈ gz_T := gz_at 1189 (by decide +kernel) rfl
theorem gm_1190 : (Jvm.Cond.instanceMethod ({ cls := "WellCourtModel", name := "fault", desc := "()I" } : Jvm.MethodName)) ∈ gz_T := gz_at 1190 (by decide +kernel) rfl
theorem gm_1191 : (Jvm.Cond.selects "WellCourtModel" ({ cls := "WellCourtModel", name := "fault", desc := "()I" } : Jvm.MethodName) ({ cls := "WellCourtModel", name := "fault", desc := "()I" } : Jvm.MethodName)) ∈ gz_T := gz_at 1191 (by decide +kernel) rfl
theorem gm_1192 : (Jvm.Cond.code ({ cls := "WellCourtModel", name := "fault", desc := "()I" } : Jvm.MethodName) prog_12_method_26_code (1 : Nat) (Option.some Jvm.ClassFile.FieldType.int)) ∈ gz_T := gz_at 1192 (by decide +kernel) rfl
theorem gm_1193 : (Jvm.Cond.methodLink "WellCourtLaw" (52 : Nat) ({ cls := "WellCourtModel", name := "next", desc := "()Z" } : Jvm.MethodName)) ∈ gz_T := gz_at 1193 (by decide +kernel) rfl
theorem gm_1194 : (Jvm.Cond.instanceMethod ({ cls := "WellCourtModel", name := "next", desc := "()Z" } : Jvm.MethodName)) ∈ gz_T := gz_at 1194 (by decide +kernel) rfl
theorem gm_1195 : (Jvm.Cond.selects "WellCourtModel" ({ cls := "WellCourtModel", name := "next", desc := "()Z" } : Jvm.MethodName) ({ cls := "WellCourtModel", name := "next", desc := "()Z" } : Jvm.MethodName)) ∈ gz_T := gz_at 1195 (by decide +kernel) rfl
theorem gm_1196 : (Jvm.Cond.code ({ cls := "WellCourtModel", name := "next", desc := "()Z" } : Jvm.MethodName) prog_12_method_30_code (2 : Nat) (Option.some Jvm.ClassFile.FieldType.boolean)) ∈ gz_T := gz_at 1196 (by decide +kernel) rfl
theorem dL_law_144 : decode cL_law 144 = .ok (.aload_n 1, 1) := by decide +kernel
theorem dL_law_145 : decode cL_law 145 = .ok (.aload_n 0, 1) := by decide +kernel
theorem dL_law_146 : decode cL_law 146 = .ok (.iload 4, 2) := by decide +kernel
theorem dL_law_148 : decode cL_law 148 = .ok (.iconst 1, 1) := by decide +kernel
theorem dL_law_149 : decode cL_law 149 = .ok (.iadd, 1) := by decide +kernel
theorem dL_law_150 : decode cL_law 150 = .ok (.iaload, 1) := by decide +kernel
theorem dL_law_151 : decode cL_law 151 = .ok (.aload_n 0, 1) := by decide +kernel
theorem dL_law_152 : decode cL_law 152 = .ok (.iload 4, 2) := by decide +kernel
theorem dL_law_154 : decode cL_law 154 = .ok (.iconst 2, 1) := by decide +kernel
theorem dL_law_155 : decode cL_law 155 = .ok (.iadd, 1) := by decide +kernel
theorem dL_law_156 : decode cL_law 156 = .ok (.iaload, 1) := by decide +kernel
theorem dL_law_157 : decode cL_law 157 = .ok (.aload_n 0, 1) := by decide +kernel
theorem dL_law_158 : decode cL_law 158 = .ok (.iload 4, 2) := by decide +kernel
theorem dL_law_160 : decode cL_law 160 = .ok (.iconst 3, 1) := by decide +kernel
theorem dL_law_161 : decode cL_law 161 = .ok (.iadd, 1) := by decide +kernel
theorem dL_law_162 : decode cL_law 162 = .ok (.iaload, 1) := by decide +kernel
theorem dL_law_163 : decode cL_law 163 = .ok (.aload_n 0, 1) := by decide +kernel
theorem dL_law_164 : decode cL_law 164 = .ok (.iload 4, 2) := by decide +kernel
theorem dL_law_166 : decode cL_law 166 = .ok (.iconst 4, 1) := by decide +kernel
theorem dL_law_167 : decode cL_law 167 = .ok (.iadd, 1) := by decide +kernel
theorem dL_law_168 : decode cL_law 168 = .ok (.iaload, 1) := by decide +kernel
theorem dL_law_169 : decode cL_law 169 = .ok (.aload_n 0, 1) := by decide +kernel
theorem dL_law_170 : decode cL_law 170 = .ok (.iload 4, 2) := by decide +kernel
theorem dL_law_172 : decode cL_law 172 = .ok (.iconst 5, 1) := by decide +kernel
theorem dL_law_173 : decode cL_law 173 = .ok (.iadd, 1) := by decide +kernel
theorem dL_law_174 : decode cL_law 174 = .ok (.iaload, 1) := by decide +kernel
theorem dL_law_175 : decode cL_law 175 = .ok (.invokevirtual 24, 3) := by decide +kernel
theorem dL_law_178 : decode cL_law 178 = .ok (.pop, 1) := by decide +kernel
theorem dL_law_179 : decode cL_law 179 = .ok (.aload_n 2, 1) := by decide +kernel
theorem dL_law_180 : decode cL_law 180 = .ok (.aload_n 0, 1) := by decide +kernel
theorem dL_law_181 : decode cL_law 181 = .ok (.iload 4, 2) := by decide +kernel
theorem dL_law_183 : decode cL_law 183 = .ok (.iconst 1, 1) := by decide +kernel
theorem dL_law_184 : decode cL_law 184 = .ok (.iadd, 1) := by decide +kernel
theorem dL_law_185 : decode cL_law 185 = .ok (.iaload, 1) := by decide +kernel
theorem dL_law_186 : decode cL_law 186 = .ok (.aload_n 0, 1) := by decide +kernel
theorem dL_law_187 : decode cL_law 187 = .ok (.iload 4, 2) := by decide +kernel
theorem dL_law_189 : decode cL_law 189 = .ok (.iconst 2, 1) := by decide +kernel
theorem dL_law_190 : decode cL_law 190 = .ok (.iadd, 1) := by decide +kernel
theorem dL_law_191 : decode cL_law 191 = .ok (.iaload, 1) := by decide +kernel
theorem dL_law_192 : decode cL_law 192 = .ok (.aload_n 0, 1) := by decide +kernel
theorem dL_law_193 : decode cL_law 193 = .ok (.iload 4, 2) := by decide +kernel
theorem dL_law_195 : decode cL_law 195 = .ok (.iconst 3, 1) := by decide +kernel
theorem dL_law_196 : decode cL_law 196 = .ok (.iadd, 1) := by decide +kernel
theorem dL_law_197 : decode cL_law 197 = .ok (.iaload, 1) := by decide +kernel
theorem dL_law_198 : decode cL_law 198 = .ok (.aload_n 0, 1) := by decide +kernel
theorem dL_law_199 : decode cL_law 199 = .ok (.iload 4, 2) := by decide +kernel
theorem dL_law_201 : decode cL_law 201 = .ok (.iconst 4, 1) := by decide +kernel
theorem dL_law_202 : decode cL_law 202 = .ok (.iadd, 1) := by decide +kernel
theorem dL_law_203 : decode cL_law 203 = .ok (.iaload, 1) := by decide +kernel
theorem dL_law_204 : decode cL_law 204 = .ok (.aload_n 0, 1) := by decide +kernel
theorem dL_law_205 : decode cL_law 205 = .ok (.iload 4, 2) := by decide +kernel
theorem dL_law_207 : decode cL_law 207 = .ok (.iconst 5, 1) := by decide +kernel
theorem dL_law_208 : decode cL_law 208 = .ok (.iadd, 1) := by decide +kernel
theorem dL_law_209 : decode cL_law 209 = .ok (.iaload, 1) := by decide +kernel
theorem dL_law_210 : decode cL_law 210 = .ok (.invokevirtual 28, 3) := by decide +kernel
theorem dL_law_213 : decode cL_law 213 = .ok (.pop, 1) := by decide +kernel
theorem dL_law_214 : decode cL_law 214 = .ok (.goto 814, 3) := by decide +kernel
theorem dL_law_217 : decode cL_law 217 = .ok (.aload_n 1, 1) := by decide +kernel
theorem dL_law_218 : decode cL_law 218 = .ok (.aload_n 0, 1) := by decide +kernel
theorem dL_law_219 : decode cL_law 219 = .ok (.iload 4, 2) := by decide +kernel
theorem dL_law_221 : decode cL_law 221 = .ok (.iconst 1, 1) := by decide +kernel
theorem dL_law_222 : decode cL_law 222 = .ok (.iadd, 1) := by decide +kernel
theorem dL_law_223 : decode cL_law 223 = .ok (.iaload, 1) := by decide +kernel
theorem dL_law_224 : decode cL_law 224 = .ok (.invokevirtual 29, 3) := by decide +kernel
theorem dL_law_227 : decode cL_law 227 = .ok (.pop, 1) := by decide +kernel
theorem dL_law_228 : decode cL_law 228 = .ok (.aload_n 2, 1) := by decide +kernel
theorem dL_law_229 : decode cL_law 229 = .ok (.aload_n 0, 1) := by decide +kernel
theorem dL_law_230 : decode cL_law 230 = .ok (.iload 4, 2) := by decide +kernel
theorem dL_law_232 : decode cL_law 232 = .ok (.iconst 1, 1) := by decide +kernel
theorem dL_law_233 : decode cL_law 233 = .ok (.iadd, 1) := by decide +kernel
theorem dL_law_234 : decode cL_law 234 = .ok (.iaload, 1) := by decide +kernel
theorem dL_law_235 : decode cL_law 235 = .ok (.invokevirtual 33, 3) := by decide +kernel
theorem dL_law_238 : decode cL_law 238 = .ok (.pop, 1) := by decide +kernel
theorem dL_law_239 : decode cL_law 239 = .ok (.goto 789, 3) := by decide +kernel
theorem dL_law_242 : decode cL_law 242 = .ok (.aload_n 1, 1) := by decide +kernel
theorem dL_law_243 : decode cL_law 243 = .ok (.aload_n 0, 1) := by decide +kernel
theorem dL_law_244 : decode cL_law 244 = .ok (.iload 4, 2) := by decide +kernel
theorem dL_law_246 : decode cL_law 246 = .ok (.iconst 1, 1) := by decide +kernel
theorem dL_law_247 : decode cL_law 247 = .ok (.iadd, 1) := by decide +kernel
theorem dL_law_248 : decode cL_law 248 = .ok (.iaload, 1) := by decide +kernel
theorem dL_law_249 : decode cL_law 249 = .ok (.aload_n 0, 1) := by decide +kernel
theorem dL_law_250 : decode cL_law 250 = .ok (.iload 4, 2) := by decide +kernel
theorem dL_law_252 : decode cL_law 252 = .ok (.iconst 2, 1) := by decide +kernel
theorem dL_law_253 : decode cL_law 253 = .ok (.iadd, 1) := by decide +kernel
theorem dL_law_254 : decode cL_law 254 = .ok (.iaload, 1) := by decide +kernel
theorem dL_law_255 : decode cL_law 255 = .ok (.aload_n 0, 1) := by decide +kernel
theorem dL_law_256 : decode cL_law 256 = .ok (.iload 4, 2) := by decide +kernel
theorem dL_law_258 : decode cL_law 258 = .ok (.iconst 3, 1) := by decide +kernel
theorem dL_law_259 : decode cL_law 259 = .ok (.iadd, 1) := by decide +kernel
theorem dL_law_260 : decode cL_law 260 = .ok (.iaload, 1) := by decide +kernel
theorem dL_law_261 : decode cL_law 261 = .ok (.aload_n 0, 1) := by decide +kernel
theorem dL_law_262 : decode cL_law 262 = .ok (.iload 4, 2) := by decide +kernel
theorem dL_law_264 : decode cL_law 264 = .ok (.iconst 4, 1) := by decide +kernel
theorem dL_law_265 : decode cL_law 265 = .ok (.iadd, 1) := by decide +kernel
theorem dL_law_266 : decode cL_law 266 = .ok (.iaload, 1) := by decide +kernel
theorem dL_law_267 : decode cL_law 267 = .ok (.invokevirtual 34, 3) := by decide +kernel
theorem dL_law_270 : decode cL_law 270 = .ok (.pop, 1) := by decide +kernel
theorem dL_law_271 : decode cL_law 271 = .ok (.aload_n 2, 1) := by decide +kernel
theorem dL_law_272 : decode cL_law 272 = .ok (.aload_n 0, 1) := by decide +kernel
theorem dL_law_273 : decode cL_law 273 = .ok (.iload 4, 2) := by decide +kernel
theorem dL_law_275 : decode cL_law 275 = .ok (.iconst 1, 1) := by decide +kernel
theorem dL_law_276 : decode cL_law 276 = .ok (.iadd, 1) := by decide +kernel
theorem dL_law_277 : decode cL_law 277 = .ok (.iaload, 1) := by decide +kernel
theorem dL_law_278 : decode cL_law 278 = .ok (.aload_n 0, 1) := by decide +kernel
theorem dL_law_279 : decode cL_law 279 = .ok (.iload 4, 2) := by decide +kernel
theorem dL_law_281 : decode cL_law 281 = .ok (.iconst 2, 1) := by decide +kernel
theorem dL_law_282 : decode cL_law 282 = .ok (.iadd, 1) := by decide +kernel
theorem dL_law_283 : decode cL_law 283 = .ok (.iaload, 1) := by decide +kernel
theorem dL_law_284 : decode cL_law 284 = .ok (.aload_n 0, 1) := by decide +kernel
theorem dL_law_285 : decode cL_law 285 = .ok (.iload 4, 2) := by decide +kernel
theorem dL_law_287 : decode cL_law 287 = .ok (.iconst 3, 1) := by decide +kernel
theorem dL_law_288 : decode cL_law 288 = .ok (.iadd, 1) := by decide +kernel
theorem dL_law_289 : decode cL_law 289 = .ok (.iaload, 1) := by decide +kernel
theorem dL_law_290 : decode cL_law 290 = .ok (.aload_n 0, 1) := by decide +kernel
theorem dL_law_291 : decode cL_law 291 = .ok (.iload 4, 2) := by decide +kernel
theorem dL_law_293 : decode cL_law 293 = .ok (.iconst 4, 1) := by decide +kernel
theorem dL_law_294 : decode cL_law 294 = .ok (.iadd, 1) := by decide +kernel
theorem dL_law_295 : decode cL_law 295 = .ok (.iaload, 1) := by decide +kernel
theorem dL_law_296 : decode cL_law 296 = .ok (.invokevirtual 38, 3) := by decide +kernel
theorem dL_law_299 : decode cL_law 299 = .ok (.pop, 1) := by decide +kernel
theorem dL_law_300 : decode cL_law 300 = .ok (.goto 728, 3) := by decide +kernel
theorem dL_law_303 : decode cL_law 303 = .ok (.aload_n 1, 1) := by decide +kernel
theorem dL_law_304 : decode cL_law 304 = .ok (.invokevirtual 39, 3) := by decide +kernel
theorem dL_law_307 : decode cL_law 307 = .ok (.pop, 1) := by decide +kernel
theorem dL_law_308 : decode cL_law 308 = .ok (.aload_n 2, 1) := by decide +kernel
theorem dL_law_309 : decode cL_law 309 = .ok (.invokevirtual 43, 3) := by decide +kernel
theorem dL_law_312 : decode cL_law 312 = .ok (.pop, 1) := by decide +kernel
theorem dL_law_313 : decode cL_law 313 = .ok (.goto 715, 3) := by decide +kernel
theorem dL_law_316 : decode cL_law 316 = .ok (.aload_n 1, 1) := by decide +kernel
theorem dL_law_317 : decode cL_law 317 = .ok (.invokevirtual 44, 3) := by decide +kernel
theorem dL_law_320 : decode cL_law 320 = .ok (.pop, 1) := by decide +kernel
theorem dL_law_321 : decode cL_law 321 = .ok (.aload_n 2, 1) := by decide +kernel
theorem dL_law_322 : decode cL_law 322 = .ok (.invokevirtual 47, 3) := by decide +kernel
theorem dL_law_325 : decode cL_law 325 = .ok (.pop, 1) := by decide +kernel
theorem dL_law_326 : decode cL_law 326 = .ok (.goto 702, 3) := by decide +kernel
theorem dL_law_329 : decode cL_law 329 = .ok (.aload_n 1, 1) := by decide +kernel
theorem dL_law_330 : decode cL_law 330 = .ok (.invokevirtual 48, 3) := by decide +kernel
theorem dL_law_333 : decode cL_law 333 = .ok (.pop, 1) := by decide +kernel
theorem dL_law_334 : decode cL_law 334 = .ok (.aload_n 2, 1) := by decide +kernel
theorem dL_law_335 : decode cL_law 335 = .ok (.invokevirtual 52, 3) := by decide +kernel
theorem dL_law_338 : decode cL_law 338 = .ok (.pop, 1) := by decide +kernel
theorem dL_law_339 : decode cL_law 339 = .ok (.goto 689, 3) := by decide +kernel
set_option maxHeartbeats 4000000 in
set_option maxRecDepth 100000 in
theorem law_c0 {p : Program} {e : Env} {s : State} {m : MethodId} {below : List Frame} {meth : Method} {c : Code} (l : Launch) (hlt : l.stackTraces = false) {b L : Nat} {xs : Nat → Int32} (C0 : lw_At p s m meth c b L xs) (G : va_G) (cy : Nat → ClassId) (sK sV : Nat → Nat) (hK : va_K G vwCl (gzK cy) s) (hov : gOv s) (A : Nat → Prop) (hA : ∀ q, s.heap.size ≤ q → A q) (hAn : ∀ q, A q → s.heap.size ≤ q) (hE : gE sK sV A s s.heap) (aX aM : Nat → Nat → Nat) (o : Nat) (hAp : gAp aX aM o) (hmX : ∀ k i, i < cnX k → A (aX k i)) (hmM : ∀ k i, i < cnM k → A (aM k i)) (hAo : A o) (sx sm : gS) (f : Nat → Int64) (hBX : gBd bX sx) (hIM : mInv sm) (hRel : lRel sx sm) (iv : Int32) (hi0 : 0 ≤ iv.toInt) (hi1 : iv.toInt + 6 ≤ (L : Int)) (hLb : L ≤ 3072) (cells slots : Nat) (hcl : cells + 1 ≤ 601024) (hsl : slots + 6 ≤ 7293034) (H : Heap) (locs : List Loc) (ls : Array Slot) (hW : gWd G cy aX aM o sx sm f H) (hS : va_S A s.heap H locs) (hl : lv_has ls 7 [(4, .int iv), (3, .ref o), (2, .ref (aM 0 0)), (1, .ref (aX 0 0)), (0, .ref b)]) (hnext : (∀ (sx sm : gS) (f : Nat → Int64) (H : Heap) (locs : List Loc) (ls : Array Slot) (cells1 slots1 : Nat), gBd bX sx → mInv sm → lRel sx sm → cells1 ≤ cells + 1 → slots1 ≤ slots + 6 → gWd G cy aX aM o sx sm f H → va_S A s.heap H locs → lv_has ls 7 [(4, .int iv), (3, .ref o), (2, .ref (aM 0 0)), (1, .ref (aX 0 0)), (0, .ref b)] → W p l e room_1 s m #[Value.ref b] below meth c H locs cells1 slots1 (lw_Z below #[Value.ref b] s) (F0 m 1028 ls []))) : W p l e room_1 s m #[Value.ref b] below meth c H locs cells slots (lw_Z below #[Value.ref b] s) (F0 m 144 ls []) := by
  obtain ⟨hx, hb, hr, hml, hown, hts0, hX, hbl, hlocks, hgv⟩ := id C0
  have hts : ∀ w ∈ gz_T, w.before #[Value.ref b] s = true := fun w h => hts0 w (List.mem_filter.mp h).1
  have hown : s.vm.findClass RL = some m.cls := hown
  have hbA : ¬ A b := fun q => Nat.not_le.mpr hbl (hAn b q)
  have t1 : (iv + 1).toInt = iv.toInt + 1 := gz_addP rfl (by decide) (by omega) (by omega)
  have t2 : (iv + 2).toInt = iv.toInt + 2 := gz_addP rfl (by decide) (by omega) (by omega)
  have t3 : (iv + 3).toInt = iv.toInt + 3 := gz_addP rfl (by decide) (by omega) (by omega)
  have t4 : (iv + 4).toInt = iv.toInt + 4 := gz_addP rfl (by decide) (by omega) (by omega)
  have t5 : (iv + 5).toInt = iv.toInt + 5 := gz_addP rfl (by decide) (by omega) (by omega)
  obtain ⟨rs, hLa, hLM, hru, hwf, hun⟩ := hRel.law
  have bk28 : (0 : Int) ≤ (sm 0 0 28).toInt ∧ (sm 0 0 28).toInt ≤ (1 : Int) := hIM 0 0 28
  have hbk : (sm 0 0 28).toInt = (((sm 0 0 28).toNatClampNeg : Nat) : Int) := (gs_cl bk28.1).symm
  refine lv_aload_n hx hb dL_law_144 rfl (lv_at hl 3 rfl) ?_
  refine lv_aload_n hx hb dL_law_145 rfl (lv_at hl 4 rfl) ?_
  refine lv_iload hx hb dL_law_146 (lv_at hl 0 rfl) ?_
  refine lv_iconst (v := 1) hx hb dL_law_148 (by decide) ?_
  refine lv_iadd hx hb dL_law_149 ?_
  refine va_sld hx hb hX hbl hbA hS (vp_in_iff.mpr ⟨by omega, by omega⟩) dL_law_150 ?_
  refine lv_topi (fun x_1 ex_1 => ?_)
  refine lv_aload_n hx hb dL_law_151 rfl (lv_at hl 4 rfl) ?_
  refine lv_iload hx hb dL_law_152 (lv_at hl 0 rfl) ?_
  refine lv_iconst (v := 2) hx hb dL_law_154 (by decide) ?_
  refine lv_iadd hx hb dL_law_155 ?_
  refine va_sld hx hb hX hbl hbA hS (vp_in_iff.mpr ⟨by omega, by omega⟩) dL_law_156 ?_
  refine lv_topi (fun x_2 ex_2 => ?_)
  refine lv_aload_n hx hb dL_law_157 rfl (lv_at hl 4 rfl) ?_
  refine lv_iload hx hb dL_law_158 (lv_at hl 0 rfl) ?_
  refine lv_iconst (v := 3) hx hb dL_law_160 (by decide) ?_
  refine lv_iadd hx hb dL_law_161 ?_
  refine va_sld hx hb hX hbl hbA hS (vp_in_iff.mpr ⟨by omega, by omega⟩) dL_law_162 ?_
  refine lv_topi (fun x_3 ex_3 => ?_)
  refine lv_aload_n hx hb dL_law_163 rfl (lv_at hl 4 rfl) ?_
  refine lv_iload hx hb dL_law_164 (lv_at hl 0 rfl) ?_
  refine lv_iconst (v := 4) hx hb dL_law_166 (by decide) ?_
  refine lv_iadd hx hb dL_law_167 ?_
  refine va_sld hx hb hX hbl hbA hS (vp_in_iff.mpr ⟨by omega, by omega⟩) dL_law_168 ?_
  refine lv_topi (fun x_4 ex_4 => ?_)
  refine lv_aload_n hx hb dL_law_169 rfl (lv_at hl 4 rfl) ?_
  refine lv_iload hx hb dL_law_170 (lv_at hl 0 rfl) ?_
  refine lv_iconst (v := 5) hx hb dL_law_172 (by decide) ?_
  refine lv_iadd hx hb dL_law_173 ?_
  refine va_sld hx hb hX hbl hbA hS (vp_in_iff.mpr ⟨by omega, by omega⟩) dL_law_174 ?_
  refine lv_topi (fun x_5 ex_5 => ?_)
  refine gw_callX (va_runV (As := [.int x_1, .int x_2, .int x_3, .int x_4, .int x_5]) (rest := []) ⟨hx, hb, hml, hown, hts⟩ (s_feed l G cy sK sV aX H.size sx hBX x_1 x_2 x_3 x_4 x_5 ) ⟨(gz_cb (n := 5) hts gm_328 gm_1 gm_331 ⟨by decide +kernel, by decide +kernel, by decide +kernel⟩ ⟨Nat.le_of_ble_eq_true rfl, Nat.le_of_ble_eq_true rfl⟩), hts _ gm_329, hts _ gm_330⟩ (gs_preV hK hov hE hAp.1 hW.1 hmX hS hA 0 0 (by decide) rfl rfl) rfl rfl hl.1 rfl (lv_room (Nat.le_of_ble_eq_true rfl)) dL_law_175 ⟨(by show cells ≤ 601024; omega), (by show slots ≤ 7293034; omega)⟩) hAp hmX hW hS hA (fun r_6 st_6 H locs hw_6 hW hS => ?_)
  obtain ⟨n_6, hw_6⟩ := hw_6
  refine lv_pop hx hb dL_law_178 rfl ?_
  refine lv_aload_n hx hb dL_law_179 rfl (lv_at hl 2 rfl) ?_
  refine lv_aload_n hx hb dL_law_180 rfl (lv_at hl 4 rfl) ?_
  refine lv_iload hx hb dL_law_181 (lv_at hl 0 rfl) ?_
  refine lv_iconst (v := 1) hx hb dL_law_183 (by decide) ?_
  refine lv_iadd hx hb dL_law_184 ?_
  refine va_sld hx hb hX hbl hbA hS (vp_in_iff.mpr ⟨by omega, by omega⟩) dL_law_185 ?_
  refine lv_topi (fun x_7 ex_7 => ?_)
  have ex_7 : x_1 = x_7 := ex_1.trans ex_7.symm
  subst ex_7
  refine lv_aload_n hx hb dL_law_186 rfl (lv_at hl 4 rfl) ?_
  refine lv_iload hx hb dL_law_187 (lv_at hl 0 rfl) ?_
  refine lv_iconst (v := 2) hx hb dL_law_189 (by decide) ?_
  refine lv_iadd hx hb dL_law_190 ?_
  refine va_sld hx hb hX hbl hbA hS (vp_in_iff.mpr ⟨by omega, by omega⟩) dL_law_191 ?_
  refine lv_topi (fun x_8 ex_8 => ?_)
  have ex_8 : x_2 = x_8 := ex_2.trans ex_8.symm
  subst ex_8
  refine lv_aload_n hx hb dL_law_192 rfl (lv_at hl 4 rfl) ?_
  refine lv_iload hx hb dL_law_193 (lv_at hl 0 rfl) ?_
  refine lv_iconst (v := 3) hx hb dL_law_195 (by decide) ?_
  refine lv_iadd hx hb dL_law_196 ?_
  refine va_sld hx hb hX hbl hbA hS (vp_in_iff.mpr ⟨by omega, by omega⟩) dL_law_197 ?_
  refine lv_topi (fun x_9 ex_9 => ?_)
  have ex_9 : x_3 = x_9 := ex_3.trans ex_9.symm
  subst ex_9
  refine lv_aload_n hx hb dL_law_198 rfl (lv_at hl 4 rfl) ?_
  refine lv_iload hx hb dL_law_199 (lv_at hl 0 rfl) ?_
  refine lv_iconst (v := 4) hx hb dL_law_201 (by decide) ?_
  refine lv_iadd hx hb dL_law_202 ?_
  refine va_sld hx hb hX hbl hbA hS (vp_in_iff.mpr ⟨by omega, by omega⟩) dL_law_203 ?_
  refine lv_topi (fun x_10 ex_10 => ?_)
  have ex_10 : x_4 = x_10 := ex_4.trans ex_10.symm
  subst ex_10
  refine lv_aload_n hx hb dL_law_204 rfl (lv_at hl 4 rfl) ?_
  refine lv_iload hx hb dL_law_205 (lv_at hl 0 rfl) ?_
  refine lv_iconst (v := 5) hx hb dL_law_207 (by decide) ?_
  refine lv_iadd hx hb dL_law_208 ?_
  refine va_sld hx hb hX hbl hbA hS (vp_in_iff.mpr ⟨by omega, by omega⟩) dL_law_209 ?_
  refine lv_topi (fun x_11 ex_11 => ?_)
  have ex_11 : x_5 = x_11 := ex_5.trans ex_11.symm
  subst ex_11
  refine gw_callM (va_runV (As := [.int x_1, .int x_2, .int x_3, .int x_4, .int x_5]) (rest := []) ⟨hx, hb, hml, hown, hts⟩ (m_feedB l G cy sK sV aM H.size sm hIM x_1 x_2 x_3 x_4 x_5 ) ⟨(gz_cb (n := 5) hts gm_1084 gm_12 gm_1087 ⟨by decide +kernel, by decide +kernel, by decide +kernel⟩ ⟨Nat.le_of_ble_eq_true rfl, Nat.le_of_ble_eq_true rfl⟩), hts _ gm_1085, hts _ gm_1086⟩ (gs_preV hK hov hE hAp.2.1 hW.2.1 hmM hS hA 0 0 (by decide) rfl rfl) rfl rfl hl.1 rfl (lv_room (Nat.le_of_ble_eq_true rfl)) dL_law_210 ⟨(by show cells ≤ 601024; omega), (by show slots ≤ 7293034; omega)⟩) hAp hmM hW hS hA (fun r_12 st_12 H locs hw_12 hW hS => ?_)
  obtain ⟨n_12, hw_12⟩ := hw_12
  have hRel := rel_feed (rX := r_6) (rM := r_12) (x := x_1) (y := x_2) (w := x_3) (v := x_4) (t := x_5) hRel hBX hIM n_6 n_12  hw_6 hw_12
  have hBX := n_6.1
  have hIM := mInv.keep n_12 hIM
  refine lv_pop hx hb dL_law_213 rfl ?_
  refine lv_goto (tgt := 1028) hx hb dL_law_214 (by decide) ?_
  exact hnext st_6 st_12 f H _ ls (cells) (slots) hBX hIM hRel (by omega) (by omega) hW hS (lv_sub hl [0, 1, 2, 3, 4] rfl)

set_option maxHeartbeats 4000000 in
set_option maxRecDepth 100000 in
theorem law_c1 {p : Program} {e : Env} {s : State} {m : MethodId} {below : List Frame} {meth : Method} {c : Code} (l : Launch) (hlt : l.stackTraces = false) {b L : Nat} {xs : Nat → Int32} (C0 : lw_At p s m meth c b L xs) (G : va_G) (cy : Nat → ClassId) (sK sV : Nat → Nat) (hK : va_K G vwCl (gzK cy) s) (hov : gOv s) (A : Nat → Prop) (hA : ∀ q, s.heap.size ≤ q → A q) (hAn : ∀ q, A q → s.heap.size ≤ q) (hE : gE sK sV A s s.heap) (aX aM : Nat → Nat → Nat) (o : Nat) (hAp : gAp aX aM o) (hmX : ∀ k i, i < cnX k → A (aX k i)) (hmM : ∀ k i, i < cnM k → A (aM k i)) (hAo : A o) (sx sm : gS) (f : Nat → Int64) (hBX : gBd bX sx) (hIM : mInv sm) (hRel : lRel sx sm) (iv : Int32) (hi0 : 0 ≤ iv.toInt) (hi1 : iv.toInt + 6 ≤ (L : Int)) (hLb : L ≤ 3072) (cells slots : Nat) (hcl : cells + 1 ≤ 601024) (hsl : slots + 6 ≤ 7293034) (H : Heap) (locs : List Loc) (ls : Array Slot) (hW : gWd G cy aX aM o sx sm f H) (hS : va_S A s.heap H locs) (hl : lv_has ls 7 [(4, .int iv), (3, .ref o), (2, .ref (aM 0 0)), (1, .ref (aX 0 0)), (0, .ref b)]) (hnext : (∀ (sx sm : gS) (f : Nat → Int64) (H : Heap) (locs : List Loc) (ls : Array Slot) (cells1 slots1 : Nat), gBd bX sx → mInv sm → lRel sx sm → cells1 ≤ cells + 1 → slots1 ≤ slots + 6 → gWd G cy aX aM o sx sm f H → va_S A s.heap H locs → lv_has ls 7 [(4, .int iv), (3, .ref o), (2, .ref (aM 0 0)), (1, .ref (aX 0 0)), (0, .ref b)] → W p l e room_1 s m #[Value.ref b] below meth c H locs cells1 slots1 (lw_Z below #[Value.ref b] s) (F0 m 1028 ls []))) : W p l e room_1 s m #[Value.ref b] below meth c H locs cells slots (lw_Z below #[Value.ref b] s) (F0 m 217 ls []) := by
  obtain ⟨hx, hb, hr, hml, hown, hts0, hX, hbl, hlocks, hgv⟩ := id C0
  have hts : ∀ w ∈ gz_T, w.before #[Value.ref b] s = true := fun w h => hts0 w (List.mem_filter.mp h).1
  have hown : s.vm.findClass RL = some m.cls := hown
  have hbA : ¬ A b := fun q => Nat.not_le.mpr hbl (hAn b q)
  have t1 : (iv + 1).toInt = iv.toInt + 1 := gz_addP rfl (by decide) (by omega) (by omega)
  have t2 : (iv + 2).toInt = iv.toInt + 2 := gz_addP rfl (by decide) (by omega) (by omega)
  have t3 : (iv + 3).toInt = iv.toInt + 3 := gz_addP rfl (by decide) (by omega) (by omega)
  have t4 : (iv + 4).toInt = iv.toInt + 4 := gz_addP rfl (by decide) (by omega) (by omega)
  have t5 : (iv + 5).toInt = iv.toInt + 5 := gz_addP rfl (by decide) (by omega) (by omega)
  obtain ⟨rs, hLa, hLM, hru, hwf, hun⟩ := hRel.law
  have bk28 : (0 : Int) ≤ (sm 0 0 28).toInt ∧ (sm 0 0 28).toInt ≤ (1 : Int) := hIM 0 0 28
  have hbk : (sm 0 0 28).toInt = (((sm 0 0 28).toNatClampNeg : Nat) : Int) := (gs_cl bk28.1).symm
  refine lv_aload_n hx hb dL_law_217 rfl (lv_at hl 3 rfl) ?_
  refine lv_aload_n hx hb dL_law_218 rfl (lv_at hl 4 rfl) ?_
  refine lv_iload hx hb dL_law_219 (lv_at hl 0 rfl) ?_
  refine lv_iconst (v := 1) hx hb dL_law_221 (by decide) ?_
  refine lv_iadd hx hb dL_law_222 ?_
  refine va_sld hx hb hX hbl hbA hS (vp_in_iff.mpr ⟨by omega, by omega⟩) dL_law_223 ?_
  refine lv_topi (fun x_1 ex_1 => ?_)
  refine gw_callX (va_runV (As := [.int x_1]) (rest := []) ⟨hx, hb, hml, hown, hts⟩ (s_end l G cy sK sV aX H.size sx hBX x_1 x_1.toInt rfl ) ⟨(gz_cb (n := 1) hts gm_336 gm_1 gm_339 ⟨by decide +kernel, by decide +kernel, by decide +kernel⟩ ⟨Nat.le_of_ble_eq_true rfl, Nat.le_of_ble_eq_true rfl⟩), hts _ gm_337, hts _ gm_338⟩ (gs_preV hK hov hE hAp.1 hW.1 hmX hS hA 0 0 (by decide) rfl rfl) rfl rfl hl.1 rfl (lv_room (Nat.le_of_ble_eq_true rfl)) dL_law_224 ⟨(by show cells ≤ 601024; omega), (by show slots ≤ 7293034; omega)⟩) hAp hmX hW hS hA (fun r_2 st_2 H locs hw_2 hW hS => ?_)
  obtain ⟨n_2, hw_2⟩ := hw_2
  refine lv_pop hx hb dL_law_227 rfl ?_
  refine lv_aload_n hx hb dL_law_228 rfl (lv_at hl 2 rfl) ?_
  refine lv_aload_n hx hb dL_law_229 rfl (lv_at hl 4 rfl) ?_
  refine lv_iload hx hb dL_law_230 (lv_at hl 0 rfl) ?_
  refine lv_iconst (v := 1) hx hb dL_law_232 (by decide) ?_
  refine lv_iadd hx hb dL_law_233 ?_
  refine va_sld hx hb hX hbl hbA hS (vp_in_iff.mpr ⟨by omega, by omega⟩) dL_law_234 ?_
  refine lv_topi (fun x_3 ex_3 => ?_)
  have ex_3 : x_1 = x_3 := ex_1.trans ex_3.symm
  subst ex_3
  refine gw_callM (va_runV (As := [.int x_1]) (rest := []) ⟨hx, hb, hml, hown, hts⟩ (m_end l G cy sK sV aM H.size sm hIM x_1 x_1.toInt rfl ) ⟨(gz_cb (n := 1) hts gm_1092 gm_12 gm_1095 ⟨by decide +kernel, by decide +kernel, by decide +kernel⟩ ⟨Nat.le_of_ble_eq_true rfl, Nat.le_of_ble_eq_true rfl⟩), hts _ gm_1093, hts _ gm_1094⟩ (gs_preV hK hov hE hAp.2.1 hW.2.1 hmM hS hA 0 0 (by decide) rfl rfl) rfl rfl hl.1 rfl (lv_room (Nat.le_of_ble_eq_true rfl)) dL_law_235 ⟨(by show cells ≤ 601024; omega), (by show slots ≤ 7293034; omega)⟩) hAp hmM hW hS hA (fun r_4 st_4 H locs hw_4 hW hS => ?_)
  obtain ⟨n_4, hw_4⟩ := hw_4
  have hRel := rel_end (rX := r_2) (rM := r_4) (x := x_1) hRel hBX hIM n_2 n_4  hw_2 hw_4
  have hBX := n_2.1
  have hIM := mInv.keep n_4 hIM
  refine lv_pop hx hb dL_law_238 rfl ?_
  refine lv_goto (tgt := 1028) hx hb dL_law_239 (by decide) ?_
  exact hnext st_2 st_4 f H _ ls (cells) (slots) hBX hIM hRel (by omega) (by omega) hW hS (lv_sub hl [0, 1, 2, 3, 4] rfl)

set_option maxHeartbeats 4000000 in
set_option maxRecDepth 100000 in
theorem law_c2 {p : Program} {e : Env} {s : State} {m : MethodId} {below : List Frame} {meth : Method} {c : Code} (l : Launch) (hlt : l.stackTraces = false) {b L : Nat} {xs : Nat → Int32} (C0 : lw_At p s m meth c b L xs) (G : va_G) (cy : Nat → ClassId) (sK sV : Nat → Nat) (hK : va_K G vwCl (gzK cy) s) (hov : gOv s) (A : Nat → Prop) (hA : ∀ q, s.heap.size ≤ q → A q) (hAn : ∀ q, A q → s.heap.size ≤ q) (hE : gE sK sV A s s.heap) (aX aM : Nat → Nat → Nat) (o : Nat) (hAp : gAp aX aM o) (hmX : ∀ k i, i < cnX k → A (aX k i)) (hmM : ∀ k i, i < cnM k → A (aM k i)) (hAo : A o) (sx sm : gS) (f : Nat → Int64) (hBX : gBd bX sx) (hIM : mInv sm) (hRel : lRel sx sm) (iv : Int32) (hi0 : 0 ≤ iv.toInt) (hi1 : iv.toInt + 6 ≤ (L : Int)) (hLb : L ≤ 3072) (cells slots : Nat) (hcl : cells + 1 ≤ 601024) (hsl : slots + 6 ≤ 7293034) (H : Heap) (locs : List Loc) (ls : Array Slot) (hW : gWd G cy aX aM o sx sm f H) (hS : va_S A s.heap H locs) (hl : lv_has ls 7 [(4, .int iv), (3, .ref o), (2, .ref (aM 0 0)), (1, .ref (aX 0 0)), (0, .ref b)]) (hnext : (∀ (sx sm : gS) (f : Nat → Int64) (H : Heap) (locs : List Loc) (ls : Array Slot) (cells1 slots1 : Nat), gBd bX sx → mInv sm → lRel sx sm → cells1 ≤ cells + 1 → slots1 ≤ slots + 6 → gWd G cy aX aM o sx sm f H → va_S A s.heap H locs → lv_has ls 7 [(4, .int iv), (3, .ref o), (2, .ref (aM 0 0)), (1, .ref (aX 0 0)), (0, .ref b)] → W p l e room_1 s m #[Value.ref b] below meth c H locs cells1 slots1 (lw_Z below #[Value.ref b] s) (F0 m 1028 ls []))) : W p l e room_1 s m #[Value.ref b] below meth c H locs cells slots (lw_Z below #[Value.ref b] s) (F0 m 242 ls []) := by
  obtain ⟨hx, hb, hr, hml, hown, hts0, hX, hbl, hlocks, hgv⟩ := id C0
  have hts : ∀ w ∈ gz_T, w.before #[Value.ref b] s = true := fun w h => hts0 w (List.mem_filter.mp h).1
  have hown : s.vm.findClass RL = some m.cls := hown
  have hbA : ¬ A b := fun q => Nat.not_le.mpr hbl (hAn b q)
  have t1 : (iv + 1).toInt = iv.toInt + 1 := gz_addP rfl (by decide) (by omega) (by omega)
  have t2 : (iv + 2).toInt = iv.toInt + 2 := gz_addP rfl (by decide) (by omega) (by omega)
  have t3 : (iv + 3).toInt = iv.toInt + 3 := gz_addP rfl (by decide) (by omega) (by omega)
  have t4 : (iv + 4).toInt = iv.toInt + 4 := gz_addP rfl (by decide) (by omega) (by omega)
  have t5 : (iv + 5).toInt = iv.toInt + 5 := gz_addP rfl (by decide) (by omega) (by omega)
  obtain ⟨rs, hLa, hLM, hru, hwf, hun⟩ := hRel.law
  have bk28 : (0 : Int) ≤ (sm 0 0 28).toInt ∧ (sm 0 0 28).toInt ≤ (1 : Int) := hIM 0 0 28
  have hbk : (sm 0 0 28).toInt = (((sm 0 0 28).toNatClampNeg : Nat) : Int) := (gs_cl bk28.1).symm
  refine lv_aload_n hx hb dL_law_242 rfl (lv_at hl 3 rfl) ?_
  refine lv_aload_n hx hb dL_law_243 rfl (lv_at hl 4 rfl) ?_
  refine lv_iload hx hb dL_law_244 (lv_at hl 0 rfl) ?_
  refine lv_iconst (v := 1) hx hb dL_law_246 (by decide) ?_
  refine lv_iadd hx hb dL_law_247 ?_
  refine va_sld hx hb hX hbl hbA hS (vp_in_iff.mpr ⟨by omega, by omega⟩) dL_law_248 ?_
  refine lv_topi (fun x_1 ex_1 => ?_)
  refine lv_aload_n hx hb dL_law_249 rfl (lv_at hl 4 rfl) ?_
  refine lv_iload hx hb dL_law_250 (lv_at hl 0 rfl) ?_
  refine lv_iconst (v := 2) hx hb dL_law_252 (by decide) ?_
  refine lv_iadd hx hb dL_law_253 ?_
  refine va_sld hx hb hX hbl hbA hS (vp_in_iff.mpr ⟨by omega, by omega⟩) dL_law_254 ?_
  refine lv_topi (fun x_2 ex_2 => ?_)
  refine lv_aload_n hx hb dL_law_255 rfl (lv_at hl 4 rfl) ?_
  refine lv_iload hx hb dL_law_256 (lv_at hl 0 rfl) ?_
  refine lv_iconst (v := 3) hx hb dL_law_258 (by decide) ?_
  refine lv_iadd hx hb dL_law_259 ?_
  refine va_sld hx hb hX hbl hbA hS (vp_in_iff.mpr ⟨by omega, by omega⟩) dL_law_260 ?_
  refine lv_topi (fun x_3 ex_3 => ?_)
  refine lv_aload_n hx hb dL_law_261 rfl (lv_at hl 4 rfl) ?_
  refine lv_iload hx hb dL_law_262 (lv_at hl 0 rfl) ?_
  refine lv_iconst (v := 4) hx hb dL_law_264 (by decide) ?_
  refine lv_iadd hx hb dL_law_265 ?_
  refine va_sld hx hb hX hbl hbA hS (vp_in_iff.mpr ⟨by omega, by omega⟩) dL_law_266 ?_
  refine lv_topi (fun x_4 ex_4 => ?_)
  refine gw_callX (va_runV (As := [.int x_1, .int x_2, .int x_3, .int x_4]) (rest := []) ⟨hx, hb, hml, hown, hts⟩ (s_well l G cy sK sV aX H.size sx hBX x_1 x_2 x_3 x_4 x_1.toInt x_2.toInt x_3.toInt x_4.toInt rfl rfl rfl rfl ) ⟨(gz_cb (n := 4) hts gm_340 gm_1 gm_343 ⟨by decide +kernel, by decide +kernel, by decide +kernel⟩ ⟨Nat.le_of_ble_eq_true rfl, Nat.le_of_ble_eq_true rfl⟩), hts _ gm_341, hts _ gm_342⟩ (gs_preV hK hov hE hAp.1 hW.1 hmX hS hA 0 0 (by decide) rfl rfl) rfl rfl hl.1 rfl (lv_room (Nat.le_of_ble_eq_true rfl)) dL_law_267 ⟨(by show cells ≤ 601024; omega), (by show slots ≤ 7293034; omega)⟩) hAp hmX hW hS hA (fun r_5 st_5 H locs hw_5 hW hS => ?_)
  obtain ⟨n_5, hw_5⟩ := hw_5
  refine lv_pop hx hb dL_law_270 rfl ?_
  refine lv_aload_n hx hb dL_law_271 rfl (lv_at hl 2 rfl) ?_
  refine lv_aload_n hx hb dL_law_272 rfl (lv_at hl 4 rfl) ?_
  refine lv_iload hx hb dL_law_273 (lv_at hl 0 rfl) ?_
  refine lv_iconst (v := 1) hx hb dL_law_275 (by decide) ?_
  refine lv_iadd hx hb dL_law_276 ?_
  refine va_sld hx hb hX hbl hbA hS (vp_in_iff.mpr ⟨by omega, by omega⟩) dL_law_277 ?_
  refine lv_topi (fun x_6 ex_6 => ?_)
  have ex_6 : x_1 = x_6 := ex_1.trans ex_6.symm
  subst ex_6
  refine lv_aload_n hx hb dL_law_278 rfl (lv_at hl 4 rfl) ?_
  refine lv_iload hx hb dL_law_279 (lv_at hl 0 rfl) ?_
  refine lv_iconst (v := 2) hx hb dL_law_281 (by decide) ?_
  refine lv_iadd hx hb dL_law_282 ?_
  refine va_sld hx hb hX hbl hbA hS (vp_in_iff.mpr ⟨by omega, by omega⟩) dL_law_283 ?_
  refine lv_topi (fun x_7 ex_7 => ?_)
  have ex_7 : x_2 = x_7 := ex_2.trans ex_7.symm
  subst ex_7
  refine lv_aload_n hx hb dL_law_284 rfl (lv_at hl 4 rfl) ?_
  refine lv_iload hx hb dL_law_285 (lv_at hl 0 rfl) ?_
  refine lv_iconst (v := 3) hx hb dL_law_287 (by decide) ?_
  refine lv_iadd hx hb dL_law_288 ?_
  refine va_sld hx hb hX hbl hbA hS (vp_in_iff.mpr ⟨by omega, by omega⟩) dL_law_289 ?_
  refine lv_topi (fun x_8 ex_8 => ?_)
  have ex_8 : x_3 = x_8 := ex_3.trans ex_8.symm
  subst ex_8
  refine lv_aload_n hx hb dL_law_290 rfl (lv_at hl 4 rfl) ?_
  refine lv_iload hx hb dL_law_291 (lv_at hl 0 rfl) ?_
  refine lv_iconst (v := 4) hx hb dL_law_293 (by decide) ?_
  refine lv_iadd hx hb dL_law_294 ?_
  refine va_sld hx hb hX hbl hbA hS (vp_in_iff.mpr ⟨by omega, by omega⟩) dL_law_295 ?_
  refine lv_topi (fun x_9 ex_9 => ?_)
  have ex_9 : x_4 = x_9 := ex_4.trans ex_9.symm
  subst ex_9
  refine gw_callM (va_runV (As := [.int x_1, .int x_2, .int x_3, .int x_4]) (rest := []) ⟨hx, hb, hml, hown, hts⟩ (m_wellB l G cy sK sV aM H.size sm hIM x_1 x_2 x_3 x_4 x_1.toInt x_2.toInt x_3.toInt x_4.toInt rfl rfl rfl rfl ) ⟨(gz_cb (n := 4) hts gm_1080 gm_12 gm_1083 ⟨by decide +kernel, by decide +kernel, by decide +kernel⟩ ⟨Nat.le_of_ble_eq_true rfl, Nat.le_of_ble_eq_true rfl⟩), hts _ gm_1081, hts _ gm_1082⟩ (gs_preV hK hov hE hAp.2.1 hW.2.1 hmM hS hA 0 0 (by decide) rfl rfl) rfl rfl hl.1 rfl (lv_room (Nat.le_of_ble_eq_true rfl)) dL_law_296 ⟨(by show cells ≤ 601024; omega), (by show slots ≤ 7293034; omega)⟩) hAp hmM hW hS hA (fun r_10 st_10 H locs hw_10 hW hS => ?_)
  obtain ⟨n_10, hw_10⟩ := hw_10
  have hRel := rel_well (rX := r_5) (rM := r_10) (x := x_1) (y := x_2) (w := x_3) (v := x_4) hRel hBX hIM n_5 n_10  hw_5 hw_10
  have hBX := n_5.1
  have hIM := mInv.keep n_10 hIM
  refine lv_pop hx hb dL_law_299 rfl ?_
  refine lv_goto (tgt := 1028) hx hb dL_law_300 (by decide) ?_
  exact hnext st_5 st_10 f H _ ls (cells) (slots) hBX hIM hRel (by omega) (by omega) hW hS (lv_sub hl [0, 1, 2, 3, 4] rfl)

set_option maxHeartbeats 4000000 in
set_option maxRecDepth 100000 in
theorem law_c3 {p : Program} {e : Env} {s : State} {m : MethodId} {below : List Frame} {meth : Method} {c : Code} (l : Launch) (hlt : l.stackTraces = false) {b L : Nat} {xs : Nat → Int32} (C0 : lw_At p s m meth c b L xs) (G : va_G) (cy : Nat → ClassId) (sK sV : Nat → Nat) (hK : va_K G vwCl (gzK cy) s) (hov : gOv s) (A : Nat → Prop) (hA : ∀ q, s.heap.size ≤ q → A q) (hAn : ∀ q, A q → s.heap.size ≤ q) (hE : gE sK sV A s s.heap) (aX aM : Nat → Nat → Nat) (o : Nat) (hAp : gAp aX aM o) (hmX : ∀ k i, i < cnX k → A (aX k i)) (hmM : ∀ k i, i < cnM k → A (aM k i)) (hAo : A o) (sx sm : gS) (f : Nat → Int64) (hBX : gBd bX sx) (hIM : mInv sm) (hRel : lRel sx sm) (iv : Int32) (hi0 : 0 ≤ iv.toInt) (hi1 : iv.toInt + 6 ≤ (L : Int)) (hLb : L ≤ 3072) (cells slots : Nat) (hcl : cells + 1 ≤ 601024) (hsl : slots + 6 ≤ 7293034) (H : Heap) (locs : List Loc) (ls : Array Slot) (hW : gWd G cy aX aM o sx sm f H) (hS : va_S A s.heap H locs) (hl : lv_has ls 7 [(4, .int iv), (3, .ref o), (2, .ref (aM 0 0)), (1, .ref (aX 0 0)), (0, .ref b)]) (hnext : (∀ (sx sm : gS) (f : Nat → Int64) (H : Heap) (locs : List Loc) (ls : Array Slot) (cells1 slots1 : Nat), gBd bX sx → mInv sm → lRel sx sm → cells1 ≤ cells + 1 → slots1 ≤ slots + 6 → gWd G cy aX aM o sx sm f H → va_S A s.heap H locs → lv_has ls 7 [(4, .int iv), (3, .ref o), (2, .ref (aM 0 0)), (1, .ref (aX 0 0)), (0, .ref b)] → W p l e room_1 s m #[Value.ref b] below meth c H locs cells1 slots1 (lw_Z below #[Value.ref b] s) (F0 m 1028 ls []))) : W p l e room_1 s m #[Value.ref b] below meth c H locs cells slots (lw_Z below #[Value.ref b] s) (F0 m 303 ls []) := by
  obtain ⟨hx, hb, hr, hml, hown, hts0, hX, hbl, hlocks, hgv⟩ := id C0
  have hts : ∀ w ∈ gz_T, w.before #[Value.ref b] s = true := fun w h => hts0 w (List.mem_filter.mp h).1
  have hown : s.vm.findClass RL = some m.cls := hown
  have hbA : ¬ A b := fun q => Nat.not_le.mpr hbl (hAn b q)
  have t1 : (iv + 1).toInt = iv.toInt + 1 := gz_addP rfl (by decide) (by omega) (by omega)
  have t2 : (iv + 2).toInt = iv.toInt + 2 := gz_addP rfl (by decide) (by omega) (by omega)
  have t3 : (iv + 3).toInt = iv.toInt + 3 := gz_addP rfl (by decide) (by omega) (by omega)
  have t4 : (iv + 4).toInt = iv.toInt + 4 := gz_addP rfl (by decide) (by omega) (by omega)
  have t5 : (iv + 5).toInt = iv.toInt + 5 := gz_addP rfl (by decide) (by omega) (by omega)
  obtain ⟨rs, hLa, hLM, hru, hwf, hun⟩ := hRel.law
  have bk28 : (0 : Int) ≤ (sm 0 0 28).toInt ∧ (sm 0 0 28).toInt ≤ (1 : Int) := hIM 0 0 28
  have hbk : (sm 0 0 28).toInt = (((sm 0 0 28).toNatClampNeg : Nat) : Int) := (gs_cl bk28.1).symm
  refine lv_aload_n hx hb dL_law_303 rfl (lv_at hl 3 rfl) ?_
  refine gw_callX (va_runV (As := []) (rest := []) ⟨hx, hb, hml, hown, hts⟩ (s_rights l G cy sK sV aX H.size sx hBX  (sx 2 0) (sx 1 0 1).toInt rfl rfl rs hLa hRel.sel) ⟨(gz_cb (n := 0) hts gm_354 gm_1 gm_357 ⟨by decide +kernel, by decide +kernel, by decide +kernel⟩ ⟨Nat.le_of_ble_eq_true rfl, Nat.le_of_ble_eq_true rfl⟩), hts _ gm_355, hts _ gm_356⟩ (gs_preV hK hov hE hAp.1 hW.1 hmX hS hA 0 0 (by decide) rfl rfl) rfl rfl hl.1 rfl (lv_room (Nat.le_of_ble_eq_true rfl)) dL_law_304 ⟨(by show cells ≤ 601024; omega), (by show slots ≤ 7293034; omega)⟩) hAp hmX hW hS hA (fun r_1 st_1 H locs hw_1 hW hS => ?_)
  obtain ⟨n_1, hw_1⟩ := hw_1
  refine lv_pop hx hb dL_law_307 rfl ?_
  refine lv_aload_n hx hb dL_law_308 rfl (lv_at hl 2 rfl) ?_
  refine gw_callM (va_runV (As := []) (rest := []) ⟨hx, hb, hml, hown, hts⟩ (m_rights l G cy sK sV aM H.size sm hIM  (sx 2 0) (sx 1 0 1).toInt hRel.tape.symm (congrArg Int32.toInt hRel.size.symm) _ hbk rs hLM hwf hru) ⟨(gz_cb (n := 0) hts gm_1096 gm_12 gm_1099 ⟨by decide +kernel, by decide +kernel, by decide +kernel⟩ ⟨Nat.le_of_ble_eq_true rfl, Nat.le_of_ble_eq_true rfl⟩), hts _ gm_1097, hts _ gm_1098⟩ (gs_preV hK hov hE hAp.2.1 hW.2.1 hmM hS hA 0 0 (by decide) rfl rfl) rfl rfl hl.1 rfl (lv_room (Nat.le_of_ble_eq_true rfl)) dL_law_309 ⟨(by show cells ≤ 601024; omega), (by show slots ≤ 7293034; omega)⟩) hAp hmM hW hS hA (fun r_2 st_2 H locs hw_2 hW hS => ?_)
  obtain ⟨n_2, hw_2⟩ := hw_2
  have hRel := rel_rights (rX := r_1) (rM := r_2)  hRel hBX hIM n_1 n_2 (by have h9 : (0 : Int) ≤ (sx 1 0 1).toInt ∧ (sx 1 0 1).toInt ≤ (800 : Int) := hBX 1 0 1; exact h9.2) hbk hru hwf hun hw_1 hw_2
  have hBX := n_1.1
  have hIM := mInv.keep n_2 hIM
  refine lv_pop hx hb dL_law_312 rfl ?_
  refine lv_goto (tgt := 1028) hx hb dL_law_313 (by decide) ?_
  exact hnext st_1 st_2 f H _ ls (cells) (slots) hBX hIM hRel (by omega) (by omega) hW hS (lv_sub hl [0, 1, 2, 3, 4] rfl)

set_option maxHeartbeats 4000000 in
set_option maxRecDepth 100000 in
theorem law_c4 {p : Program} {e : Env} {s : State} {m : MethodId} {below : List Frame} {meth : Method} {c : Code} (l : Launch) (hlt : l.stackTraces = false) {b L : Nat} {xs : Nat → Int32} (C0 : lw_At p s m meth c b L xs) (G : va_G) (cy : Nat → ClassId) (sK sV : Nat → Nat) (hK : va_K G vwCl (gzK cy) s) (hov : gOv s) (A : Nat → Prop) (hA : ∀ q, s.heap.size ≤ q → A q) (hAn : ∀ q, A q → s.heap.size ≤ q) (hE : gE sK sV A s s.heap) (aX aM : Nat → Nat → Nat) (o : Nat) (hAp : gAp aX aM o) (hmX : ∀ k i, i < cnX k → A (aX k i)) (hmM : ∀ k i, i < cnM k → A (aM k i)) (hAo : A o) (sx sm : gS) (f : Nat → Int64) (hBX : gBd bX sx) (hIM : mInv sm) (hRel : lRel sx sm) (iv : Int32) (hi0 : 0 ≤ iv.toInt) (hi1 : iv.toInt + 6 ≤ (L : Int)) (hLb : L ≤ 3072) (cells slots : Nat) (hcl : cells + 1 ≤ 601024) (hsl : slots + 6 ≤ 7293034) (H : Heap) (locs : List Loc) (ls : Array Slot) (hW : gWd G cy aX aM o sx sm f H) (hS : va_S A s.heap H locs) (hl : lv_has ls 7 [(4, .int iv), (3, .ref o), (2, .ref (aM 0 0)), (1, .ref (aX 0 0)), (0, .ref b)]) (hnext : (∀ (sx sm : gS) (f : Nat → Int64) (H : Heap) (locs : List Loc) (ls : Array Slot) (cells1 slots1 : Nat), gBd bX sx → mInv sm → lRel sx sm → cells1 ≤ cells + 1 → slots1 ≤ slots + 6 → gWd G cy aX aM o sx sm f H → va_S A s.heap H locs → lv_has ls 7 [(4, .int iv), (3, .ref o), (2, .ref (aM 0 0)), (1, .ref (aX 0 0)), (0, .ref b)] → W p l e room_1 s m #[Value.ref b] below meth c H locs cells1 slots1 (lw_Z below #[Value.ref b] s) (F0 m 1028 ls []))) : W p l e room_1 s m #[Value.ref b] below meth c H locs cells slots (lw_Z below #[Value.ref b] s) (F0 m 316 ls []) := by
  obtain ⟨hx, hb, hr, hml, hown, hts0, hX, hbl, hlocks, hgv⟩ := id C0
  have hts : ∀ w ∈ gz_T, w.before #[Value.ref b] s = true := fun w h => hts0 w (List.mem_filter.mp h).1
  have hown : s.vm.findClass RL = some m.cls := hown
  have hbA : ¬ A b := fun q => Nat.not_le.mpr hbl (hAn b q)
  have t1 : (iv + 1).toInt = iv.toInt + 1 := gz_addP rfl (by decide) (by omega) (by omega)
  have t2 : (iv + 2).toInt = iv.toInt + 2 := gz_addP rfl (by decide) (by omega) (by omega)
  have t3 : (iv + 3).toInt = iv.toInt + 3 := gz_addP rfl (by decide) (by omega) (by omega)
  have t4 : (iv + 4).toInt = iv.toInt + 4 := gz_addP rfl (by decide) (by omega) (by omega)
  have t5 : (iv + 5).toInt = iv.toInt + 5 := gz_addP rfl (by decide) (by omega) (by omega)
  obtain ⟨rs, hLa, hLM, hru, hwf, hun⟩ := hRel.law
  have bk28 : (0 : Int) ≤ (sm 0 0 28).toInt ∧ (sm 0 0 28).toInt ≤ (1 : Int) := hIM 0 0 28
  have hbk : (sm 0 0 28).toInt = (((sm 0 0 28).toNatClampNeg : Nat) : Int) := (gs_cl bk28.1).symm
  refine lv_aload_n hx hb dL_law_316 rfl (lv_at hl 3 rfl) ?_
  refine gw_callX (va_runV (As := []) (rest := []) ⟨hx, hb, hml, hown, hts⟩ (s_fault l G cy sK sV aX H.size sx hBX  ) ⟨(gz_cb (n := 0) hts gm_567 gm_1 gm_570 ⟨by decide +kernel, by decide +kernel, by decide +kernel⟩ ⟨Nat.le_of_ble_eq_true rfl, Nat.le_of_ble_eq_true rfl⟩), hts _ gm_568, hts _ gm_569⟩ (gs_preV hK hov hE hAp.1 hW.1 hmX hS hA 0 0 (by decide) rfl rfl) rfl rfl hl.1 rfl (lv_room (Nat.le_of_ble_eq_true rfl)) dL_law_317 ⟨(by show cells ≤ 601024; omega), (by show slots ≤ 7293034; omega)⟩) hAp hmX hW hS hA (fun r_1 st_1 H locs hw_1 hW hS => ?_)
  obtain ⟨n_1, hw_1⟩ := hw_1
  refine lv_pop hx hb dL_law_320 rfl ?_
  refine lv_aload_n hx hb dL_law_321 rfl (lv_at hl 2 rfl) ?_
  refine gw_callM (va_runV (As := []) (rest := []) ⟨hx, hb, hml, hown, hts⟩ (m_fault l G cy sK sV aM H.size sm hIM  ) ⟨(gz_cb (n := 0) hts gm_1189 gm_12 gm_1192 ⟨by decide +kernel, by decide +kernel, by decide +kernel⟩ ⟨Nat.le_of_ble_eq_true rfl, Nat.le_of_ble_eq_true rfl⟩), hts _ gm_1190, hts _ gm_1191⟩ (gs_preV hK hov hE hAp.2.1 hW.2.1 hmM hS hA 0 0 (by decide) rfl rfl) rfl rfl hl.1 rfl (lv_room (Nat.le_of_ble_eq_true rfl)) dL_law_322 ⟨(by show cells ≤ 601024; omega), (by show slots ≤ 7293034; omega)⟩) hAp hmM hW hS hA (fun r_2 st_2 H locs hw_2 hW hS => ?_)
  obtain ⟨n_2, hw_2⟩ := hw_2
  have hRel := rel_fault (rX := r_1) (rM := r_2)  hRel hBX hIM n_1 n_2  hw_1 hw_2
  have hBX := n_1.1
  have hIM := mInv.keep n_2 hIM
  refine lv_pop hx hb dL_law_325 rfl ?_
  refine lv_goto (tgt := 1028) hx hb dL_law_326 (by decide) ?_
  exact hnext st_1 st_2 f H _ ls (cells) (slots) hBX hIM hRel (by omega) (by omega) hW hS (lv_sub hl [0, 1, 2, 3, 4] rfl)

set_option maxHeartbeats 4000000 in
set_option maxRecDepth 100000 in
theorem law_c5 {p : Program} {e : Env} {s : State} {m : MethodId} {below : List Frame} {meth : Method} {c : Code} (l : Launch) (hlt : l.stackTraces = false) {b L : Nat} {xs : Nat → Int32} (C0 : lw_At p s m meth c b L xs) (G : va_G) (cy : Nat → ClassId) (sK sV : Nat → Nat) (hK : va_K G vwCl (gzK cy) s) (hov : gOv s) (A : Nat → Prop) (hA : ∀ q, s.heap.size ≤ q → A q) (hAn : ∀ q, A q → s.heap.size ≤ q) (hE : gE sK sV A s s.heap) (aX aM : Nat → Nat → Nat) (o : Nat) (hAp : gAp aX aM o) (hmX : ∀ k i, i < cnX k → A (aX k i)) (hmM : ∀ k i, i < cnM k → A (aM k i)) (hAo : A o) (sx sm : gS) (f : Nat → Int64) (hBX : gBd bX sx) (hIM : mInv sm) (hRel : lRel sx sm) (iv : Int32) (hi0 : 0 ≤ iv.toInt) (hi1 : iv.toInt + 6 ≤ (L : Int)) (hLb : L ≤ 3072) (cells slots : Nat) (hcl : cells + 1 ≤ 601024) (hsl : slots + 6 ≤ 7293034) (H : Heap) (locs : List Loc) (ls : Array Slot) (hW : gWd G cy aX aM o sx sm f H) (hS : va_S A s.heap H locs) (hl : lv_has ls 7 [(4, .int iv), (3, .ref o), (2, .ref (aM 0 0)), (1, .ref (aX 0 0)), (0, .ref b)]) (hnext : (∀ (sx sm : gS) (f : Nat → Int64) (H : Heap) (locs : List Loc) (ls : Array Slot) (cells1 slots1 : Nat), gBd bX sx → mInv sm → lRel sx sm → cells1 ≤ cells + 1 → slots1 ≤ slots + 6 → gWd G cy aX aM o sx sm f H → va_S A s.heap H locs → lv_has ls 7 [(4, .int iv), (3, .ref o), (2, .ref (aM 0 0)), (1, .ref (aX 0 0)), (0, .ref b)] → W p l e room_1 s m #[Value.ref b] below meth c H locs cells1 slots1 (lw_Z below #[Value.ref b] s) (F0 m 1028 ls []))) : W p l e room_1 s m #[Value.ref b] below meth c H locs cells slots (lw_Z below #[Value.ref b] s) (F0 m 329 ls []) := by
  obtain ⟨hx, hb, hr, hml, hown, hts0, hX, hbl, hlocks, hgv⟩ := id C0
  have hts : ∀ w ∈ gz_T, w.before #[Value.ref b] s = true := fun w h => hts0 w (List.mem_filter.mp h).1
  have hown : s.vm.findClass RL = some m.cls := hown
  have hbA : ¬ A b := fun q => Nat.not_le.mpr hbl (hAn b q)
  have t1 : (iv + 1).toInt = iv.toInt + 1 := gz_addP rfl (by decide) (by omega) (by omega)
  have t2 : (iv + 2).toInt = iv.toInt + 2 := gz_addP rfl (by decide) (by omega) (by omega)
  have t3 : (iv + 3).toInt = iv.toInt + 3 := gz_addP rfl (by decide) (by omega) (by omega)
  have t4 : (iv + 4).toInt = iv.toInt + 4 := gz_addP rfl (by decide) (by omega) (by omega)
  have t5 : (iv + 5).toInt = iv.toInt + 5 := gz_addP rfl (by decide) (by omega) (by omega)
  obtain ⟨rs, hLa, hLM, hru, hwf, hun⟩ := hRel.law
  have bk28 : (0 : Int) ≤ (sm 0 0 28).toInt ∧ (sm 0 0 28).toInt ≤ (1 : Int) := hIM 0 0 28
  have hbk : (sm 0 0 28).toInt = (((sm 0 0 28).toNatClampNeg : Nat) : Int) := (gs_cl bk28.1).symm
  refine lv_aload_n hx hb dL_law_329 rfl (lv_at hl 3 rfl) ?_
  refine gw_callX (va_runV (As := []) (rest := []) ⟨hx, hb, hml, hown, hts⟩ (s_next l G cy sK sV aX H.size sx hBX  rs hLa hwf) ⟨(gz_cb (n := 0) hts gm_571 gm_1 gm_574 ⟨by decide +kernel, by decide +kernel, by decide +kernel⟩ ⟨Nat.le_of_ble_eq_true rfl, Nat.le_of_ble_eq_true rfl⟩), hts _ gm_572, hts _ gm_573⟩ (gs_preV hK hov hE hAp.1 hW.1 hmX hS hA 0 0 (by decide) rfl rfl) rfl rfl hl.1 rfl (lv_room (Nat.le_of_ble_eq_true rfl)) dL_law_330 ⟨(by show cells ≤ 601024; omega), (by show slots ≤ 7293034; omega)⟩) hAp hmX hW hS hA (fun r_1 st_1 H locs hw_1 hW hS => ?_)
  obtain ⟨n_1, hw_1⟩ := hw_1
  refine lv_pop hx hb dL_law_333 rfl ?_
  refine lv_aload_n hx hb dL_law_334 rfl (lv_at hl 2 rfl) ?_
  refine gw_callM (va_runV (As := []) (rest := []) ⟨hx, hb, hml, hown, hts⟩ (m_next l G cy sK sV aM H.size sm hIM  rs _ hbk hru hLM) ⟨(gz_cb (n := 0) hts gm_1193 gm_12 gm_1196 ⟨by decide +kernel, by decide +kernel, by decide +kernel⟩ ⟨Nat.le_of_ble_eq_true rfl, Nat.le_of_ble_eq_true rfl⟩), hts _ gm_1194, hts _ gm_1195⟩ (gs_preV hK hov hE hAp.2.1 hW.2.1 hmM hS hA 0 0 (by decide) rfl rfl) rfl rfl hl.1 rfl (lv_room (Nat.le_of_ble_eq_true rfl)) dL_law_335 ⟨(by show cells ≤ 601024; omega), (by show slots ≤ 7293034; omega)⟩) hAp hmM hW hS hA (fun r_2 st_2 H locs hw_2 hW hS => ?_)
  obtain ⟨n_2, hw_2⟩ := hw_2
  have hRel := rel_next (rX := r_1) (rM := r_2)  hRel hBX hIM n_1 n_2 hwf hw_1 hw_2
  have hBX := n_1.1
  have hIM := mInv.keep n_2 hIM
  refine lv_pop hx hb dL_law_338 rfl ?_
  refine lv_goto (tgt := 1028) hx hb dL_law_339 (by decide) ?_
  exact hnext st_1 st_2 f H _ ls (cells) (slots) hBX hIM hRel (by omega) (by omega) hW hS (lv_sub hl [0, 1, 2, 3, 4] rfl)
