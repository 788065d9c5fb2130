theorem gm_6 : (Jvm.Cond.initialized "java/util/Arrays") ∈ gz_T := gz_at 6 (by decide +kernel) rfl
theorem gm_7 : (Jvm.Cond.initialized "WellCourt$Day") ∈ gz_T := gz_at 7 (by decide +kernel) rfl
theorem gm_30 : (Jvm.Cond.instanceMethod ({ cls := "java/lang/Object", name := "<init>", desc := "()V" } : Jvm.MethodName)) ∈ gz_T := gz_at 30 (by decide +kernel) rfl
theorem gm_31 : (Jvm.Cond.code ({ cls := "java/lang/Object", name := "<init>", desc := "()V" } : Jvm.MethodName) object_method_1_code (1 : Nat) (Option.none : Option Jvm.ClassFile.FieldType)) ∈ gz_T := gz_at 31 (by decide +kernel) rfl
theorem gm_37 : (Jvm.Cond.methodLink "WellCourt$Tape" (3 : Nat) ({ cls := "java/lang/Object", name := "<init>", desc := "()V" } : Jvm.MethodName)) ∈ gz_T := gz_at 37 (by decide +kernel) rfl
theorem gm_38 : (Jvm.Cond.fieldLink "WellCourt$Tape" (9 : Nat) "WellCourt$Tape" "bytes" "[B") ∈ gz_T := gz_at 38 (by decide +kernel) rfl
theorem gm_39 : (Jvm.Cond.fieldLink "WellCourt$Tape" (15 : Nat) "WellCourt$Tape" "size" "I") ∈ gz_T := gz_at 39 (by decide +kernel) rfl
theorem gm_46 : (Jvm.Cond.arrayClass Jvm.ClassFile.FieldType.byte) ∈ gz_T := gz_at 46 (by decide +kernel) rfl
theorem gm_52 : (Jvm.Cond.methodLink "WellCourt$Reader" (3 : Nat) ({ cls := "java/lang/Object", name := "<init>", desc := "()V" } : Jvm.MethodName)) ∈ gz_T := gz_at 52 (by decide +kernel) rfl
theorem gm_53 : (Jvm.Cond.fieldLink "WellCourt$Reader" (27 : Nat) "WellCourt$Reader" "tape" "LWellCourt$Tape;") ∈ gz_T := gz_at 53 (by decide +kernel) rfl
theorem gm_54 : (Jvm.Cond.fieldLink "WellCourt$Reader" (11 : Nat) "WellCourt$Reader" "kind" "I") ∈ gz_T := gz_at 54 (by decide +kernel) rfl
theorem gm_55 : (Jvm.Cond.fieldLink "WellCourt$Reader" (15 : Nat) "WellCourt$Reader" "start" "I") ∈ gz_T := gz_at 55 (by decide +kernel) rfl
theorem gm_56 : (Jvm.Cond.fieldLink "WellCourt$Reader" (18 : Nat) "WellCourt$Reader" "stop" "I") ∈ gz_T := gz_at 56 (by decide +kernel) rfl
theorem gm_57 : (Jvm.Cond.fieldLink "WellCourt$Reader" (21 : Nat) "WellCourt$Reader" "faultKind" "I") ∈ gz_T := gz_at 57 (by decide +kernel) rfl
theorem gm_59 : (Jvm.Cond.fieldLink "WellCourt$Reader" (24 : Nat) "WellCourt$Reader" "faultPlace" "I") ∈ gz_T := gz_at 59 (by decide +kernel) rfl
theorem gm_79 : (Jvm.Cond.methodLink "WellCourt$Land" (3 : Nat) ({ cls := "java/lang/Object", name := "<init>", desc := "()V" } : Jvm.MethodName)) ∈ gz_T := gz_at 79 (by decide +kernel) rfl
theorem gm_80 : (Jvm.Cond.classLink "WellCourt$Land" (18 : Nat) "[[I") ∈ gz_T := gz_at 80 (by decide +kernel) rfl
theorem gm_82 : (Jvm.Cond.fieldLink "WellCourt$Land" (9 : Nat) "WellCourt$Land" "cap" "[I") ∈ gz_T := gz_at 82 (by decide +kernel) rfl
theorem gm_85 : (Jvm.Cond.fieldLink "WellCourt$Land" (15 : Nat) "WellCourt$Land" "rate" "[I") ∈ gz_T := gz_at 85 (by decide +kernel) rfl
theorem gm_88 : (Jvm.Cond.fieldLink "WellCourt$Land" (20 : Nat) "WellCourt$Land" "wayDays" "[[I") ∈ gz_T := gz_at 88 (by decide +kernel) rfl
theorem gm_98 : (Jvm.Cond.arrayClass Jvm.ClassFile.FieldType.int) ∈ gz_T := gz_at 98 (by decide +kernel) rfl
theorem gm_104 : (Jvm.Cond.methodLink "WellCourt$Calendar" (3 : Nat) ({ cls := "java/lang/Object", name := "<init>", desc := "()V" } : Jvm.MethodName)) ∈ gz_T := gz_at 104 (by decide +kernel) rfl
theorem gm_105 : (Jvm.Cond.classLink "WellCourt$Calendar" (9 : Nat) "[[I") ∈ gz_T := gz_at 105 (by decide +kernel) rfl
theorem gm_106 : (Jvm.Cond.methodLink "WellCourt$Calendar" (16 : Nat) ({ cls := "java/util/Arrays", name := "fill", desc := "([II)V" } : Jvm.MethodName)) ∈ gz_T := gz_at 106 (by decide +kernel) rfl
theorem gm_107 : (Jvm.Cond.static ({ cls := "java/util/Arrays", name := "fill", desc := "([II)V" } : Jvm.MethodName)) ∈ gz_T := gz_at 107 (by decide +kernel) rfl
theorem gm_108 : (Jvm.Cond.code ({ cls := "java/util/Arrays", name := "fill", desc := "([II)V" } : Jvm.MethodName) prog_22_method_103_code (4 : Nat) (Option.none : Option Jvm.ClassFile.FieldType)) ∈ gz_T := gz_at 108 (by decide +kernel) rfl
theorem gm_109 : (Jvm.Cond.fieldLink "WellCourt$Calendar" (11 : Nat) "WellCourt$Calendar" "owners" "[[I") ∈ gz_T := gz_at 109 (by decide +kernel) rfl
theorem gm_114 : (Jvm.Cond.instantiable "WellCourt$Day" (3 : Nat)) ∈ gz_T := gz_at 114 (by decide +kernel) rfl
theorem gm_116 : (Jvm.Cond.instanceMethod ({ cls := "WellCourt$Day", name := "<init>", desc := "()V" } : Jvm.MethodName)) ∈ gz_T := gz_at 116 (by decide +kernel) rfl
theorem gm_117 : (Jvm.Cond.code ({ cls := "WellCourt$Day", name := "<init>", desc := "()V" } : Jvm.MethodName) prog_3_method_1_code (1 : Nat) (Option.none : Option Jvm.ClassFile.FieldType)) ∈ gz_T := gz_at 117 (by decide +kernel) rfl
theorem gm_118 : (Jvm.Cond.methodLink "WellCourt$Day" (3 : Nat) ({ cls := "java/lang/Object", name := "<init>", desc := "()V" } : Jvm.MethodName)) ∈ gz_T := gz_at 118 (by decide +kernel) rfl
theorem gm_119 : (Jvm.Cond.methodLink "WellCourt$Day" (21 : Nat) ({ cls := "java/util/Arrays", name := "fill", desc := "([II)V" } : Jvm.MethodName)) ∈ gz_T := gz_at 119 (by decide +kernel) rfl
theorem gm_120 : (Jvm.Cond.fieldLink "WellCourt$Day" (9 : Nat) "WellCourt$Day" "level" "[I") ∈ gz_T := gz_at 120 (by decide +kernel) rfl
theorem gm_123 : (Jvm.Cond.fieldLink "WellCourt$Day" (15 : Nat) "WellCourt$Day" "morning" "[I") ∈ gz_T := gz_at 123 (by decide +kernel) rfl
theorem gm_125 : (Jvm.Cond.fieldLink "WellCourt$Day" (18 : Nat) "WellCourt$Day" "owner" "[I") ∈ gz_T := gz_at 125 (by decide +kernel) rfl
theorem gm_139 : (Jvm.Cond.methodLink "WellCourt$Ledger" (3 : Nat) ({ cls := "java/lang/Object", name := "<init>", desc := "()V" } : Jvm.MethodName)) ∈ gz_T := gz_at 139 (by decide +kernel) rfl
theorem gm_140 : (Jvm.Cond.classLink "WellCourt$Ledger" (9 : Nat) "[[I") ∈ gz_T := gz_at 140 (by decide +kernel) rfl
theorem gm_141 : (Jvm.Cond.fieldLink "WellCourt$Ledger" (11 : Nat) "WellCourt$Ledger" "facts" "[[I") ∈ gz_T := gz_at 141 (by decide +kernel) rfl
theorem gm_143 : (Jvm.Cond.fieldLink "WellCourt$Ledger" (16 : Nat) "WellCourt$Ledger" "size" "I") ∈ gz_T := gz_at 143 (by decide +kernel) rfl
theorem gm_155 : (Jvm.Cond.methodLink "WellCourt$Flock" (3 : Nat) ({ cls := "java/lang/Object", name := "<init>", desc := "()V" } : Jvm.MethodName)) ∈ gz_T := gz_at 155 (by decide +kernel) rfl
theorem gm_156 : (Jvm.Cond.methodLink "WellCourt$Flock" (27 : Nat) ({ cls := "java/util/Arrays", name := "fill", desc := "([II)V" } : Jvm.MethodName)) ∈ gz_T := gz_at 156 (by decide +kernel) rfl
theorem gm_157 : (Jvm.Cond.fieldLink "WellCourt$Flock" (9 : Nat) "WellCourt$Flock" "clan" "[I") ∈ gz_T := gz_at 157 (by decide +kernel) rfl
theorem gm_160 : (Jvm.Cond.fieldLink "WellCourt$Flock" (15 : Nat) "WellCourt$Flock" "need" "[I") ∈ gz_T := gz_at 160 (by decide +kernel) rfl
theorem gm_162 : (Jvm.Cond.fieldLink "WellCourt$Flock" (18 : Nat) "WellCourt$Flock" "lasts" "[I") ∈ gz_T := gz_at 162 (by decide +kernel) rfl
theorem gm_164 : (Jvm.Cond.fieldLink "WellCourt$Flock" (21 : Nat) "WellCourt$Flock" "place" "[I") ∈ gz_T := gz_at 164 (by decide +kernel) rfl
theorem gm_167 : (Jvm.Cond.fieldLink "WellCourt$Flock" (24 : Nat) "WellCourt$Flock" "drank" "[I") ∈ gz_T := gz_at 167 (by decide +kernel) rfl
theorem gm_186 : (Jvm.Cond.methodLink "WellCourt$Law" (3 : Nat) ({ cls := "java/lang/Object", name := "<init>", desc := "()V" } : Jvm.MethodName)) ∈ gz_T := gz_at 186 (by decide +kernel) rfl
theorem gm_187 : (Jvm.Cond.classLink "WellCourt$Law" (15 : Nat) "[[I") ∈ gz_T := gz_at 187 (by decide +kernel) rfl
theorem gm_188 : (Jvm.Cond.fieldLink "WellCourt$Law" (9 : Nat) "WellCourt$Law" "rules" "I") ∈ gz_T := gz_at 188 (by decide +kernel) rfl
theorem gm_191 : (Jvm.Cond.fieldLink "WellCourt$Law" (17 : Nat) "WellCourt$Law" "round" "[[I") ∈ gz_T := gz_at 191 (by decide +kernel) rfl
theorem gm_192 : (Jvm.Cond.fieldLink "WellCourt$Law" (20 : Nat) "WellCourt$Law" "roundDays" "[I") ∈ gz_T := gz_at 192 (by decide +kernel) rfl
theorem gm_193 : (Jvm.Cond.fieldLink "WellCourt$Law" (24 : Nat) "WellCourt$Law" "kin" "[I") ∈ gz_T := gz_at 193 (by decide +kernel) rfl
theorem gm_194 : (Jvm.Cond.fieldLink "WellCourt$Law" (27 : Nat) "WellCourt$Law" "dryFrom" "[I") ∈ gz_T := gz_at 194 (by decide +kernel) rfl
theorem gm_195 : (Jvm.Cond.fieldLink "WellCourt$Law" (30 : Nat) "WellCourt$Law" "droughts" "I") ∈ gz_T := gz_at 195 (by decide +kernel) rfl
theorem gm_196 : (Jvm.Cond.fieldLink "WellCourt$Law" (33 : Nat) "WellCourt$Law" "droughtWell" "[I") ∈ gz_T := gz_at 196 (by decide +kernel) rfl
theorem gm_197 : (Jvm.Cond.fieldLink "WellCourt$Law" (36 : Nat) "WellCourt$Law" "droughtBelow" "[I") ∈ gz_T := gz_at 197 (by decide +kernel) rfl
theorem gm_198 : (Jvm.Cond.fieldLink "WellCourt$Law" (39 : Nat) "WellCourt$Law" "droughtClan" "[I") ∈ gz_T := gz_at 198 (by decide +kernel) rfl
theorem gm_199 : (Jvm.Cond.fieldLink "WellCourt$Law" (42 : Nat) "WellCourt$Law" "guests" "I") ∈ gz_T := gz_at 199 (by decide +kernel) rfl
theorem gm_200 : (Jvm.Cond.fieldLink "WellCourt$Law" (45 : Nat) "WellCourt$Law" "guestClan" "[I") ∈ gz_T := gz_at 200 (by decide +kernel) rfl
theorem gm_201 : (Jvm.Cond.fieldLink "WellCourt$Law" (48 : Nat) "WellCourt$Law" "guestWell" "[I") ∈ gz_T := gz_at 201 (by decide +kernel) rfl
theorem gm_202 : (Jvm.Cond.fieldLink "WellCourt$Law" (51 : Nat) "WellCourt$Law" "guestHost" "[I") ∈ gz_T := gz_at 202 (by decide +kernel) rfl
theorem gm_203 : (Jvm.Cond.fieldLink "WellCourt$Law" (54 : Nat) "WellCourt$Law" "guestMany" "[I") ∈ gz_T := gz_at 203 (by decide +kernel) rfl
theorem gm_238 : (Jvm.Cond.methodLink "WellCourt$Planner" (5 : Nat) ({ cls := "java/lang/Object", name := "<init>", desc := "()V" } : Jvm.MethodName)) ∈ gz_T := gz_at 238 (by decide +kernel) rfl
theorem gm_239 : (Jvm.Cond.classLink "WellCourt$Planner" (15 : Nat) "WellCourt$Day") ∈ gz_T := gz_at 239 (by decide +kernel) rfl
theorem gm_241 : (Jvm.Cond.classLink "WellCourt$Planner" (21 : Nat) "[[I") ∈ gz_T := gz_at 241 (by decide +kernel) rfl
theorem gm_242 : (Jvm.Cond.methodLink "WellCourt$Planner" (67 : Nat) ({ cls := "WellCourt$Day", name := "<init>", desc := "()V" } : Jvm.MethodName)) ∈ gz_T := gz_at 242 (by decide +kernel) rfl
theorem gm_243 : (Jvm.Cond.fieldLink "WellCourt$Planner" (51 : Nat) "WellCourt$Planner" "land" "LWellCourt$Land;") ∈ gz_T := gz_at 243 (by decide +kernel) rfl
theorem gm_244 : (Jvm.Cond.fieldLink "WellCourt$Planner" (55 : Nat) "WellCourt$Planner" "calendar" "LWellCourt$Calendar;") ∈ gz_T := gz_at 244 (by decide +kernel) rfl
theorem gm_245 : (Jvm.Cond.fieldLink "WellCourt$Planner" (59 : Nat) "WellCourt$Planner" "flock" "LWellCourt$Flock;") ∈ gz_T := gz_at 245 (by decide +kernel) rfl
theorem gm_246 : (Jvm.Cond.fieldLink "WellCourt$Planner" (63 : Nat) "WellCourt$Planner" "law" "LWellCourt$Law;") ∈ gz_T := gz_at 246 (by decide +kernel) rfl
theorem gm_247 : (Jvm.Cond.fieldLink "WellCourt$Planner" (11 : Nat) "WellCourt$Planner" "date" "I") ∈ gz_T := gz_at 247 (by decide +kernel) rfl
theorem gm_248 : (Jvm.Cond.fieldLink "WellCourt$Planner" (17 : Nat) "WellCourt$Planner" "days" "[LWellCourt$Day;") ∈ gz_T := gz_at 248 (by decide +kernel) rfl
theorem gm_249 : (Jvm.Cond.fieldLink "WellCourt$Planner" (23 : Nat) "WellCourt$Planner" "place" "[[I") ∈ gz_T := gz_at 249 (by decide +kernel) rfl
theorem gm_250 : (Jvm.Cond.fieldLink "WellCourt$Planner" (26 : Nat) "WellCourt$Planner" "arrives" "[[I") ∈ gz_T := gz_at 250 (by decide +kernel) rfl
theorem gm_251 : (Jvm.Cond.fieldLink "WellCourt$Planner" (29 : Nat) "WellCourt$Planner" "drank" "[[I") ∈ gz_T := gz_at 251 (by decide +kernel) rfl
theorem gm_252 : (Jvm.Cond.fieldLink "WellCourt$Planner" (32 : Nat) "WellCourt$Planner" "acts" "[I") ∈ gz_T := gz_at 252 (by decide +kernel) rfl
theorem gm_253 : (Jvm.Cond.fieldLink "WellCourt$Planner" (36 : Nat) "WellCourt$Planner" "looks" "I") ∈ gz_T := gz_at 253 (by decide +kernel) rfl
theorem gm_255 : (Jvm.Cond.fieldLink "WellCourt$Planner" (39 : Nat) "WellCourt$Planner" "reach" "I") ∈ gz_T := gz_at 255 (by decide +kernel) rfl
theorem gm_257 : (Jvm.Cond.fieldLink "WellCourt$Planner" (42 : Nat) "WellCourt$Planner" "found" "[I") ∈ gz_T := gz_at 257 (by decide +kernel) rfl
theorem gm_258 : (Jvm.Cond.fieldLink "WellCourt$Planner" (45 : Nat) "WellCourt$Planner" "foundDate" "I") ∈ gz_T := gz_at 258 (by decide +kernel) rfl
theorem gm_259 : (Jvm.Cond.fieldLink "WellCourt$Planner" (48 : Nat) "WellCourt$Planner" "foundDays" "I") ∈ gz_T := gz_at 259 (by decide +kernel) rfl
theorem inX0 : ∀ w ∈ u_ws RX0 TX0 1, w ∈ gz_T := gz_inX [110] (by decide +kernel) (by decide +kernel)
theorem inX1 : ∀ w ∈ u_ws RX1 TX1 3, w ∈ gz_T := gz_inX [127, 129, 131] (by decide +kernel) (by decide +kernel)
theorem inX2 : ∀ w ∈ u_ws RX2 TX2 5, w ∈ gz_T := gz_inX [170, 172, 174, 176, 178] (by decide +kernel) (by decide +kernel)
theorem inX3 : ∀ w ∈ u_ws RX3 TX3 3, w ∈ gz_T := gz_inX [91, 93, 95] (by decide +kernel) (by decide +kernel)
theorem inX4 : ∀ w ∈ u_ws RX4 TX4 14, w ∈ gz_T := gz_inX [204, 206, 208, 210, 212, 214, 216, 218, 220, 222, 224, 226, 228, 230] (by decide +kernel) (by decide +kernel)
theorem inX5 : ∀ w ∈ u_ws RX5 TX5 2, w ∈ gz_T := gz_inX [145, 147] (by decide +kernel) (by decide +kernel)
theorem inX6 : ∀ w ∈ u_ws RX6 TX6 15, w ∈ gz_T := gz_inX [260, 262, 264, 266, 268, 270, 272, 274, 276, 278, 280, 282, 284, 286, 288] (by decide +kernel) (by decide +kernel)
theorem inX7 : ∀ w ∈ u_ws RX7 TX7 6, w ∈ gz_T := gz_inX [61, 63, 65, 67, 69, 71] (by decide +kernel) (by decide +kernel)
theorem inX8 : ∀ w ∈ u_ws RX8 TX8 2, w ∈ gz_T := gz_inX [41, 43] (by decide +kernel) (by decide +kernel)
theorem dfX1 : ∀ j, j < 3 → defaultValue (tyX1 j) = vp_V [.null, .null, .null] j := by decide +kernel
theorem dX0_init_0 : decode cX0_init 0 = .ok (.aload_n 0, 1) := by decide +kernel
theorem dX0_init_1 : decode cX0_init 1 = .ok (.invokespecial 3, 3) := by decide +kernel
theorem dX0_init_4 : decode cX0_init 4 = .ok (.aload_n 0, 1) := by decide +kernel
theorem dX0_init_5 : decode cX0_init 5 = .ok (.bipush 6, 2) := by decide +kernel
theorem dX0_init_7 : decode cX0_init 7 = .ok (.sipush 200, 3) := by decide +kernel
theorem dX0_init_10 : decode cX0_init 10 = .ok (.multianewarray 9 2, 4) := by decide +kernel
theorem dX0_init_14 : decode cX0_init 14 = .ok (.putfield 11, 3) := by decide +kernel
theorem dX0_init_17 : decode cX0_init 17 = .ok (.iconst 0, 1) := by decide +kernel
theorem dX0_init_18 : decode cX0_init 18 = .ok (.istore_n 1, 1) := by decide +kernel
theorem dX0_init_19 : decode cX0_init 19 = .ok (.iload_n 1, 1) := by decide +kernel
theorem dX0_init_20 : decode cX0_init 20 = .ok (.bipush 6, 2) := by decide +kernel
theorem dX0_init_22 : decode cX0_init 22 = .ok (.if_icmp .ge 19, 3) := by decide +kernel
theorem dX0_init_25 : decode cX0_init 25 = .ok (.aload_n 0, 1) := by decide +kernel
theorem dX0_init_26 : decode cX0_init 26 = .ok (.getfield 11, 3) := by decide +kernel
theorem dX0_init_29 : decode cX0_init 29 = .ok (.iload_n 1, 1) := by decide +kernel
theorem dX0_init_30 : decode cX0_init 30 = .ok (.aaload, 1) := by decide +kernel
theorem dX0_init_31 : decode cX0_init 31 = .ok (.iconst (-1), 1) := by decide +kernel
theorem dX0_init_32 : decode cX0_init 32 = .ok (.invokestatic 16, 3) := by decide +kernel
theorem dX0_init_35 : decode cX0_init 35 = .ok (.iinc 1 1, 3) := by decide +kernel
theorem dX0_init_38 : decode cX0_init 38 = .ok (.goto (-19), 3) := by decide +kernel
theorem dX0_init_41 : decode cX0_init 41 = .ok (.return_, 1) := by decide +kernel
theorem dX1_init_0 : decode cX1_init 0 = .ok (.aload_n 0, 1) := by decide +kernel
theorem dX1_init_1 : decode cX1_init 1 = .ok (.invokespecial 3, 3) := by decide +kernel
theorem dX1_init_4 : decode cX1_init 4 = .ok (.aload_n 0, 1) := by decide +kernel
theorem dX1_init_5 : decode cX1_init 5 = .ok (.bipush 6, 2) := by decide +kernel
theorem dX1_init_7 : decode cX1_init 7 = .ok (.newarray .int, 2) := by decide +kernel
theorem dX1_init_9 : decode cX1_init 9 = .ok (.putfield 9, 3) := by decide +kernel
theorem dX1_init_12 : decode cX1_init 12 = .ok (.aload_n 0, 1) := by decide +kernel
theorem dX1_init_13 : decode cX1_init 13 = .ok (.bipush 6, 2) := by decide +kernel
theorem dX1_init_15 : decode cX1_init 15 = .ok (.newarray .int, 2) := by decide +kernel
theorem dX1_init_17 : decode cX1_init 17 = .ok (.putfield 15, 3) := by decide +kernel
theorem dX1_init_20 : decode cX1_init 20 = .ok (.aload_n 0, 1) := by decide +kernel
theorem dX1_init_21 : decode cX1_init 21 = .ok (.bipush 6, 2) := by decide +kernel
theorem dX1_init_23 : decode cX1_init 23 = .ok (.newarray .int, 2) := by decide +kernel
theorem dX1_init_25 : decode cX1_init 25 = .ok (.putfield 18, 3) := by decide +kernel
theorem dX1_init_28 : decode cX1_init 28 = .ok (.aload_n 0, 1) := by decide +kernel
theorem dX1_init_29 : decode cX1_init 29 = .ok (.getfield 15, 3) := by decide +kernel
theorem dX1_init_32 : decode cX1_init 32 = .ok (.iconst (-1), 1) := by decide +kernel
theorem dX1_init_33 : decode cX1_init 33 = .ok (.invokestatic 21, 3) := by decide +kernel
theorem dX1_init_36 : decode cX1_init 36 = .ok (.aload_n 0, 1) := by decide +kernel
theorem dX1_init_37 : decode cX1_init 37 = .ok (.getfield 18, 3) := by decide +kernel
theorem dX1_init_40 : decode cX1_init 40 = .ok (.iconst (-1), 1) := by decide +kernel
theorem dX1_init_41 : decode cX1_init 41 = .ok (.invokestatic 21, 3) := by decide +kernel
theorem dX1_init_44 : decode cX1_init 44 = .ok (.return_, 1) := by decide +kernel
theorem dX2_init_0 : decode cX2_init 0 = .ok (.aload_n 0, 1) := by decide +kernel
theorem dX2_init_1 : decode cX2_init 1 = .ok (.invokespecial 3, 3) := by decide +kernel
theorem dX2_init_4 : decode cX2_init 4 = .ok (.aload_n 0, 1) := by decide +kernel
theorem dX2_init_5 : decode cX2_init 5 = .ok (.iconst 4, 1) := by decide +kernel
theorem dX2_init_6 : decode cX2_init 6 = .ok (.newarray .int, 2) := by decide +kernel
theorem dX2_init_8 : decode cX2_init 8 = .ok (.putfield 9, 3) := by decide +kernel
theorem dX2_init_11 : decode cX2_init 11 = .ok (.aload_n 0, 1) := by decide +kernel
theorem dX2_init_12 : decode cX2_init 12 = .ok (.iconst 4, 1) := by decide +kernel
theorem dX2_init_13 : decode cX2_init 13 = .ok (.newarray .int, 2) := by decide +kernel
theorem dX2_init_15 : decode cX2_init 15 = .ok (.putfield 15, 3) := by decide +kernel
theorem dX2_init_18 : decode cX2_init 18 = .ok (.aload_n 0, 1) := by decide +kernel
theorem dX2_init_19 : decode cX2_init 19 = .ok (.iconst 4, 1) := by decide +kernel
theorem dX2_init_20 : decode cX2_init 20 = .ok (.newarray .int, 2) := by decide +kernel
theorem dX2_init_22 : decode cX2_init 22 = .ok (.putfield 18, 3) := by decide +kernel
theorem dX2_init_25 : decode cX2_init 25 = .ok (.aload_n 0, 1) := by decide +kernel
theorem dX2_init_26 : decode cX2_init 26 = .ok (.iconst 4, 1) := by decide +kernel
theorem dX2_init_27 : decode cX2_init 27 = .ok (.newarray .int, 2) := by decide +kernel
theorem dX2_init_29 : decode cX2_init 29 = .ok (.putfield 21, 3) := by decide +kernel
theorem dX2_init_32 : decode cX2_init 32 = .ok (.aload_n 0, 1) := by decide +kernel
theorem dX2_init_33 : decode cX2_init 33 = .ok (.iconst 4, 1) := by decide +kernel
theorem dX2_init_34 : decode cX2_init 34 = .ok (.newarray .int, 2) := by decide +kernel
theorem dX2_init_36 : decode cX2_init 36 = .ok (.putfield 24, 3) := by decide +kernel
theorem dX2_init_39 : decode cX2_init 39 = .ok (.aload_n 0, 1) := by decide +kernel
theorem dX2_init_40 : decode cX2_init 40 = .ok (.getfield 9, 3) := by decide +kernel
theorem dX2_init_43 : decode cX2_init 43 = .ok (.iconst (-1), 1) := by decide +kernel
theorem dX2_init_44 : decode cX2_init 44 = .ok (.invokestatic 27, 3) := by decide +kernel
theorem dX2_init_47 : decode cX2_init 47 = .ok (.return_, 1) := by decide +kernel
theorem dX3_init_0 : decode cX3_init 0 = .ok (.aload_n 0, 1) := by decide +kernel
theorem dX3_init_1 : decode cX3_init 1 = .ok (.invokespecial 3, 3) := by decide +kernel
theorem dX3_init_4 : decode cX3_init 4 = .ok (.aload_n 0, 1) := by decide +kernel
theorem dX3_init_5 : decode cX3_init 5 = .ok (.bipush 6, 2) := by decide +kernel
theorem dX3_init_7 : decode cX3_init 7 = .ok (.newarray .int, 2) := by decide +kernel
theorem dX3_init_9 : decode cX3_init 9 = .ok (.putfield 9, 3) := by decide +kernel
theorem dX3_init_12 : decode cX3_init 12 = .ok (.aload_n 0, 1) := by decide +kernel
theorem dX3_init_13 : decode cX3_init 13 = .ok (.bipush 6, 2) := by decide +kernel
theorem dX3_init_15 : decode cX3_init 15 = .ok (.newarray .int, 2) := by decide +kernel
theorem dX3_init_17 : decode cX3_init 17 = .ok (.putfield 15, 3) := by decide +kernel
theorem dX3_init_20 : decode cX3_init 20 = .ok (.aload_n 0, 1) := by decide +kernel
theorem dX3_init_21 : decode cX3_init 21 = .ok (.bipush 6, 2) := by decide +kernel
theorem dX3_init_23 : decode cX3_init 23 = .ok (.bipush 6, 2) := by decide +kernel
theorem dX3_init_25 : decode cX3_init 25 = .ok (.multianewarray 18 2, 4) := by decide +kernel
theorem dX3_init_29 : decode cX3_init 29 = .ok (.putfield 20, 3) := by decide +kernel
theorem dX3_init_32 : decode cX3_init 32 = .ok (.return_, 1) := by decide +kernel
theorem dX4_init_0 : decode cX4_init 0 = .ok (.aload_n 0, 1) := by decide +kernel
theorem dX4_init_1 : decode cX4_init 1 = .ok (.invokespecial 3, 3) := by decide +kernel
theorem dX4_init_4 : decode cX4_init 4 = .ok (.aload_n 0, 1) := by decide +kernel
theorem dX4_init_5 : decode cX4_init 5 = .ok (.iconst 0, 1) := by decide +kernel
theorem dX4_init_6 : decode cX4_init 6 = .ok (.putfield 9, 3) := by decide +kernel
theorem dX4_init_9 : decode cX4_init 9 = .ok (.aload_n 0, 1) := by decide +kernel
theorem dX4_init_10 : decode cX4_init 10 = .ok (.bipush 6, 2) := by decide +kernel
theorem dX4_init_12 : decode cX4_init 12 = .ok (.bipush 72, 2) := by decide +kernel
theorem dX4_init_14 : decode cX4_init 14 = .ok (.multianewarray 15 2, 4) := by decide +kernel
theorem dX4_init_18 : decode cX4_init 18 = .ok (.putfield 17, 3) := by decide +kernel
theorem dX4_init_21 : decode cX4_init 21 = .ok (.aload_n 0, 1) := by decide +kernel
theorem dX4_init_22 : decode cX4_init 22 = .ok (.bipush 6, 2) := by decide +kernel
theorem dX4_init_24 : decode cX4_init 24 = .ok (.newarray .int, 2) := by decide +kernel
theorem dX4_init_26 : decode cX4_init 26 = .ok (.putfield 20, 3) := by decide +kernel
theorem dX4_init_29 : decode cX4_init 29 = .ok (.aload_n 0, 1) := by decide +kernel
theorem dX4_init_30 : decode cX4_init 30 = .ok (.bipush 6, 2) := by decide +kernel
theorem dX4_init_32 : decode cX4_init 32 = .ok (.newarray .int, 2) := by decide +kernel
theorem dX4_init_34 : decode cX4_init 34 = .ok (.putfield 24, 3) := by decide +kernel
theorem dX4_init_37 : decode cX4_init 37 = .ok (.aload_n 0, 1) := by decide +kernel
theorem dX4_init_38 : decode cX4_init 38 = .ok (.bipush 6, 2) := by decide +kernel
theorem dX4_init_40 : decode cX4_init 40 = .ok (.newarray .int, 2) := by decide +kernel
theorem dX4_init_42 : decode cX4_init 42 = .ok (.putfield 27, 3) := by decide +kernel
theorem dX4_init_45 : decode cX4_init 45 = .ok (.aload_n 0, 1) := by decide +kernel
theorem dX4_init_46 : decode cX4_init 46 = .ok (.iconst 0, 1) := by decide +kernel
theorem dX4_init_47 : decode cX4_init 47 = .ok (.putfield 30, 3) := by decide +kernel
theorem dX4_init_50 : decode cX4_init 50 = .ok (.aload_n 0, 1) := by decide +kernel
theorem dX4_init_51 : decode cX4_init 51 = .ok (.bipush 20, 2) := by decide +kernel
theorem dX4_init_53 : decode cX4_init 53 = .ok (.newarray .int, 2) := by decide +kernel
theorem dX4_init_55 : decode cX4_init 55 = .ok (.putfield 33, 3) := by decide +kernel
theorem dX4_init_58 : decode cX4_init 58 = .ok (.aload_n 0, 1) := by decide +kernel
theorem dX4_init_59 : decode cX4_init 59 = .ok (.bipush 20, 2) := by decide +kernel
theorem dX4_init_61 : decode cX4_init 61 = .ok (.newarray .int, 2) := by decide +kernel
theorem dX4_init_63 : decode cX4_init 63 = .ok (.putfield 36, 3) := by decide +kernel
theorem dX4_init_66 : decode cX4_init 66 = .ok (.aload_n 0, 1) := by decide +kernel
theorem dX4_init_67 : decode cX4_init 67 = .ok (.bipush 20, 2) := by decide +kernel
theorem dX4_init_69 : decode cX4_init 69 = .ok (.newarray .int, 2) := by decide +kernel
theorem dX4_init_71 : decode cX4_init 71 = .ok (.putfield 39, 3) := by decide +kernel
theorem dX4_init_74 : decode cX4_init 74 = .ok (.aload_n 0, 1) := by decide +kernel
theorem dX4_init_75 : decode cX4_init 75 = .ok (.iconst 0, 1) := by decide +kernel
theorem dX4_init_76 : decode cX4_init 76 = .ok (.putfield 42, 3) := by decide +kernel
theorem dX4_init_79 : decode cX4_init 79 = .ok (.aload_n 0, 1) := by decide +kernel
theorem dX4_init_80 : decode cX4_init 80 = .ok (.bipush 20, 2) := by decide +kernel
theorem dX4_init_82 : decode cX4_init 82 = .ok (.newarray .int, 2) := by decide +kernel
theorem dX4_init_84 : decode cX4_init 84 = .ok (.putfield 45, 3) := by decide +kernel
theorem dX4_init_87 : decode cX4_init 87 = .ok (.aload_n 0, 1) := by decide +kernel
theorem dX4_init_88 : decode cX4_init 88 = .ok (.bipush 20, 2) := by decide +kernel
theorem dX4_init_90 : decode cX4_init 90 = .ok (.newarray .int, 2) := by decide +kernel
theorem dX4_init_92 : decode cX4_init 92 = .ok (.putfield 48, 3) := by decide +kernel
theorem dX4_init_95 : decode cX4_init 95 = .ok (.aload_n 0, 1) := by decide +kernel
theorem dX4_init_96 : decode cX4_init 96 = .ok (.bipush 20, 2) := by decide +kernel
theorem dX4_init_98 : decode cX4_init 98 = .ok (.newarray .int, 2) := by decide +kernel
theorem dX4_init_100 : decode cX4_init 100 = .ok (.putfield 51, 3) := by decide +kernel
theorem dX4_init_103 : decode cX4_init 103 = .ok (.aload_n 0, 1) := by decide +kernel
theorem dX4_init_104 : decode cX4_init 104 = .ok (.bipush 20, 2) := by decide +kernel
theorem dX4_init_106 : decode cX4_init 106 = .ok (.newarray .int, 2) := by decide +kernel
theorem dX4_init_108 : decode cX4_init 108 = .ok (.putfield 54, 3) := by decide +kernel
theorem dX4_init_111 : decode cX4_init 111 = .ok (.return_, 1) := by decide +kernel
theorem dX5_init_0 : decode cX5_init 0 = .ok (.aload_n 0, 1) := by decide +kernel
theorem dX5_init_1 : decode cX5_init 1 = .ok (.invokespecial 3, 3) := by decide +kernel
theorem dX5_init_4 : decode cX5_init 4 = .ok (.aload_n 0, 1) := by decide +kernel
theorem dX5_init_5 : decode cX5_init 5 = .ok (.bipush 6, 2) := by decide +kernel
theorem dX5_init_7 : decode cX5_init 7 = .ok (.sipush 300, 3) := by decide +kernel
theorem dX5_init_10 : decode cX5_init 10 = .ok (.multianewarray 9 2, 4) := by decide +kernel
theorem dX5_init_14 : decode cX5_init 14 = .ok (.putfield 11, 3) := by decide +kernel
theorem dX5_init_17 : decode cX5_init 17 = .ok (.aload_n 0, 1) := by decide +kernel
theorem dX5_init_18 : decode cX5_init 18 = .ok (.iconst 0, 1) := by decide +kernel
theorem dX5_init_19 : decode cX5_init 19 = .ok (.putfield 16, 3) := by decide +kernel
theorem dX5_init_22 : decode cX5_init 22 = .ok (.return_, 1) := by decide +kernel
theorem dX6_init_0 : decode cX6_init 0 = .ok (.aload_n 0, 1) := by decide +kernel
theorem dX6_init_1 : decode cX6_init 1 = .ok (.invokespecial 5, 3) := by decide +kernel
theorem dX6_init_4 : decode cX6_init 4 = .ok (.aload_n 0, 1) := by decide +kernel
theorem dX6_init_5 : decode cX6_init 5 = .ok (.iconst 0, 1) := by decide +kernel
theorem dX6_init_6 : decode cX6_init 6 = .ok (.putfield 11, 3) := by decide +kernel
theorem dX6_init_9 : decode cX6_init 9 = .ok (.aload_n 0, 1) := by decide +kernel
theorem dX6_init_10 : decode cX6_init 10 = .ok (.bipush 15, 2) := by decide +kernel
theorem dX6_init_12 : decode cX6_init 12 = .ok (.anewarray 15, 3) := by decide +kernel
theorem dX6_init_15 : decode cX6_init 15 = .ok (.putfield 17, 3) := by decide +kernel
theorem dX6_init_18 : decode cX6_init 18 = .ok (.aload_n 0, 1) := by decide +kernel
theorem dX6_init_19 : decode cX6_init 19 = .ok (.bipush 15, 2) := by decide +kernel
theorem dX6_init_21 : decode cX6_init 21 = .ok (.iconst 4, 1) := by decide +kernel
theorem dX6_init_22 : decode cX6_init 22 = .ok (.multianewarray 21 2, 4) := by decide +kernel
theorem dX6_init_26 : decode cX6_init 26 = .ok (.putfield 23, 3) := by decide +kernel
theorem dX6_init_29 : decode cX6_init 29 = .ok (.aload_n 0, 1) := by decide +kernel
theorem dX6_init_30 : decode cX6_init 30 = .ok (.bipush 15, 2) := by decide +kernel
theorem dX6_init_32 : decode cX6_init 32 = .ok (.iconst 4, 1) := by decide +kernel
theorem dX6_init_33 : decode cX6_init 33 = .ok (.multianewarray 21 2, 4) := by decide +kernel
theorem dX6_init_37 : decode cX6_init 37 = .ok (.putfield 26, 3) := by decide +kernel
theorem dX6_init_40 : decode cX6_init 40 = .ok (.aload_n 0, 1) := by decide +kernel
theorem dX6_init_41 : decode cX6_init 41 = .ok (.bipush 15, 2) := by decide +kernel
theorem dX6_init_43 : decode cX6_init 43 = .ok (.iconst 4, 1) := by decide +kernel
theorem dX6_init_44 : decode cX6_init 44 = .ok (.multianewarray 21 2, 4) := by decide +kernel
theorem dX6_init_48 : decode cX6_init 48 = .ok (.putfield 29, 3) := by decide +kernel
theorem dX6_init_51 : decode cX6_init 51 = .ok (.aload_n 0, 1) := by decide +kernel
theorem dX6_init_52 : decode cX6_init 52 = .ok (.bipush 56, 2) := by decide +kernel
theorem dX6_init_54 : decode cX6_init 54 = .ok (.newarray .int, 2) := by decide +kernel
theorem dX6_init_56 : decode cX6_init 56 = .ok (.putfield 32, 3) := by decide +kernel
theorem dX6_init_59 : decode cX6_init 59 = .ok (.aload_n 0, 1) := by decide +kernel
theorem dX6_init_60 : decode cX6_init 60 = .ok (.iconst 0, 1) := by decide +kernel
theorem dX6_init_61 : decode cX6_init 61 = .ok (.putfield 36, 3) := by decide +kernel
theorem dX6_init_64 : decode cX6_init 64 = .ok (.aload_n 0, 1) := by decide +kernel
theorem dX6_init_65 : decode cX6_init 65 = .ok (.iconst 0, 1) := by decide +kernel
theorem dX6_init_66 : decode cX6_init 66 = .ok (.putfield 39, 3) := by decide +kernel
theorem dX6_init_69 : decode cX6_init 69 = .ok (.aload_n 0, 1) := by decide +kernel
theorem dX6_init_70 : decode cX6_init 70 = .ok (.bipush 56, 2) := by decide +kernel
theorem dX6_init_72 : decode cX6_init 72 = .ok (.newarray .int, 2) := by decide +kernel
theorem dX6_init_74 : decode cX6_init 74 = .ok (.putfield 42, 3) := by decide +kernel
theorem dX6_init_77 : decode cX6_init 77 = .ok (.aload_n 0, 1) := by decide +kernel
theorem dX6_init_78 : decode cX6_init 78 = .ok (.iconst 0, 1) := by decide +kernel
theorem dX6_init_79 : decode cX6_init 79 = .ok (.putfield 45, 3) := by decide +kernel
theorem dX6_init_82 : decode cX6_init 82 = .ok (.aload_n 0, 1) := by decide +kernel
theorem dX6_init_83 : decode cX6_init 83 = .ok (.iconst 0, 1) := by decide +kernel
theorem dX6_init_84 : decode cX6_init 84 = .ok (.putfield 48, 3) := by decide +kernel
theorem dX6_init_87 : decode cX6_init 87 = .ok (.aload_n 0, 1) := by decide +kernel
theorem dX6_init_88 : decode cX6_init 88 = .ok (.aload_n 1, 1) := by decide +kernel
theorem dX6_init_89 : decode cX6_init 89 = .ok (.putfield 51, 3) := by decide +kernel
theorem dX6_init_92 : decode cX6_init 92 = .ok (.aload_n 0, 1) := by decide +kernel
theorem dX6_init_93 : decode cX6_init 93 = .ok (.aload_n 2, 1) := by decide +kernel
theorem dX6_init_94 : decode cX6_init 94 = .ok (.putfield 55, 3) := by decide +kernel
theorem dX6_init_97 : decode cX6_init 97 = .ok (.aload_n 0, 1) := by decide +kernel
theorem dX6_init_98 : decode cX6_init 98 = .ok (.aload_n 3, 1) := by decide +kernel
theorem dX6_init_99 : decode cX6_init 99 = .ok (.putfield 59, 3) := by decide +kernel
theorem dX6_init_102 : decode cX6_init 102 = .ok (.aload_n 0, 1) := by decide +kernel
theorem dX6_init_103 : decode cX6_init 103 = .ok (.aload 4, 2) := by decide +kernel
theorem dX6_init_105 : decode cX6_init 105 = .ok (.putfield 63, 3) := by decide +kernel
theorem dX6_init_108 : decode cX6_init 108 = .ok (.iconst 0, 1) := by decide +kernel
theorem dX6_init_109 : decode cX6_init 109 = .ok (.istore 5, 2) := by decide +kernel
theorem dX6_init_111 : decode cX6_init 111 = .ok (.iload 5, 2) := by decide +kernel
theorem dX6_init_113 : decode cX6_init 113 = .ok (.bipush 14, 2) := by decide +kernel
theorem dX6_init_115 : decode cX6_init 115 = .ok (.if_icmp .gt 23, 3) := by decide +kernel
theorem dX6_init_118 : decode cX6_init 118 = .ok (.aload_n 0, 1) := by decide +kernel
theorem dX6_init_119 : decode cX6_init 119 = .ok (.getfield 17, 3) := by decide +kernel
theorem dX6_init_122 : decode cX6_init 122 = .ok (.iload 5, 2) := by decide +kernel
theorem dX6_init_124 : decode cX6_init 124 = .ok (.new 15, 3) := by decide +kernel
theorem dX6_init_127 : decode cX6_init 127 = .ok (.dup, 1) := by decide +kernel
theorem dX6_init_128 : decode cX6_init 128 = .ok (.invokespecial 67, 3) := by decide +kernel
theorem dX6_init_131 : decode cX6_init 131 = .ok (.aastore, 1) := by decide +kernel
theorem dX6_init_132 : decode cX6_init 132 = .ok (.iinc 5 1, 3) := by decide +kernel
theorem dX6_init_135 : decode cX6_init 135 = .ok (.goto (-24), 3) := by decide +kernel
theorem dX6_init_138 : decode cX6_init 138 = .ok (.return_, 1) := by decide +kernel
theorem dX7_init_0 : decode cX7_init 0 = .ok (.aload_n 0, 1) := by decide +kernel
theorem dX7_init_1 : decode cX7_init 1 = .ok (.invokespecial 3, 3) := by decide +kernel
theorem dX7_init_4 : decode cX7_init 4 = .ok (.aload_n 0, 1) := by decide +kernel
theorem dX7_init_5 : decode cX7_init 5 = .ok (.iconst 0, 1) := by decide +kernel
theorem dX7_init_6 : decode cX7_init 6 = .ok (.putfield 11, 3) := by decide +kernel
theorem dX7_init_9 : decode cX7_init 9 = .ok (.aload_n 0, 1) := by decide +kernel
theorem dX7_init_10 : decode cX7_init 10 = .ok (.iconst 0, 1) := by decide +kernel
theorem dX7_init_11 : decode cX7_init 11 = .ok (.putfield 15, 3) := by decide +kernel
theorem dX7_init_14 : decode cX7_init 14 = .ok (.aload_n 0, 1) := by decide +kernel
theorem dX7_init_15 : decode cX7_init 15 = .ok (.iconst 0, 1) := by decide +kernel
theorem dX7_init_16 : decode cX7_init 16 = .ok (.putfield 18, 3) := by decide +kernel
theorem dX7_init_19 : decode cX7_init 19 = .ok (.aload_n 0, 1) := by decide +kernel
theorem dX7_init_20 : decode cX7_init 20 = .ok (.iconst 0, 1) := by decide +kernel
theorem dX7_init_21 : decode cX7_init 21 = .ok (.putfield 21, 3) := by decide +kernel
theorem dX7_init_24 : decode cX7_init 24 = .ok (.aload_n 0, 1) := by decide +kernel
theorem dX7_init_25 : decode cX7_init 25 = .ok (.iconst 0, 1) := by decide +kernel
theorem dX7_init_26 : decode cX7_init 26 = .ok (.putfield 24, 3) := by decide +kernel
theorem dX7_init_29 : decode cX7_init 29 = .ok (.aload_n 0, 1) := by decide +kernel
theorem dX7_init_30 : decode cX7_init 30 = .ok (.aload_n 1, 1) := by decide +kernel
theorem dX7_init_31 : decode cX7_init 31 = .ok (.putfield 27, 3) := by decide +kernel
theorem dX7_init_34 : decode cX7_init 34 = .ok (.return_, 1) := by decide +kernel
theorem dX8_init_0 : decode cX8_init 0 = .ok (.aload_n 0, 1) := by decide +kernel
theorem dX8_init_1 : decode cX8_init 1 = .ok (.invokespecial 3, 3) := by decide +kernel
theorem dX8_init_4 : decode cX8_init 4 = .ok (.aload_n 0, 1) := by decide +kernel
theorem dX8_init_5 : decode cX8_init 5 = .ok (.sipush 800, 3) := by decide +kernel
theorem dX8_init_8 : decode cX8_init 8 = .ok (.newarray .byte, 2) := by decide +kernel
theorem dX8_init_10 : decode cX8_init 10 = .ok (.putfield 9, 3) := by decide +kernel
theorem dX8_init_13 : decode cX8_init 13 = .ok (.aload_n 0, 1) := by decide +kernel
theorem dX8_init_14 : decode cX8_init 14 = .ok (.iconst 0, 1) := by decide +kernel
theorem dX8_init_15 : decode cX8_init 15 = .ok (.putfield 15, 3) := by decide +kernel
theorem dX8_init_18 : decode cX8_init 18 = .ok (.return_, 1) := by decide +kernel
set_option maxHeartbeats 4000000 in
set_option maxRecDepth 100000 in
/-- WellCourt$Tape.<init> -/
theorem c_X8_init (l : Launch) (G : va_G) (cy : Nat → ClassId) (sz : Nat) (h0 : Nat)  : gMv l yX8_init cX8_init 1 ({ frames := 1, cells := 1, slots := 800, locals := 20 }) G cy sz [.ref h0] [(h0, .inr (8, [.null, .int 0]))] (fun (u : (Nat → Nat)) => True) (fun (u : (Nat → Nat)) => [(h0, .inr (8, [.ref (u 0), .int 0])), ((u 0), .inl (cy 1, 800, .inl (fun _ => 0)))]) := by
  refine gz_start (fun A => gQv G cy _ _ A) (by decide) (Nat.le_of_ble_eq_true rfl) ?_
  intro p e s m below meth c A ls H hx hb hr hml hlocks hin hown hts hK hov hsz hP hD hS hA hl
  have hl : lv_has ls 1 [(0, .ref h0)] := hl
  refine lv_aload_n hx hb dX8_init_0 rfl (lv_at hl 0 rfl) ?_
  refine W.objInit hx hb hown (hts _ gm_37) (hts _ gm_30) (hts _ gm_31) rfl (by rw [hml]; exact hl.1) rfl dX8_init_1 (Nat.le_of_ble_eq_true rfl) (Nat.le_of_ble_eq_true rfl) ?_
  refine W.eq (g2 := F0 m 4 ls []) rfl ?_
  refine lv_aload_n hx hb dX8_init_4 rfl (lv_at hl 0 rfl) ?_
  refine lv_sipush (v := 800) hx hb dX8_init_5 (by decide) ?_
  refine gz_newa (atype := .byte) (t0 := 1) (a0 := (800, .inl (fun _ => 0))) hx hb rfl (fun _ _ h9 => h9) (hts _ gm_46) rfl hK hP hD hS hA (fun _ => rfl) (by decide) (by decide) (Nat.le_of_ble_eq_true rfl) (Nat.le_of_ble_eq_true rfl) (Nat.le_of_ble_eq_true rfl) dX8_init_8 (fun q_1 H hP hD hS => ?_)
  have hP : va_P G vwCl [(h0, .inr (8, [.null, .int 0])), (q_1, .inl (cy 1, 800, .inl (fun _ => 0)))] H := hP
  have hD : va_D A [(h0, .inr (8, [.null, .int 0])), (q_1, .inl (cy 1, 800, .inl (fun _ => 0)))] := hD
  refine W.widen (k := 1) (n := 800) (Nat.le_of_ble_eq_true rfl) (Nat.le_of_ble_eq_true rfl) ?_
  refine va_putF (ci := 8) (v := .ref q_1) (ty := .array .byte) (C := RX8) (T := TX8) (N := 2) hx hb hts inX8 tyX8 tyX8_ok nmX8 hown hK hP hD hS 0 rfl rfl 0 (by decide) (hts _ gm_38) (fun _ h9 => h9) rfl hin rfl (by decide +kernel) rfl rfl (Nat.le_of_ble_eq_true rfl) dX8_init_10 (fun H locs hP hD hS => ?_)
  have hP : va_P G vwCl [(h0, .inr (8, [.ref q_1, .int 0])), (q_1, .inl (cy 1, 800, .inl (fun _ => 0)))] H := hP
  have hD : va_D A [(h0, .inr (8, [.ref q_1, .int 0])), (q_1, .inl (cy 1, 800, .inl (fun _ => 0)))] := hD
  refine lv_aload_n hx hb dX8_init_13 rfl (lv_at hl 0 rfl) ?_
  refine lv_iconst (v := 0) hx hb dX8_init_14 (by decide) ?_
  refine va_put (ci := 8) (v := .int 0) (ty := .int) (C := RX8) (T := TX8) (N := 2) hx hb hts inX8 tyX8 tyX8_ok nmX8 hown hK hP hD hS 0 rfl rfl 1 (by decide) (hts _ gm_39) (fun _ h9 => h9) rfl (by decide +kernel) rfl rfl (Nat.le_of_ble_eq_true rfl) dX8_init_15 (fun H locs hP hD hS => ?_)
  have hP : va_P G vwCl [(h0, .inr (8, [.ref q_1, .int 0])), (q_1, .inl (cy 1, 800, .inl (fun _ => 0)))] H := hP
  have hD : va_D A [(h0, .inr (8, [.ref q_1, .int 0])), (q_1, .inl (cy 1, 800, .inl (fun _ => 0)))] := hD
  exact gz_vret (cf := (fun (u : (Nat → Nat)) => [(h0, .inr (8, [.ref (u 0), .int 0])), ((u 0), .inl (cy 1, 800, .inl (fun _ => 0)))])) (post := (fun (u : (Nat → Nat)) => True)) hx hb hr hlocks hK hP hD hS (fun k => match k with | 0 => q_1 | _ => 0) [0, 1] trivial (by decide) rfl (Nat.le_of_ble_eq_true rfl) (Nat.le_of_ble_eq_true rfl) dX8_init_18

set_option maxHeartbeats 4000000 in
set_option maxRecDepth 100000 in
/-- WellCourt$Reader.<init> -/
theorem c_X7_init (l : Launch) (G : va_G) (cy : Nat → ClassId) (sz : Nat) (h0 : Nat) (h1 : Nat)  : gMv l yX7_init cX7_init 2 ({ frames := 1, cells := 0, slots := 0, locals := 20 }) G cy sz [.ref h0, .ref h1] [(h0, .inr (7, [.null, .int 0, .int 0, .int 0, .int 0, .int 0]))] (fun (u : Unit) => True) (fun (u : Unit) => [(h0, .inr (7, [.ref h1, .int 0, .int 0, .int 0, .int 0, .int 0]))]) := by
  refine gz_start (fun A => gQv G cy _ _ A) (by decide) (Nat.le_of_ble_eq_true rfl) ?_
  intro p e s m below meth c A ls H hx hb hr hml hlocks hin hown hts hK hov hsz hP hD hS hA hl
  have hl : lv_has ls 2 [(0, .ref h0), (1, .ref h1)] := hl
  refine lv_aload_n hx hb dX7_init_0 rfl (lv_at hl 0 rfl) ?_
  refine W.objInit hx hb hown (hts _ gm_52) (hts _ gm_30) (hts _ gm_31) rfl (by rw [hml]; exact hl.1) rfl dX7_init_1 (Nat.le_of_ble_eq_true rfl) (Nat.le_of_ble_eq_true rfl) ?_
  refine W.eq (g2 := F0 m 4 ls []) rfl ?_
  refine lv_aload_n hx hb dX7_init_4 rfl (lv_at hl 0 rfl) ?_
  refine lv_iconst (v := 0) hx hb dX7_init_5 (by decide) ?_
  refine va_put (ci := 7) (v := .int 0) (ty := .int) (C := RX7) (T := TX7) (N := 6) hx hb hts inX7 tyX7 tyX7_ok nmX7 hown hK hP hD hS 0 rfl rfl 1 (by decide) (hts _ gm_54) (fun _ h9 => h9) rfl (by decide +kernel) rfl rfl (Nat.le_of_ble_eq_true rfl) dX7_init_6 (fun H locs hP hD hS => ?_)
  have hP : va_P G vwCl [(h0, .inr (7, [.null, .int 0, .int 0, .int 0, .int 0, .int 0]))] H := hP
  have hD : va_D A [(h0, .inr (7, [.null, .int 0, .int 0, .int 0, .int 0, .int 0]))] := hD
  refine lv_aload_n hx hb dX7_init_9 rfl (lv_at hl 0 rfl) ?_
  refine lv_iconst (v := 0) hx hb dX7_init_10 (by decide) ?_
  refine va_put (ci := 7) (v := .int 0) (ty := .int) (C := RX7) (T := TX7) (N := 6) hx hb hts inX7 tyX7 tyX7_ok nmX7 hown hK hP hD hS 0 rfl rfl 2 (by decide) (hts _ gm_55) (fun _ h9 => h9) rfl (by decide +kernel) rfl rfl (Nat.le_of_ble_eq_true rfl) dX7_init_11 (fun H locs hP hD hS => ?_)
  have hP : va_P G vwCl [(h0, .inr (7, [.null, .int 0, .int 0, .int 0, .int 0, .int 0]))] H := hP
  have hD : va_D A [(h0, .inr (7, [.null, .int 0, .int 0, .int 0, .int 0, .int 0]))] := hD
  refine lv_aload_n hx hb dX7_init_14 rfl (lv_at hl 0 rfl) ?_
  refine lv_iconst (v := 0) hx hb dX7_init_15 (by decide) ?_
  refine va_put (ci := 7) (v := .int 0) (ty := .int) (C := RX7) (T := TX7) (N := 6) hx hb hts inX7 tyX7 tyX7_ok nmX7 hown hK hP hD hS 0 rfl rfl 3 (by decide) (hts _ gm_56) (fun _ h9 => h9) rfl (by decide +kernel) rfl rfl (Nat.le_of_ble_eq_true rfl) dX7_init_16 (fun H locs hP hD hS => ?_)
  have hP : va_P G vwCl [(h0, .inr (7, [.null, .int 0, .int 0, .int 0, .int 0, .int 0]))] H := hP
  have hD : va_D A [(h0, .inr (7, [.null, .int 0, .int 0, .int 0, .int 0, .int 0]))] := hD
  refine lv_aload_n hx hb dX7_init_19 rfl (lv_at hl 0 rfl) ?_
  refine lv_iconst (v := 0) hx hb dX7_init_20 (by decide) ?_
  refine va_put (ci := 7) (v := .int 0) (ty := .int) (C := RX7) (T := TX7) (N := 6) hx hb hts inX7 tyX7 tyX7_ok nmX7 hown hK hP hD hS 0 rfl rfl 4 (by decide) (hts _ gm_57) (fun _ h9 => h9) rfl (by decide +kernel) rfl rfl (Nat.le_of_ble_eq_true rfl) dX7_init_21 (fun H locs hP hD hS => ?_)
  have hP : va_P G vwCl [(h0, .inr (7, [.null, .int 0, .int 0, .int 0, .int 0, .int 0]))] H := hP
  have hD : va_D A [(h0, .inr (7, [.null, .int 0, .int 0, .int 0, .int 0, .int 0]))] := hD
  refine lv_aload_n hx hb dX7_init_24 rfl (lv_at hl 0 rfl) ?_
  refine lv_iconst (v := 0) hx hb dX7_init_25 (by decide) ?_
  refine va_put (ci := 7) (v := .int 0) (ty := .int) (C := RX7) (T := TX7) (N := 6) hx hb hts inX7 tyX7 tyX7_ok nmX7 hown hK hP hD hS 0 rfl rfl 5 (by decide) (hts _ gm_59) (fun _ h9 => h9) rfl (by decide +kernel) rfl rfl (Nat.le_of_ble_eq_true rfl) dX7_init_26 (fun H locs hP hD hS => ?_)
  have hP : va_P G vwCl [(h0, .inr (7, [.null, .int 0, .int 0, .int 0, .int 0, .int 0]))] H := hP
  have hD : va_D A [(h0, .inr (7, [.null, .int 0, .int 0, .int 0, .int 0, .int 0]))] := hD
  refine lv_aload_n hx hb dX7_init_29 rfl (lv_at hl 0 rfl) ?_
  refine lv_aload_n hx hb dX7_init_30 rfl (lv_at hl 1 rfl) ?_
  refine va_putF (ci := 7) (v := .ref h1) (ty := .object "WellCourt$Tape") (C := RX7) (T := TX7) (N := 6) hx hb hts inX7 tyX7 tyX7_ok nmX7 hown hK hP hD hS 0 rfl rfl 0 (by decide) (hts _ gm_53) (fun _ h9 => h9) rfl hin rfl (by decide +kernel) rfl rfl (Nat.le_of_ble_eq_true rfl) dX7_init_31 (fun H locs hP hD hS => ?_)
  have hP : va_P G vwCl [(h0, .inr (7, [.ref h1, .int 0, .int 0, .int 0, .int 0, .int 0]))] H := hP
  have hD : va_D A [(h0, .inr (7, [.ref h1, .int 0, .int 0, .int 0, .int 0, .int 0]))] := hD
  exact gz_vret (cf := (fun (u : Unit) => [(h0, .inr (7, [.ref h1, .int 0, .int 0, .int 0, .int 0, .int 0]))])) (post := (fun (u : Unit) => True)) hx hb hr hlocks hK hP hD hS () [0] trivial (by decide) rfl (Nat.le_of_ble_eq_true rfl) (Nat.le_of_ble_eq_true rfl) dX7_init_34

set_option maxHeartbeats 4000000 in
set_option maxRecDepth 100000 in
/-- WellCourt$Land.<init> -/
theorem c_X3_init (l : Launch) (G : va_G) (cy : Nat → ClassId) (sz : Nat) (h0 : Nat)  : gMv l yX3_init cX3_init 1 ({ frames := 1, cells := 9, slots := 54, locals := 20 }) G cy sz [.ref h0] [(h0, .inr (3, [.null, .null, .null]))] (fun (u : (Nat → Nat) × (Nat → Nat)) => True) (fun (u : (Nat → Nat) × (Nat → Nat)) => [(h0, .inr (3, [.ref (u.1 0), .ref (u.1 1), .ref (u.1 2)])), ((u.1 0), .inl (cy 0, 6, .inl (fun _ => 0))), ((u.1 1), .inl (cy 0, 6, .inl (fun _ => 0))), ((u.1 2), .inl (cy 3, 6, .inr (.inr (.inr (.inr (fun i => if i < 6 then some (u.2 i) else none)))))), ((u.2 0), .inl (cy 0, 6, .inl (fun _ => 0))), ((u.2 1), .inl (cy 0, 6, .inl (fun _ => 0))), ((u.2 2), .inl (cy 0, 6, .inl (fun _ => 0))), ((u.2 3), .inl (cy 0, 6, .inl (fun _ => 0))), ((u.2 4), .inl (cy 0, 6, .inl (fun _ => 0))), ((u.2 5), .inl (cy 0, 6, .inl (fun _ => 0)))]) := by
  refine gz_start (fun A => gQv G cy _ _ A) (by decide) (Nat.le_of_ble_eq_true rfl) ?_
  intro p e s m below meth c A ls H hx hb hr hml hlocks hin hown hts hK hov hsz hP hD hS hA hl
  have hl : lv_has ls 1 [(0, .ref h0)] := hl
  refine lv_aload_n hx hb dX3_init_0 rfl (lv_at hl 0 rfl) ?_
  refine W.objInit hx hb hown (hts _ gm_79) (hts _ gm_30) (hts _ gm_31) rfl (by rw [hml]; exact hl.1) rfl dX3_init_1 (Nat.le_of_ble_eq_true rfl) (Nat.le_of_ble_eq_true rfl) ?_
  refine W.eq (g2 := F0 m 4 ls []) rfl ?_
  refine lv_aload_n hx hb dX3_init_4 rfl (lv_at hl 0 rfl) ?_
  refine lv_bipush (v := 6) hx hb dX3_init_5 (by decide) ?_
  refine gz_newa (atype := .int) (t0 := 0) (a0 := (6, .inl (fun _ => 0))) hx hb rfl (fun _ _ h9 => h9) (hts _ gm_98) rfl hK hP hD hS hA (fun _ => rfl) (by decide) (by decide) (Nat.le_of_ble_eq_true rfl) (Nat.le_of_ble_eq_true rfl) (Nat.le_of_ble_eq_true rfl) dX3_init_7 (fun q_1 H hP hD hS => ?_)
  have hP : va_P G vwCl [(h0, .inr (3, [.null, .null, .null])), (q_1, .inl (cy 0, 6, .inl (fun _ => 0)))] H := hP
  have hD : va_D A [(h0, .inr (3, [.null, .null, .null])), (q_1, .inl (cy 0, 6, .inl (fun _ => 0)))] := hD
  refine W.widen (k := 1) (n := 6) (Nat.le_of_ble_eq_true rfl) (Nat.le_of_ble_eq_true rfl) ?_
  refine va_putF (ci := 3) (v := .ref q_1) (ty := .array .int) (C := RX3) (T := TX3) (N := 3) hx hb hts inX3 tyX3 tyX3_ok nmX3 hown hK hP hD hS 0 rfl rfl 0 (by decide) (hts _ gm_82) (fun _ h9 => h9) rfl hin rfl (by decide +kernel) rfl rfl (Nat.le_of_ble_eq_true rfl) dX3_init_9 (fun H locs hP hD hS => ?_)
  have hP : va_P G vwCl [(h0, .inr (3, [.ref q_1, .null, .null])), (q_1, .inl (cy 0, 6, .inl (fun _ => 0)))] H := hP
  have hD : va_D A [(h0, .inr (3, [.ref q_1, .null, .null])), (q_1, .inl (cy 0, 6, .inl (fun _ => 0)))] := hD
  refine lv_aload_n hx hb dX3_init_12 rfl (lv_at hl 0 rfl) ?_
  refine lv_bipush (v := 6) hx hb dX3_init_13 (by decide) ?_
  refine gz_newa (atype := .int) (t0 := 0) (a0 := (6, .inl (fun _ => 0))) hx hb rfl (fun _ _ h9 => h9) (hts _ gm_98) rfl hK hP hD hS hA (fun _ => rfl) (by decide) (by decide) (Nat.le_of_ble_eq_true rfl) (Nat.le_of_ble_eq_true rfl) (Nat.le_of_ble_eq_true rfl) dX3_init_15 (fun q_2 H hP hD hS => ?_)
  have hP : va_P G vwCl [(h0, .inr (3, [.ref q_1, .null, .null])), (q_1, .inl (cy 0, 6, .inl (fun _ => 0))), (q_2, .inl (cy 0, 6, .inl (fun _ => 0)))] H := hP
  have hD : va_D A [(h0, .inr (3, [.ref q_1, .null, .null])), (q_1, .inl (cy 0, 6, .inl (fun _ => 0))), (q_2, .inl (cy 0, 6, .inl (fun _ => 0)))] := hD
  refine W.widen (k := 2) (n := 12) (Nat.le_of_ble_eq_true rfl) (Nat.le_of_ble_eq_true rfl) ?_
  refine va_putF (ci := 3) (v := .ref q_2) (ty := .array .int) (C := RX3) (T := TX3) (N := 3) hx hb hts inX3 tyX3 tyX3_ok nmX3 hown hK hP hD hS 0 rfl rfl 1 (by decide) (hts _ gm_85) (fun _ h9 => h9) rfl hin rfl (by decide +kernel) rfl rfl (Nat.le_of_ble_eq_true rfl) dX3_init_17 (fun H locs hP hD hS => ?_)
  have hP : va_P G vwCl [(h0, .inr (3, [.ref q_1, .ref q_2, .null])), (q_1, .inl (cy 0, 6, .inl (fun _ => 0))), (q_2, .inl (cy 0, 6, .inl (fun _ => 0)))] H := hP
  have hD : va_D A [(h0, .inr (3, [.ref q_1, .ref q_2, .null])), (q_1, .inl (cy 0, 6, .inl (fun _ => 0))), (q_2, .inl (cy 0, 6, .inl (fun _ => 0)))] := hD
  refine lv_aload_n hx hb dX3_init_20 rfl (lv_at hl 0 rfl) ?_
  refine lv_bipush (v := 6) hx hb dX3_init_21 (by decide) ?_
  refine lv_bipush (v := 6) hx hb dX3_init_23 (by decide) ?_
  refine gz_mna (N' := 6) (K' := 6) hx hb hown (hts _ gm_80) hov.1 (hts _ gm_98) hK hP hD hS hA (by decide) (by decide) (by decide) (by decide) (Nat.le_of_ble_eq_true rfl) (Nat.le_of_ble_eq_true rfl) (Nat.le_of_ble_eq_true rfl) (Nat.le_of_ble_eq_true rfl) (Nat.le_of_ble_eq_true rfl) dX3_init_25 (fun q_3 r_4 H hP hD hS => ?_)
  have hP : va_P G vwCl [(h0, .inr (3, [.ref q_1, .ref q_2, .null])), (q_1, .inl (cy 0, 6, .inl (fun _ => 0))), (q_2, .inl (cy 0, 6, .inl (fun _ => 0))), (q_3, .inl (cy 3, 6, .inr (.inr (.inr (.inr (fun i => if i < 6 then some (r_4 i) else none)))))), ((r_4 0), .inl (cy 0, 6, .inl (fun _ => 0))), ((r_4 1), .inl (cy 0, 6, .inl (fun _ => 0))), ((r_4 2), .inl (cy 0, 6, .inl (fun _ => 0))), ((r_4 3), .inl (cy 0, 6, .inl (fun _ => 0))), ((r_4 4), .inl (cy 0, 6, .inl (fun _ => 0))), ((r_4 5), .inl (cy 0, 6, .inl (fun _ => 0)))] H := hP
  have hD : va_D A [(h0, .inr (3, [.ref q_1, .ref q_2, .null])), (q_1, .inl (cy 0, 6, .inl (fun _ => 0))), (q_2, .inl (cy 0, 6, .inl (fun _ => 0))), (q_3, .inl (cy 3, 6, .inr (.inr (.inr (.inr (fun i => if i < 6 then some (r_4 i) else none)))))), ((r_4 0), .inl (cy 0, 6, .inl (fun _ => 0))), ((r_4 1), .inl (cy 0, 6, .inl (fun _ => 0))), ((r_4 2), .inl (cy 0, 6, .inl (fun _ => 0))), ((r_4 3), .inl (cy 0, 6, .inl (fun _ => 0))), ((r_4 4), .inl (cy 0, 6, .inl (fun _ => 0))), ((r_4 5), .inl (cy 0, 6, .inl (fun _ => 0)))] := hD
  refine W.widen (k := 9) (n := 54) (Nat.le_of_ble_eq_true rfl) (Nat.le_of_ble_eq_true rfl) ?_
  refine va_putF (ci := 3) (v := .ref q_3) (ty := .array (.array .int)) (C := RX3) (T := TX3) (N := 3) hx hb hts inX3 tyX3 tyX3_ok nmX3 hown hK hP hD hS 0 rfl rfl 2 (by decide) (hts _ gm_88) (fun _ h9 => h9) rfl hin rfl (by decide +kernel) rfl rfl (Nat.le_of_ble_eq_true rfl) dX3_init_29 (fun H locs hP hD hS => ?_)
  have hP : va_P G vwCl [(h0, .inr (3, [.ref q_1, .ref q_2, .ref q_3])), (q_1, .inl (cy 0, 6, .inl (fun _ => 0))), (q_2, .inl (cy 0, 6, .inl (fun _ => 0))), (q_3, .inl (cy 3, 6, .inr (.inr (.inr (.inr (fun i => if i < 6 then some (r_4 i) else none)))))), ((r_4 0), .inl (cy 0, 6, .inl (fun _ => 0))), ((r_4 1), .inl (cy 0, 6, .inl (fun _ => 0))), ((r_4 2), .inl (cy 0, 6, .inl (fun _ => 0))), ((r_4 3), .inl (cy 0, 6, .inl (fun _ => 0))), ((r_4 4), .inl (cy 0, 6, .inl (fun _ => 0))), ((r_4 5), .inl (cy 0, 6, .inl (fun _ => 0)))] H := hP
  have hD : va_D A [(h0, .inr (3, [.ref q_1, .ref q_2, .ref q_3])), (q_1, .inl (cy 0, 6, .inl (fun _ => 0))), (q_2, .inl (cy 0, 6, .inl (fun _ => 0))), (q_3, .inl (cy 3, 6, .inr (.inr (.inr (.inr (fun i => if i < 6 then some (r_4 i) else none)))))), ((r_4 0), .inl (cy 0, 6, .inl (fun _ => 0))), ((r_4 1), .inl (cy 0, 6, .inl (fun _ => 0))), ((r_4 2), .inl (cy 0, 6, .inl (fun _ => 0))), ((r_4 3), .inl (cy 0, 6, .inl (fun _ => 0))), ((r_4 4), .inl (cy 0, 6, .inl (fun _ => 0))), ((r_4 5), .inl (cy 0, 6, .inl (fun _ => 0)))] := hD
  exact gz_vret (cf := (fun (u : (Nat → Nat) × (Nat → Nat)) => [(h0, .inr (3, [.ref (u.1 0), .ref (u.1 1), .ref (u.1 2)])), ((u.1 0), .inl (cy 0, 6, .inl (fun _ => 0))), ((u.1 1), .inl (cy 0, 6, .inl (fun _ => 0))), ((u.1 2), .inl (cy 3, 6, .inr (.inr (.inr (.inr (fun i => if i < 6 then some (u.2 i) else none)))))), ((u.2 0), .inl (cy 0, 6, .inl (fun _ => 0))), ((u.2 1), .inl (cy 0, 6, .inl (fun _ => 0))), ((u.2 2), .inl (cy 0, 6, .inl (fun _ => 0))), ((u.2 3), .inl (cy 0, 6, .inl (fun _ => 0))), ((u.2 4), .inl (cy 0, 6, .inl (fun _ => 0))), ((u.2 5), .inl (cy 0, 6, .inl (fun _ => 0)))])) (post := (fun (u : (Nat → Nat) × (Nat → Nat)) => True)) hx hb hr hlocks hK hP hD hS ((fun k => match k with | 0 => q_1 | 1 => q_2 | 2 => q_3 | _ => 0), r_4) [0, 1, 2, 3, 4, 5, 6, 7, 8, 9] trivial (by decide) rfl (Nat.le_of_ble_eq_true rfl) (Nat.le_of_ble_eq_true rfl) dX3_init_32

set_option maxHeartbeats 4000000 in
set_option maxRecDepth 100000 in
/-- WellCourt$Calendar.<init> -/
theorem c_X0_init (l : Launch) (G : va_G) (cy : Nat → ClassId) (sz : Nat) (h0 : Nat)  : gMv l yX0_init cX0_init 2 ({ frames := 1, cells := 7, slots := 1206, locals := 23 }) G cy sz [.ref h0] [(h0, .inr (0, [.null]))] (fun (u : (Nat → Nat) × (Nat → Nat)) => True) (fun (u : (Nat → Nat) × (Nat → Nat)) => [(h0, .inr (0, [.ref (u.1 0)])), ((u.1 0), .inl (cy 3, 6, .inr (.inr (.inr (.inr (fun i => if i < 6 then some (u.2 i) else none)))))), ((u.2 0), .inl (cy 0, 200, .inl (fun _ => (-1)))), ((u.2 1), .inl (cy 0, 200, .inl (fun _ => (-1)))), ((u.2 2), .inl (cy 0, 200, .inl (fun _ => (-1)))), ((u.2 3), .inl (cy 0, 200, .inl (fun _ => (-1)))), ((u.2 4), .inl (cy 0, 200, .inl (fun _ => (-1)))), ((u.2 5), .inl (cy 0, 200, .inl (fun _ => (-1))))]) := by
  refine gz_start (fun A => gQv G cy _ _ A) (by decide) (Nat.le_of_ble_eq_true rfl) ?_
  intro p e s m below meth c A ls H hx hb hr hml hlocks hin hown hts hK hov hsz hP hD hS hA hl
  have hl : lv_has ls 2 [(0, .ref h0)] := hl
  refine lv_aload_n hx hb dX0_init_0 rfl (lv_at hl 0 rfl) ?_
  refine W.objInit hx hb hown (hts _ gm_104) (hts _ gm_30) (hts _ gm_31) rfl (by rw [hml]; exact hl.1) rfl dX0_init_1 (Nat.le_of_ble_eq_true rfl) (Nat.le_of_ble_eq_true rfl) ?_
  refine W.eq (g2 := F0 m 4 ls []) rfl ?_
  refine lv_aload_n hx hb dX0_init_4 rfl (lv_at hl 0 rfl) ?_
  refine lv_bipush (v := 6) hx hb dX0_init_5 (by decide) ?_
  refine lv_sipush (v := 200) hx hb dX0_init_7 (by decide) ?_
  refine gz_mna (N' := 6) (K' := 200) hx hb hown (hts _ gm_105) hov.1 (hts _ gm_98) hK hP hD hS hA (by decide) (by decide) (by decide) (by decide) (Nat.le_of_ble_eq_true rfl) (Nat.le_of_ble_eq_true rfl) (Nat.le_of_ble_eq_true rfl) (Nat.le_of_ble_eq_true rfl) (Nat.le_of_ble_eq_true rfl) dX0_init_10 (fun q_1 r_2 H hP hD hS => ?_)
  have hP : va_P G vwCl [(h0, .inr (0, [.null])), (q_1, .inl (cy 3, 6, .inr (.inr (.inr (.inr (fun i => if i < 6 then some (r_2 i) else none)))))), ((r_2 0), .inl (cy 0, 200, .inl (fun _ => 0))), ((r_2 1), .inl (cy 0, 200, .inl (fun _ => 0))), ((r_2 2), .inl (cy 0, 200, .inl (fun _ => 0))), ((r_2 3), .inl (cy 0, 200, .inl (fun _ => 0))), ((r_2 4), .inl (cy 0, 200, .inl (fun _ => 0))), ((r_2 5), .inl (cy 0, 200, .inl (fun _ => 0)))] H := hP
  have hD : va_D A [(h0, .inr (0, [.null])), (q_1, .inl (cy 3, 6, .inr (.inr (.inr (.inr (fun i => if i < 6 then some (r_2 i) else none)))))), ((r_2 0), .inl (cy 0, 200, .inl (fun _ => 0))), ((r_2 1), .inl (cy 0, 200, .inl (fun _ => 0))), ((r_2 2), .inl (cy 0, 200, .inl (fun _ => 0))), ((r_2 3), .inl (cy 0, 200, .inl (fun _ => 0))), ((r_2 4), .inl (cy 0, 200, .inl (fun _ => 0))), ((r_2 5), .inl (cy 0, 200, .inl (fun _ => 0)))] := hD
  refine W.widen (k := 7) (n := 1206) (Nat.le_of_ble_eq_true rfl) (Nat.le_of_ble_eq_true rfl) ?_
  refine va_putF (ci := 0) (v := .ref q_1) (ty := .array (.array .int)) (C := RX0) (T := TX0) (N := 1) hx hb hts inX0 tyX0 tyX0_ok nmX0 hown hK hP hD hS 0 rfl rfl 0 (by decide) (hts _ gm_109) (fun _ h9 => h9) rfl hin rfl (by decide +kernel) rfl rfl (Nat.le_of_ble_eq_true rfl) dX0_init_14 (fun H locs hP hD hS => ?_)
  have hP : va_P G vwCl [(h0, .inr (0, [.ref q_1])), (q_1, .inl (cy 3, 6, .inr (.inr (.inr (.inr (fun i => if i < 6 then some (r_2 i) else none)))))), ((r_2 0), .inl (cy 0, 200, .inl (fun _ => 0))), ((r_2 1), .inl (cy 0, 200, .inl (fun _ => 0))), ((r_2 2), .inl (cy 0, 200, .inl (fun _ => 0))), ((r_2 3), .inl (cy 0, 200, .inl (fun _ => 0))), ((r_2 4), .inl (cy 0, 200, .inl (fun _ => 0))), ((r_2 5), .inl (cy 0, 200, .inl (fun _ => 0)))] H := hP
  have hD : va_D A [(h0, .inr (0, [.ref q_1])), (q_1, .inl (cy 3, 6, .inr (.inr (.inr (.inr (fun i => if i < 6 then some (r_2 i) else none)))))), ((r_2 0), .inl (cy 0, 200, .inl (fun _ => 0))), ((r_2 1), .inl (cy 0, 200, .inl (fun _ => 0))), ((r_2 2), .inl (cy 0, 200, .inl (fun _ => 0))), ((r_2 3), .inl (cy 0, 200, .inl (fun _ => 0))), ((r_2 4), .inl (cy 0, 200, .inl (fun _ => 0))), ((r_2 5), .inl (cy 0, 200, .inl (fun _ => 0)))] := hD
  refine lv_iconst (v := 0) hx hb dX0_init_17 (by decide) ?_
  refine lv_istore_n (lv' := [(1, .int 0), (0, .ref h0)]) hx hb dX0_init_18 rfl hl (by decide) rfl (fun ls hl => ?_)
  refine lv_iload_n hx hb dX0_init_19 rfl (lv_at hl 0 rfl) ?_
  refine lv_bipush (v := 6) hx hb dX0_init_20 (by decide) ?_
  refine lv_icmp_ge (tgt := 41) hx hb dX0_init_22 (by decide) (fun h9 => absurd h9 (by decide)) (fun _ => ?_)
  refine lv_aload_n hx hb dX0_init_25 rfl (lv_at hl 1 rfl) ?_
  refine va_get (ci := 0) (v := .ref q_1) (C := RX0) (T := TX0) (N := 1) hx hb hts inX0 hown hK hP 0 rfl rfl 0 (by decide) (hts _ gm_109) (fun _ h9 => h9) rfl dX0_init_26 ?_
  refine lv_iload_n hx hb dX0_init_29 rfl (lv_at hl 0 rfl) ?_
  refine gz_alda hx hb hK hP 1 rfl (vp_in_iff.mpr (by decide)) dX0_init_30 (v := .ref (r_2 0)) rfl ?_
  refine lv_iconst (v := (-1)) hx hb dX0_init_31 (by decide) ?_
  refine gz_aftv (va_runS (As := [.ref (r_2 0), .int (-1)]) (rest := []) ⟨hx, hb, hml, hown, hts⟩ (c_fill l G cy H.size (r_2 0) 200 (fun _ => 0) (-1) (by decide)) ⟨(gz_cb (n := 2) hts gm_106 gm_6 gm_108 ⟨by decide +kernel, by decide +kernel, by decide +kernel⟩ ⟨Nat.le_of_ble_eq_true rfl, Nat.le_of_ble_eq_true rfl⟩), hts _ gm_107⟩ (gz_preS hK hov hP hD [2] (by decide) rfl) rfl rfl hl.1 rfl (lv_room (Nat.le_of_ble_eq_true rfl)) dX0_init_32 ⟨Nat.le_of_ble_eq_true rfl, Nat.le_of_ble_eq_true rfl⟩) hP hD hS hA [2] [0, 1, 3, 4, 5, 6, 7] rfl rfl (by decide) (by decide) (fun u_3 H locs hw_3 hP hD hS => ?_)
  have hP : va_P G vwCl [(h0, .inr (0, [.ref q_1])), (q_1, .inl (cy 3, 6, .inr (.inr (.inr (.inr (fun i => if i < 6 then some (r_2 i) else none)))))), ((r_2 1), .inl (cy 0, 200, .inl (fun _ => 0))), ((r_2 2), .inl (cy 0, 200, .inl (fun _ => 0))), ((r_2 3), .inl (cy 0, 200, .inl (fun _ => 0))), ((r_2 4), .inl (cy 0, 200, .inl (fun _ => 0))), ((r_2 5), .inl (cy 0, 200, .inl (fun _ => 0))), ((r_2 0), .inl (cy 0, 200, .inl (fun _ => (-1))))] H := hP
  have hD : va_D A [(h0, .inr (0, [.ref q_1])), (q_1, .inl (cy 3, 6, .inr (.inr (.inr (.inr (fun i => if i < 6 then some (r_2 i) else none)))))), ((r_2 1), .inl (cy 0, 200, .inl (fun _ => 0))), ((r_2 2), .inl (cy 0, 200, .inl (fun _ => 0))), ((r_2 3), .inl (cy 0, 200, .inl (fun _ => 0))), ((r_2 4), .inl (cy 0, 200, .inl (fun _ => 0))), ((r_2 5), .inl (cy 0, 200, .inl (fun _ => 0))), ((r_2 0), .inl (cy 0, 200, .inl (fun _ => (-1))))] := hD
  refine lv_iinc (v := (1)) (lv' := [(1, .int 1), (0, .ref h0)]) hx hb dX0_init_35 hl (k := 0) rfl (by decide) (by decide) rfl (fun ls hl => ?_)
  refine lv_goto (tgt := 19) hx hb dX0_init_38 (by decide) ?_
  refine lv_iload_n hx hb dX0_init_19 rfl (lv_at hl 0 rfl) ?_
  refine lv_bipush (v := 6) hx hb dX0_init_20 (by decide) ?_
  refine lv_icmp_ge (tgt := 41) hx hb dX0_init_22 (by decide) (fun h9 => absurd h9 (by decide)) (fun _ => ?_)
  refine lv_aload_n hx hb dX0_init_25 rfl (lv_at hl 1 rfl) ?_
  refine va_get (ci := 0) (v := .ref q_1) (C := RX0) (T := TX0) (N := 1) hx hb hts inX0 hown hK hP 0 rfl rfl 0 (by decide) (hts _ gm_109) (fun _ h9 => h9) rfl dX0_init_26 ?_
  refine lv_iload_n hx hb dX0_init_29 rfl (lv_at hl 0 rfl) ?_
  refine gz_alda hx hb hK hP 1 rfl (vp_in_iff.mpr (by decide)) dX0_init_30 (v := .ref (r_2 1)) rfl ?_
  refine lv_iconst (v := (-1)) hx hb dX0_init_31 (by decide) ?_
  refine gz_aftv (va_runS (As := [.ref (r_2 1), .int (-1)]) (rest := []) ⟨hx, hb, hml, hown, hts⟩ (c_fill l G cy H.size (r_2 1) 200 (fun _ => 0) (-1) (by decide)) ⟨(gz_cb (n := 2) hts gm_106 gm_6 gm_108 ⟨by decide +kernel, by decide +kernel, by decide +kernel⟩ ⟨Nat.le_of_ble_eq_true rfl, Nat.le_of_ble_eq_true rfl⟩), hts _ gm_107⟩ (gz_preS hK hov hP hD [2] (by decide) rfl) rfl rfl hl.1 rfl (lv_room (Nat.le_of_ble_eq_true rfl)) dX0_init_32 ⟨Nat.le_of_ble_eq_true rfl, Nat.le_of_ble_eq_true rfl⟩) hP hD hS hA [2] [0, 1, 3, 4, 5, 6, 7] rfl rfl (by decide) (by decide) (fun u_4 H locs hw_4 hP hD hS => ?_)
  have hP : va_P G vwCl [(h0, .inr (0, [.ref q_1])), (q_1, .inl (cy 3, 6, .inr (.inr (.inr (.inr (fun i => if i < 6 then some (r_2 i) else none)))))), ((r_2 2), .inl (cy 0, 200, .inl (fun _ => 0))), ((r_2 3), .inl (cy 0, 200, .inl (fun _ => 0))), ((r_2 4), .inl (cy 0, 200, .inl (fun _ => 0))), ((r_2 5), .inl (cy 0, 200, .inl (fun _ => 0))), ((r_2 0), .inl (cy 0, 200, .inl (fun _ => (-1)))), ((r_2 1), .inl (cy 0, 200, .inl (fun _ => (-1))))] H := hP
  have hD : va_D A [(h0, .inr (0, [.ref q_1])), (q_1, .inl (cy 3, 6, .inr (.inr (.inr (.inr (fun i => if i < 6 then some (r_2 i) else none)))))), ((r_2 2), .inl (cy 0, 200, .inl (fun _ => 0))), ((r_2 3), .inl (cy 0, 200, .inl (fun _ => 0))), ((r_2 4), .inl (cy 0, 200, .inl (fun _ => 0))), ((r_2 5), .inl (cy 0, 200, .inl (fun _ => 0))), ((r_2 0), .inl (cy 0, 200, .inl (fun _ => (-1)))), ((r_2 1), .inl (cy 0, 200, .inl (fun _ => (-1))))] := hD
  refine lv_iinc (v := (2)) (lv' := [(1, .int 2), (0, .ref h0)]) hx hb dX0_init_35 hl (k := 0) rfl (by decide) (by decide) rfl (fun ls hl => ?_)
  refine lv_goto (tgt := 19) hx hb dX0_init_38 (by decide) ?_
  refine lv_iload_n hx hb dX0_init_19 rfl (lv_at hl 0 rfl) ?_
  refine lv_bipush (v := 6) hx hb dX0_init_20 (by decide) ?_
  refine lv_icmp_ge (tgt := 41) hx hb dX0_init_22 (by decide) (fun h9 => absurd h9 (by decide)) (fun _ => ?_)
  refine lv_aload_n hx hb dX0_init_25 rfl (lv_at hl 1 rfl) ?_
  refine va_get (ci := 0) (v := .ref q_1) (C := RX0) (T := TX0) (N := 1) hx hb hts inX0 hown hK hP 0 rfl rfl 0 (by decide) (hts _ gm_109) (fun _ h9 => h9) rfl dX0_init_26 ?_
  refine lv_iload_n hx hb dX0_init_29 rfl (lv_at hl 0 rfl) ?_
  refine gz_alda hx hb hK hP 1 rfl (vp_in_iff.mpr (by decide)) dX0_init_30 (v := .ref (r_2 2)) rfl ?_
  refine lv_iconst (v := (-1)) hx hb dX0_init_31 (by decide) ?_
  refine gz_aftv (va_runS (As := [.ref (r_2 2), .int (-1)]) (rest := []) ⟨hx, hb, hml, hown, hts⟩ (c_fill l G cy H.size (r_2 2) 200 (fun _ => 0) (-1) (by decide)) ⟨(gz_cb (n := 2) hts gm_106 gm_6 gm_108 ⟨by decide +kernel, by decide +kernel, by decide +kernel⟩ ⟨Nat.le_of_ble_eq_true rfl, Nat.le_of_ble_eq_true rfl⟩), hts _ gm_107⟩ (gz_preS hK hov hP hD [2] (by decide) rfl) rfl rfl hl.1 rfl (lv_room (Nat.le_of_ble_eq_true rfl)) dX0_init_32 ⟨Nat.le_of_ble_eq_true rfl, Nat.le_of_ble_eq_true rfl⟩) hP hD hS hA [2] [0, 1, 3, 4, 5, 6, 7] rfl rfl (by decide) (by decide) (fun u_5 H locs hw_5 hP hD hS => ?_)
  have hP : va_P G vwCl [(h0, .inr (0, [.ref q_1])), (q_1, .inl (cy 3, 6, .inr (.inr (.inr (.inr (fun i => if i < 6 then some (r_2 i) else none)))))), ((r_2 3), .inl (cy 0, 200, .inl (fun _ => 0))), ((r_2 4), .inl (cy 0, 200, .inl (fun _ => 0))), ((r_2 5), .inl (cy 0, 200, .inl (fun _ => 0))), ((r_2 0), .inl (cy 0, 200, .inl (fun _ => (-1)))), ((r_2 1), .inl (cy 0, 200, .inl (fun _ => (-1)))), ((r_2 2), .inl (cy 0, 200, .inl (fun _ => (-1))))] H := hP
  have hD : va_D A [(h0, .inr (0, [.ref q_1])), (q_1, .inl (cy 3, 6, .inr (.inr (.inr (.inr (fun i => if i < 6 then some (r_2 i) else none)))))), ((r_2 3), .inl (cy 0, 200, .inl (fun _ => 0))), ((r_2 4), .inl (cy 0, 200, .inl (fun _ => 0))), ((r_2 5), .inl (cy 0, 200, .inl (fun _ => 0))), ((r_2 0), .inl (cy 0, 200, .inl (fun _ => (-1)))), ((r_2 1), .inl (cy 0, 200, .inl (fun _ => (-1)))), ((r_2 2), .inl (cy 0, 200, .inl (fun _ => (-1))))] := hD
  refine lv_iinc (v := (3)) (lv' := [(1, .int 3), (0, .ref h0)]) hx hb dX0_init_35 hl (k := 0) rfl (by decide) (by decide) rfl (fun ls hl => ?_)
  refine lv_goto (tgt := 19) hx hb dX0_init_38 (by decide) ?_
  refine lv_iload_n hx hb dX0_init_19 rfl (lv_at hl 0 rfl) ?_
  refine lv_bipush (v := 6) hx hb dX0_init_20 (by decide) ?_
  refine lv_icmp_ge (tgt := 41) hx hb dX0_init_22 (by decide) (fun h9 => absurd h9 (by decide)) (fun _ => ?_)
  refine lv_aload_n hx hb dX0_init_25 rfl (lv_at hl 1 rfl) ?_
  refine va_get (ci := 0) (v := .ref q_1) (C := RX0) (T := TX0) (N := 1) hx hb hts inX0 hown hK hP 0 rfl rfl 0 (by decide) (hts _ gm_109) (fun _ h9 => h9) rfl dX0_init_26 ?_
  refine lv_iload_n hx hb dX0_init_29 rfl (lv_at hl 0 rfl) ?_
  refine gz_alda hx hb hK hP 1 rfl (vp_in_iff.mpr (by decide)) dX0_init_30 (v := .ref (r_2 3)) rfl ?_
  refine lv_iconst (v := (-1)) hx hb dX0_init_31 (by decide) ?_
  refine gz_aftv (va_runS (As := [.ref (r_2 3), .int (-1)]) (rest := []) ⟨hx, hb, hml, hown, hts⟩ (c_fill l G cy H.size (r_2 3) 200 (fun _ => 0) (-1) (by decide)) ⟨(gz_cb (n := 2) hts gm_106 gm_6 gm_108 ⟨by decide +kernel, by decide +kernel, by decide +kernel⟩ ⟨Nat.le_of_ble_eq_true rfl, Nat.le_of_ble_eq_true rfl⟩), hts _ gm_107⟩ (gz_preS hK hov hP hD [2] (by decide) rfl) rfl rfl hl.1 rfl (lv_room (Nat.le_of_ble_eq_true rfl)) dX0_init_32 ⟨Nat.le_of_ble_eq_true rfl, Nat.le_of_ble_eq_true rfl⟩) hP hD hS hA [2] [0, 1, 3, 4, 5, 6, 7] rfl rfl (by decide) (by decide) (fun u_6 H locs hw_6 hP hD hS => ?_)
  have hP : va_P G vwCl [(h0, .inr (0, [.ref q_1])), (q_1, .inl (cy 3, 6, .inr (.inr (.inr (.inr (fun i => if i < 6 then some (r_2 i) else none)))))), ((r_2 4), .inl (cy 0, 200, .inl (fun _ => 0))), ((r_2 5), .inl (cy 0, 200, .inl (fun _ => 0))), ((r_2 0), .inl (cy 0, 200, .inl (fun _ => (-1)))), ((r_2 1), .inl (cy 0, 200, .inl (fun _ => (-1)))), ((r_2 2), .inl (cy 0, 200, .inl (fun _ => (-1)))), ((r_2 3), .inl (cy 0, 200, .inl (fun _ => (-1))))] H := hP
  have hD : va_D A [(h0, .inr (0, [.ref q_1])), (q_1, .inl (cy 3, 6, .inr (.inr (.inr (.inr (fun i => if i < 6 then some (r_2 i) else none)))))), ((r_2 4), .inl (cy 0, 200, .inl (fun _ => 0))), ((r_2 5), .inl (cy 0, 200, .inl (fun _ => 0))), ((r_2 0), .inl (cy 0, 200, .inl (fun _ => (-1)))), ((r_2 1), .inl (cy 0, 200, .inl (fun _ => (-1)))), ((r_2 2), .inl (cy 0, 200, .inl (fun _ => (-1)))), ((r_2 3), .inl (cy 0, 200, .inl (fun _ => (-1))))] := hD
  refine lv_iinc (v := (4)) (lv' := [(1, .int 4), (0, .ref h0)]) hx hb dX0_init_35 hl (k := 0) rfl (by decide) (by decide) rfl (fun ls hl => ?_)
  refine lv_goto (tgt := 19) hx hb dX0_init_38 (by decide) ?_
  refine lv_iload_n hx hb dX0_init_19 rfl (lv_at hl 0 rfl) ?_
  refine lv_bipush (v := 6) hx hb dX0_init_20 (by decide) ?_
  refine lv_icmp_ge (tgt := 41) hx hb dX0_init_22 (by decide) (fun h9 => absurd h9 (by decide)) (fun _ => ?_)
  refine lv_aload_n hx hb dX0_init_25 rfl (lv_at hl 1 rfl) ?_
  refine va_get (ci := 0) (v := .ref q_1) (C := RX0) (T := TX0) (N := 1) hx hb hts inX0 hown hK hP 0 rfl rfl 0 (by decide) (hts _ gm_109) (fun _ h9 => h9) rfl dX0_init_26 ?_
  refine lv_iload_n hx hb dX0_init_29 rfl (lv_at hl 0 rfl) ?_
  refine gz_alda hx hb hK hP 1 rfl (vp_in_iff.mpr (by decide)) dX0_init_30 (v := .ref (r_2 4)) rfl ?_
  refine lv_iconst (v := (-1)) hx hb dX0_init_31 (by decide) ?_
  refine gz_aftv (va_runS (As := [.ref (r_2 4), .int (-1)]) (rest := []) ⟨hx, hb, hml, hown, hts⟩ (c_fill l G cy H.size (r_2 4) 200 (fun _ => 0) (-1) (by decide)) ⟨(gz_cb (n := 2) hts gm_106 gm_6 gm_108 ⟨by decide +kernel, by decide +kernel, by decide +kernel⟩ ⟨Nat.le_of_ble_eq_true rfl, Nat.le_of_ble_eq_true rfl⟩), hts _ gm_107⟩ (gz_preS hK hov hP hD [2] (by decide) rfl) rfl rfl hl.1 rfl (lv_room (Nat.le_of_ble_eq_true rfl)) dX0_init_32 ⟨Nat.le_of_ble_eq_true rfl, Nat.le_of_ble_eq_true rfl⟩) hP hD hS hA [2] [0, 1, 3, 4, 5, 6, 7] rfl rfl (by decide) (by decide) (fun u_7 H locs hw_7 hP hD hS => ?_)
  have hP : va_P G vwCl [(h0, .inr (0, [.ref q_1])), (q_1, .inl (cy 3, 6, .inr (.inr (.inr (.inr (fun i => if i < 6 then some (r_2 i) else none)))))), ((r_2 5), .inl (cy 0, 200, .inl (fun _ => 0))), ((r_2 0), .inl (cy 0, 200, .inl (fun _ => (-1)))), ((r_2 1), .inl (cy 0, 200, .inl (fun _ => (-1)))), ((r_2 2), .inl (cy 0, 200, .inl (fun _ => (-1)))), ((r_2 3), .inl (cy 0, 200, .inl (fun _ => (-1)))), ((r_2 4), .inl (cy 0, 200, .inl (fun _ => (-1))))] H := hP
  have hD : va_D A [(h0, .inr (0, [.ref q_1])), (q_1, .inl (cy 3, 6, .inr (.inr (.inr (.inr (fun i => if i < 6 then some (r_2 i) else none)))))), ((r_2 5), .inl (cy 0, 200, .inl (fun _ => 0))), ((r_2 0), .inl (cy 0, 200, .inl (fun _ => (-1)))), ((r_2 1), .inl (cy 0, 200, .inl (fun _ => (-1)))), ((r_2 2), .inl (cy 0, 200, .inl (fun _ => (-1)))), ((r_2 3), .inl (cy 0, 200, .inl (fun _ => (-1)))), ((r_2 4), .inl (cy 0, 200, .inl (fun _ => (-1))))] := hD
  refine lv_iinc (v := (5)) (lv' := [(1, .int 5), (0, .ref h0)]) hx hb dX0_init_35 hl (k := 0) rfl (by decide) (by decide) rfl (fun ls hl => ?_)
  refine lv_goto (tgt := 19) hx hb dX0_init_38 (by decide) ?_
  refine lv_iload_n hx hb dX0_init_19 rfl (lv_at hl 0 rfl) ?_
  refine lv_bipush (v := 6) hx hb dX0_init_20 (by decide) ?_
  refine lv_icmp_ge (tgt := 41) hx hb dX0_init_22 (by decide) (fun h9 => absurd h9 (by decide)) (fun _ => ?_)
  refine lv_aload_n hx hb dX0_init_25 rfl (lv_at hl 1 rfl) ?_
  refine va_get (ci := 0) (v := .ref q_1) (C := RX0) (T := TX0) (N := 1) hx hb hts inX0 hown hK hP 0 rfl rfl 0 (by decide) (hts _ gm_109) (fun _ h9 => h9) rfl dX0_init_26 ?_
  refine lv_iload_n hx hb dX0_init_29 rfl (lv_at hl 0 rfl) ?_
  refine gz_alda hx hb hK hP 1 rfl (vp_in_iff.mpr (by decide)) dX0_init_30 (v := .ref (r_2 5)) rfl ?_
  refine lv_iconst (v := (-1)) hx hb dX0_init_31 (by decide) ?_
  refine gz_aftv (va_runS (As := [.ref (r_2 5), .int (-1)]) (rest := []) ⟨hx, hb, hml, hown, hts⟩ (c_fill l G cy H.size (r_2 5) 200 (fun _ => 0) (-1) (by decide)) ⟨(gz_cb (n := 2) hts gm_106 gm_6 gm_108 ⟨by decide +kernel, by decide +kernel, by decide +kernel⟩ ⟨Nat.le_of_ble_eq_true rfl, Nat.le_of_ble_eq_true rfl⟩), hts _ gm_107⟩ (gz_preS hK hov hP hD [2] (by decide) rfl) rfl rfl hl.1 rfl (lv_room (Nat.le_of_ble_eq_true rfl)) dX0_init_32 ⟨Nat.le_of_ble_eq_true rfl, Nat.le_of_ble_eq_true rfl⟩) hP hD hS hA [2] [0, 1, 3, 4, 5, 6, 7] rfl rfl (by decide) (by decide) (fun u_8 H locs hw_8 hP hD hS => ?_)
  have hP : va_P G vwCl [(h0, .inr (0, [.ref q_1])), (q_1, .inl (cy 3, 6, .inr (.inr (.inr (.inr (fun i => if i < 6 then some (r_2 i) else none)))))), ((r_2 0), .inl (cy 0, 200, .inl (fun _ => (-1)))), ((r_2 1), .inl (cy 0, 200, .inl (fun _ => (-1)))), ((r_2 2), .inl (cy 0, 200, .inl (fun _ => (-1)))), ((r_2 3), .inl (cy 0, 200, .inl (fun _ => (-1)))), ((r_2 4), .inl (cy 0, 200, .inl (fun _ => (-1)))), ((r_2 5), .inl (cy 0, 200, .inl (fun _ => (-1))))] H := hP
  have hD : va_D A [(h0, .inr (0, [.ref q_1])), (q_1, .inl (cy 3, 6, .inr (.inr (.inr (.inr (fun i => if i < 6 then some (r_2 i) else none)))))), ((r_2 0), .inl (cy 0, 200, .inl (fun _ => (-1)))), ((r_2 1), .inl (cy 0, 200, .inl (fun _ => (-1)))), ((r_2 2), .inl (cy 0, 200, .inl (fun _ => (-1)))), ((r_2 3), .inl (cy 0, 200, .inl (fun _ => (-1)))), ((r_2 4), .inl (cy 0, 200, .inl (fun _ => (-1)))), ((r_2 5), .inl (cy 0, 200, .inl (fun _ => (-1))))] := hD
  refine lv_iinc (v := (6)) (lv' := [(1, .int 6), (0, .ref h0)]) hx hb dX0_init_35 hl (k := 0) rfl (by decide) (by decide) rfl (fun ls hl => ?_)
  refine lv_goto (tgt := 19) hx hb dX0_init_38 (by decide) ?_
  refine lv_iload_n hx hb dX0_init_19 rfl (lv_at hl 0 rfl) ?_
  refine lv_bipush (v := 6) hx hb dX0_init_20 (by decide) ?_
  refine lv_icmp_ge (tgt := 41) hx hb dX0_init_22 (by decide) (fun _ => ?_) (fun h9 => absurd (by decide) h9)
  exact gz_vret (cf := (fun (u : (Nat → Nat) × (Nat → Nat)) => [(h0, .inr (0, [.ref (u.1 0)])), ((u.1 0), .inl (cy 3, 6, .inr (.inr (.inr (.inr (fun i => if i < 6 then some (u.2 i) else none)))))), ((u.2 0), .inl (cy 0, 200, .inl (fun _ => (-1)))), ((u.2 1), .inl (cy 0, 200, .inl (fun _ => (-1)))), ((u.2 2), .inl (cy 0, 200, .inl (fun _ => (-1)))), ((u.2 3), .inl (cy 0, 200, .inl (fun _ => (-1)))), ((u.2 4), .inl (cy 0, 200, .inl (fun _ => (-1)))), ((u.2 5), .inl (cy 0, 200, .inl (fun _ => (-1))))])) (post := (fun (u : (Nat → Nat) × (Nat → Nat)) => True)) hx hb hr hlocks hK hP hD hS ((fun k => match k with | 0 => q_1 | _ => 0), r_2) [0, 1, 2, 3, 4, 5, 6, 7] trivial (by decide) rfl (Nat.le_of_ble_eq_true rfl) (Nat.le_of_ble_eq_true rfl) dX0_init_41

set_option maxHeartbeats 4000000 in
set_option maxRecDepth 100000 in
/-- WellCourt$Day.<init> -/
theorem c_X1_init (l : Launch) (G : va_G) (cy : Nat → ClassId) (sz : Nat) (h0 : Nat)  : gMv l yX1_init cX1_init 1 ({ frames := 1, cells := 3, slots := 18, locals := 23 }) G cy sz [.ref h0] [(h0, .inr (1, [.null, .null, .null]))] (fun (u : (Nat → Nat)) => True) (fun (u : (Nat → Nat)) => [(h0, .inr (1, [.ref (u 0), .ref (u 1), .ref (u 2)])), ((u 0), .inl (cy 0, 6, .inl (fun _ => 0))), ((u 1), .inl (cy 0, 6, .inl (fun _ => (-1)))), ((u 2), .inl (cy 0, 6, .inl (fun _ => (-1))))]) := by
  refine gz_start (fun A => gQv G cy _ _ A) (by decide) (Nat.le_of_ble_eq_true rfl) ?_
  intro p e s m below meth c A ls H hx hb hr hml hlocks hin hown hts hK hov hsz hP hD hS hA hl
  have hl : lv_has ls 1 [(0, .ref h0)] := hl
  refine lv_aload_n hx hb dX1_init_0 rfl (lv_at hl 0 rfl) ?_
  refine W.objInit hx hb hown (hts _ gm_118) (hts _ gm_30) (hts _ gm_31) rfl (by rw [hml]; exact hl.1) rfl dX1_init_1 (Nat.le_of_ble_eq_true rfl) (Nat.le_of_ble_eq_true rfl) ?_
  refine W.eq (g2 := F0 m 4 ls []) rfl ?_
  refine lv_aload_n hx hb dX1_init_4 rfl (lv_at hl 0 rfl) ?_
  refine lv_bipush (v := 6) hx hb dX1_init_5 (by decide) ?_
  refine gz_newa (atype := .int) (t0 := 0) (a0 := (6, .inl (fun _ => 0))) hx hb rfl (fun _ _ h9 => h9) (hts _ gm_98) rfl hK hP hD hS hA (fun _ => rfl) (by decide) (by decide) (Nat.le_of_ble_eq_true rfl) (Nat.le_of_ble_eq_true rfl) (Nat.le_of_ble_eq_true rfl) dX1_init_7 (fun q_1 H hP hD hS => ?_)
  have hP : va_P G vwCl [(h0, .inr (1, [.null, .null, .null])), (q_1, .inl (cy 0, 6, .inl (fun _ => 0)))] H := hP
  have hD : va_D A [(h0, .inr (1, [.null, .null, .null])), (q_1, .inl (cy 0, 6, .inl (fun _ => 0)))] := hD
  refine W.widen (k := 1) (n := 6) (Nat.le_of_ble_eq_true rfl) (Nat.le_of_ble_eq_true rfl) ?_
  refine va_putF (ci := 1) (v := .ref q_1) (ty := .array .int) (C := RX1) (T := TX1) (N := 3) hx hb hts inX1 tyX1 tyX1_ok nmX1 hown hK hP hD hS 0 rfl rfl 0 (by decide) (hts _ gm_120) (fun _ h9 => h9) rfl hin rfl (by decide +kernel) rfl rfl (Nat.le_of_ble_eq_true rfl) dX1_init_9 (fun H locs hP hD hS => ?_)
  have hP : va_P G vwCl [(h0, .inr (1, [.ref q_1, .null, .null])), (q_1, .inl (cy 0, 6, .inl (fun _ => 0)))] H := hP
  have hD : va_D A [(h0, .inr (1, [.ref q_1, .null, .null])), (q_1, .inl (cy 0, 6, .inl (fun _ => 0)))] := hD
  refine lv_aload_n hx hb dX1_init_12 rfl (lv_at hl 0 rfl) ?_
  refine lv_bipush (v := 6) hx hb dX1_init_13 (by decide) ?_
  refine gz_newa (atype := .int) (t0 := 0) (a0 := (6, .inl (fun _ => 0))) hx hb rfl (fun _ _ h9 => h9) (hts _ gm_98) rfl hK hP hD hS hA (fun _ => rfl) (by decide) (by decide) (Nat.le_of_ble_eq_true rfl) (Nat.le_of_ble_eq_true rfl) (Nat.le_of_ble_eq_true rfl) dX1_init_15 (fun q_2 H hP hD hS => ?_)
  have hP : va_P G vwCl [(h0, .inr (1, [.ref q_1, .null, .null])), (q_1, .inl (cy 0, 6, .inl (fun _ => 0))), (q_2, .inl (cy 0, 6, .inl (fun _ => 0)))] H := hP
  have hD : va_D A [(h0, .inr (1, [.ref q_1, .null, .null])), (q_1, .inl (cy 0, 6, .inl (fun _ => 0))), (q_2, .inl (cy 0, 6, .inl (fun _ => 0)))] := hD
  refine W.widen (k := 2) (n := 12) (Nat.le_of_ble_eq_true rfl) (Nat.le_of_ble_eq_true rfl) ?_
  refine va_putF (ci := 1) (v := .ref q_2) (ty := .array .int) (C := RX1) (T := TX1) (N := 3) hx hb hts inX1 tyX1 tyX1_ok nmX1 hown hK hP hD hS 0 rfl rfl 1 (by decide) (hts _ gm_123) (fun _ h9 => h9) rfl hin rfl (by decide +kernel) rfl rfl (Nat.le_of_ble_eq_true rfl) dX1_init_17 (fun H locs hP hD hS => ?_)
  have hP : va_P G vwCl [(h0, .inr (1, [.ref q_1, .ref q_2, .null])), (q_1, .inl (cy 0, 6, .inl (fun _ => 0))), (q_2, .inl (cy 0, 6, .inl (fun _ => 0)))] H := hP
  have hD : va_D A [(h0, .inr (1, [.ref q_1, .ref q_2, .null])), (q_1, .inl (cy 0, 6, .inl (fun _ => 0))), (q_2, .inl (cy 0, 6, .inl (fun _ => 0)))] := hD
  refine lv_aload_n hx hb dX1_init_20 rfl (lv_at hl 0 rfl) ?_
  refine lv_bipush (v := 6) hx hb dX1_init_21 (by decide) ?_
  refine gz_newa (atype := .int) (t0 := 0) (a0 := (6, .inl (fun _ => 0))) hx hb rfl (fun _ _ h9 => h9) (hts _ gm_98) rfl hK hP hD hS hA (fun _ => rfl) (by decide) (by decide) (Nat.le_of_ble_eq_true rfl) (Nat.le_of_ble_eq_true rfl) (Nat.le_of_ble_eq_true rfl) dX1_init_23 (fun q_3 H hP hD hS => ?_)
  have hP : va_P G vwCl [(h0, .inr (1, [.ref q_1, .ref q_2, .null])), (q_1, .inl (cy 0, 6, .inl (fun _ => 0))), (q_2, .inl (cy 0, 6, .inl (fun _ => 0))), (q_3, .inl (cy 0, 6, .inl (fun _ => 0)))] H := hP
  have hD : va_D A [(h0, .inr (1, [.ref q_1, .ref q_2, .null])), (q_1, .inl (cy 0, 6, .inl (fun _ => 0))), (q_2, .inl (cy 0, 6, .inl (fun _ => 0))), (q_3, .inl (cy 0, 6, .inl (fun _ => 0)))] := hD
  refine W.widen (k := 3) (n := 18) (Nat.le_of_ble_eq_true rfl) (Nat.le_of_ble_eq_true rfl) ?_
  refine va_putF (ci := 1) (v := .ref q_3) (ty := .array .int) (C := RX1) (T := TX1) (N := 3) hx hb hts inX1 tyX1 tyX1_ok nmX1 hown hK hP hD hS 0 rfl rfl 2 (by decide) (hts _ gm_125) (fun _ h9 => h9) rfl hin rfl (by decide +kernel) rfl rfl (Nat.le_of_ble_eq_true rfl) dX1_init_25 (fun H locs hP hD hS => ?_)
  have hP : va_P G vwCl [(h0, .inr (1, [.ref q_1, .ref q_2, .ref q_3])), (q_1, .inl (cy 0, 6, .inl (fun _ => 0))), (q_2, .inl (cy 0, 6, .inl (fun _ => 0))), (q_3, .inl (cy 0, 6, .inl (fun _ => 0)))] H := hP
  have hD : va_D A [(h0, .inr (1, [.ref q_1, .ref q_2, .ref q_3])), (q_1, .inl (cy 0, 6, .inl (fun _ => 0))), (q_2, .inl (cy 0, 6, .inl (fun _ => 0))), (q_3, .inl (cy 0, 6, .inl (fun _ => 0)))] := hD
  refine lv_aload_n hx hb dX1_init_28 rfl (lv_at hl 0 rfl) ?_
  refine va_get (ci := 1) (v := .ref q_2) (C := RX1) (T := TX1) (N := 3) hx hb hts inX1 hown hK hP 0 rfl rfl 1 (by decide) (hts _ gm_123) (fun _ h9 => h9) rfl dX1_init_29 ?_
  refine lv_iconst (v := (-1)) hx hb dX1_init_32 (by decide) ?_
  refine gz_aftv (va_runS (As := [.ref q_2, .int (-1)]) (rest := []) ⟨hx, hb, hml, hown, hts⟩ (c_fill l G cy H.size q_2 6 (fun _ => 0) (-1) (by decide)) ⟨(gz_cb (n := 2) hts gm_119 gm_6 gm_108 ⟨by decide +kernel, by decide +kernel, by decide +kernel⟩ ⟨Nat.le_of_ble_eq_true rfl, Nat.le_of_ble_eq_true rfl⟩), hts _ gm_107⟩ (gz_preS hK hov hP hD [2] (by decide) rfl) rfl rfl hl.1 rfl (lv_room (Nat.le_of_ble_eq_true rfl)) dX1_init_33 ⟨Nat.le_of_ble_eq_true rfl, Nat.le_of_ble_eq_true rfl⟩) hP hD hS hA [2] [0, 1, 3] rfl rfl (by decide) (by decide) (fun u_4 H locs hw_4 hP hD hS => ?_)
  have hP : va_P G vwCl [(h0, .inr (1, [.ref q_1, .ref q_2, .ref q_3])), (q_1, .inl (cy 0, 6, .inl (fun _ => 0))), (q_3, .inl (cy 0, 6, .inl (fun _ => 0))), (q_2, .inl (cy 0, 6, .inl (fun _ => (-1))))] H := hP
  have hD : va_D A [(h0, .inr (1, [.ref q_1, .ref q_2, .ref q_3])), (q_1, .inl (cy 0, 6, .inl (fun _ => 0))), (q_3, .inl (cy 0, 6, .inl (fun _ => 0))), (q_2, .inl (cy 0, 6, .inl (fun _ => (-1))))] := hD
  refine lv_aload_n hx hb dX1_init_36 rfl (lv_at hl 0 rfl) ?_
  refine va_get (ci := 1) (v := .ref q_3) (C := RX1) (T := TX1) (N := 3) hx hb hts inX1 hown hK hP 0 rfl rfl 2 (by decide) (hts _ gm_125) (fun _ h9 => h9) rfl dX1_init_37 ?_
  refine lv_iconst (v := (-1)) hx hb dX1_init_40 (by decide) ?_
  refine gz_aftv (va_runS (As := [.ref q_3, .int (-1)]) (rest := []) ⟨hx, hb, hml, hown, hts⟩ (c_fill l G cy H.size q_3 6 (fun _ => 0) (-1) (by decide)) ⟨(gz_cb (n := 2) hts gm_119 gm_6 gm_108 ⟨by decide +kernel, by decide +kernel, by decide +kernel⟩ ⟨Nat.le_of_ble_eq_true rfl, Nat.le_of_ble_eq_true rfl⟩), hts _ gm_107⟩ (gz_preS hK hov hP hD [2] (by decide) rfl) rfl rfl hl.1 rfl (lv_room (Nat.le_of_ble_eq_true rfl)) dX1_init_41 ⟨Nat.le_of_ble_eq_true rfl, Nat.le_of_ble_eq_true rfl⟩) hP hD hS hA [2] [0, 1, 3] rfl rfl (by decide) (by decide) (fun u_5 H locs hw_5 hP hD hS => ?_)
  have hP : va_P G vwCl [(h0, .inr (1, [.ref q_1, .ref q_2, .ref q_3])), (q_1, .inl (cy 0, 6, .inl (fun _ => 0))), (q_2, .inl (cy 0, 6, .inl (fun _ => (-1)))), (q_3, .inl (cy 0, 6, .inl (fun _ => (-1))))] H := hP
  have hD : va_D A [(h0, .inr (1, [.ref q_1, .ref q_2, .ref q_3])), (q_1, .inl (cy 0, 6, .inl (fun _ => 0))), (q_2, .inl (cy 0, 6, .inl (fun _ => (-1)))), (q_3, .inl (cy 0, 6, .inl (fun _ => (-1))))] := hD
  exact gz_vret (cf := (fun (u : (Nat → Nat)) => [(h0, .inr (1, [.ref (u 0), .ref (u 1), .ref (u 2)])), ((u 0), .inl (cy 0, 6, .inl (fun _ => 0))), ((u 1), .inl (cy 0, 6, .inl (fun _ => (-1)))), ((u 2), .inl (cy 0, 6, .inl (fun _ => (-1))))])) (post := (fun (u : (Nat → Nat)) => True)) hx hb hr hlocks hK hP hD hS (fun k => match k with | 0 => q_1 | 1 => q_2 | 2 => q_3 | _ => 0) [0, 1, 2, 3] trivial (by decide) rfl (Nat.le_of_ble_eq_true rfl) (Nat.le_of_ble_eq_true rfl) dX1_init_44

set_option maxHeartbeats 4000000 in
set_option maxRecDepth 100000 in
/-- WellCourt$Ledger.<init> -/
theorem c_X5_init (l : Launch) (G : va_G) (cy : Nat → ClassId) (sz : Nat) (h0 : Nat)  : gMv l yX5_init cX5_init 1 ({ frames := 1, cells := 7, slots := 1806, locals := 20 }) G cy sz [.ref h0] [(h0, .inr (5, [.null, .int 0]))] (fun (u : (Nat → Nat)) => True) (fun (u : (Nat → Nat)) => [(h0, .inr (5, [.ref (u 0), .int 0]))]) := by
  refine gz_start (fun A => gQv G cy _ _ A) (by decide) (Nat.le_of_ble_eq_true rfl) ?_
  intro p e s m below meth c A ls H hx hb hr hml hlocks hin hown hts hK hov hsz hP hD hS hA hl
  have hl : lv_has ls 1 [(0, .ref h0)] := hl
  refine lv_aload_n hx hb dX5_init_0 rfl (lv_at hl 0 rfl) ?_
  refine W.objInit hx hb hown (hts _ gm_139) (hts _ gm_30) (hts _ gm_31) rfl (by rw [hml]; exact hl.1) rfl dX5_init_1 (Nat.le_of_ble_eq_true rfl) (Nat.le_of_ble_eq_true rfl) ?_
  refine W.eq (g2 := F0 m 4 ls []) rfl ?_
  refine lv_aload_n hx hb dX5_init_4 rfl (lv_at hl 0 rfl) ?_
  refine lv_bipush (v := 6) hx hb dX5_init_5 (by decide) ?_
  refine lv_sipush (v := 300) hx hb dX5_init_7 (by decide) ?_
  refine gz_mna (N' := 6) (K' := 300) hx hb hown (hts _ gm_140) hov.1 (hts _ gm_98) hK hP hD hS hA (by decide) (by decide) (by decide) (by decide) (Nat.le_of_ble_eq_true rfl) (Nat.le_of_ble_eq_true rfl) (Nat.le_of_ble_eq_true rfl) (Nat.le_of_ble_eq_true rfl) (Nat.le_of_ble_eq_true rfl) dX5_init_10 (fun q_1 r_2 H hP hD hS => ?_)
  have hP : va_P G vwCl [(h0, .inr (5, [.null, .int 0]))] H := va_P.sub hP [0] rfl
  have hD : va_D A [(h0, .inr (5, [.null, .int 0]))] := va_D.sub hD [0] (by decide) rfl
  refine W.widen (k := 7) (n := 1806) (Nat.le_of_ble_eq_true rfl) (Nat.le_of_ble_eq_true rfl) ?_
  refine va_putF (ci := 5) (v := .ref q_1) (ty := .array (.array .int)) (C := RX5) (T := TX5) (N := 2) hx hb hts inX5 tyX5 tyX5_ok nmX5 hown hK hP hD hS 0 rfl rfl 0 (by decide) (hts _ gm_141) (fun _ h9 => h9) rfl hin rfl (by decide +kernel) rfl rfl (Nat.le_of_ble_eq_true rfl) dX5_init_14 (fun H locs hP hD hS => ?_)
  have hP : va_P G vwCl [(h0, .inr (5, [.ref q_1, .int 0]))] H := hP
  have hD : va_D A [(h0, .inr (5, [.ref q_1, .int 0]))] := hD
  refine lv_aload_n hx hb dX5_init_17 rfl (lv_at hl 0 rfl) ?_
  refine lv_iconst (v := 0) hx hb dX5_init_18 (by decide) ?_
  refine va_put (ci := 5) (v := .int 0) (ty := .int) (C := RX5) (T := TX5) (N := 2) hx hb hts inX5 tyX5 tyX5_ok nmX5 hown hK hP hD hS 0 rfl rfl 1 (by decide) (hts _ gm_143) (fun _ h9 => h9) rfl (by decide +kernel) rfl rfl (Nat.le_of_ble_eq_true rfl) dX5_init_19 (fun H locs hP hD hS => ?_)
  have hP : va_P G vwCl [(h0, .inr (5, [.ref q_1, .int 0]))] H := hP
  have hD : va_D A [(h0, .inr (5, [.ref q_1, .int 0]))] := hD
  exact gz_vret (cf := (fun (u : (Nat → Nat)) => [(h0, .inr (5, [.ref (u 0), .int 0]))])) (post := (fun (u : (Nat → Nat)) => True)) hx hb hr hlocks hK hP hD hS (fun k => match k with | 0 => q_1 | _ => 0) [0] trivial (by decide) rfl (Nat.le_of_ble_eq_true rfl) (Nat.le_of_ble_eq_true rfl) dX5_init_22

set_option maxHeartbeats 4000000 in
set_option maxRecDepth 100000 in
/-- WellCourt$Flock.<init> -/
theorem c_X2_init (l : Launch) (G : va_G) (cy : Nat → ClassId) (sz : Nat) (h0 : Nat)  : gMv l yX2_init cX2_init 1 ({ frames := 1, cells := 5, slots := 20, locals := 23 }) G cy sz [.ref h0] [(h0, .inr (2, [.null, .null, .null, .null, .null]))] (fun (u : (Nat → Nat)) => True) (fun (u : (Nat → Nat)) => [(h0, .inr (2, [.ref (u 0), .ref (u 1), .ref (u 2), .ref (u 3), .ref (u 4)])), ((u 0), .inl (cy 0, 4, .inl (fun _ => (-1))))]) := by
  refine gz_start (fun A => gQv G cy _ _ A) (by decide) (Nat.le_of_ble_eq_true rfl) ?_
  intro p e s m below meth c A ls H hx hb hr hml hlocks hin hown hts hK hov hsz hP hD hS hA hl
  have hl : lv_has ls 1 [(0, .ref h0)] := hl
  refine lv_aload_n hx hb dX2_init_0 rfl (lv_at hl 0 rfl) ?_
  refine W.objInit hx hb hown (hts _ gm_155) (hts _ gm_30) (hts _ gm_31) rfl (by rw [hml]; exact hl.1) rfl dX2_init_1 (Nat.le_of_ble_eq_true rfl) (Nat.le_of_ble_eq_true rfl) ?_
  refine W.eq (g2 := F0 m 4 ls []) rfl ?_
  refine lv_aload_n hx hb dX2_init_4 rfl (lv_at hl 0 rfl) ?_
  refine lv_iconst (v := 4) hx hb dX2_init_5 (by decide) ?_
  refine gz_newa (atype := .int) (t0 := 0) (a0 := (4, .inl (fun _ => 0))) hx hb rfl (fun _ _ h9 => h9) (hts _ gm_98) rfl hK hP hD hS hA (fun _ => rfl) (by decide) (by decide) (Nat.le_of_ble_eq_true rfl) (Nat.le_of_ble_eq_true rfl) (Nat.le_of_ble_eq_true rfl) dX2_init_6 (fun q_1 H hP hD hS => ?_)
  have hP : va_P G vwCl [(h0, .inr (2, [.null, .null, .null, .null, .null])), (q_1, .inl (cy 0, 4, .inl (fun _ => 0)))] H := hP
  have hD : va_D A [(h0, .inr (2, [.null, .null, .null, .null, .null])), (q_1, .inl (cy 0, 4, .inl (fun _ => 0)))] := hD
  refine W.widen (k := 1) (n := 4) (Nat.le_of_ble_eq_true rfl) (Nat.le_of_ble_eq_true rfl) ?_
  refine va_putF (ci := 2) (v := .ref q_1) (ty := .array .int) (C := RX2) (T := TX2) (N := 5) hx hb hts inX2 tyX2 tyX2_ok nmX2 hown hK hP hD hS 0 rfl rfl 0 (by decide) (hts _ gm_157) (fun _ h9 => h9) rfl hin rfl (by decide +kernel) rfl rfl (Nat.le_of_ble_eq_true rfl) dX2_init_8 (fun H locs hP hD hS => ?_)
  have hP : va_P G vwCl [(h0, .inr (2, [.ref q_1, .null, .null, .null, .null])), (q_1, .inl (cy 0, 4, .inl (fun _ => 0)))] H := hP
  have hD : va_D A [(h0, .inr (2, [.ref q_1, .null, .null, .null, .null])), (q_1, .inl (cy 0, 4, .inl (fun _ => 0)))] := hD
  refine lv_aload_n hx hb dX2_init_11 rfl (lv_at hl 0 rfl) ?_
  refine lv_iconst (v := 4) hx hb dX2_init_12 (by decide) ?_
  refine gz_newa (atype := .int) (t0 := 0) (a0 := (4, .inl (fun _ => 0))) hx hb rfl (fun _ _ h9 => h9) (hts _ gm_98) rfl hK hP hD hS hA (fun _ => rfl) (by decide) (by decide) (Nat.le_of_ble_eq_true rfl) (Nat.le_of_ble_eq_true rfl) (Nat.le_of_ble_eq_true rfl) dX2_init_13 (fun q_2 H hP hD hS => ?_)
  have hP : va_P G vwCl [(h0, .inr (2, [.ref q_1, .null, .null, .null, .null])), (q_1, .inl (cy 0, 4, .inl (fun _ => 0))), (q_2, .inl (cy 0, 4, .inl (fun _ => 0)))] H := hP
  have hD : va_D A [(h0, .inr (2, [.ref q_1, .null, .null, .null, .null])), (q_1, .inl (cy 0, 4, .inl (fun _ => 0))), (q_2, .inl (cy 0, 4, .inl (fun _ => 0)))] := hD
  refine W.widen (k := 2) (n := 8) (Nat.le_of_ble_eq_true rfl) (Nat.le_of_ble_eq_true rfl) ?_
  refine va_putF (ci := 2) (v := .ref q_2) (ty := .array .int) (C := RX2) (T := TX2) (N := 5) hx hb hts inX2 tyX2 tyX2_ok nmX2 hown hK hP hD hS 0 rfl rfl 1 (by decide) (hts _ gm_160) (fun _ h9 => h9) rfl hin rfl (by decide +kernel) rfl rfl (Nat.le_of_ble_eq_true rfl) dX2_init_15 (fun H locs hP hD hS => ?_)
  have hP : va_P G vwCl [(h0, .inr (2, [.ref q_1, .ref q_2, .null, .null, .null])), (q_1, .inl (cy 0, 4, .inl (fun _ => 0)))] H := va_P.sub hP [0, 1] rfl
  have hD : va_D A [(h0, .inr (2, [.ref q_1, .ref q_2, .null, .null, .null])), (q_1, .inl (cy 0, 4, .inl (fun _ => 0)))] := va_D.sub hD [0, 1] (by decide) rfl
  refine lv_aload_n hx hb dX2_init_18 rfl (lv_at hl 0 rfl) ?_
  refine lv_iconst (v := 4) hx hb dX2_init_19 (by decide) ?_
  refine gz_newa (atype := .int) (t0 := 0) (a0 := (4, .inl (fun _ => 0))) hx hb rfl (fun _ _ h9 => h9) (hts _ gm_98) rfl hK hP hD hS hA (fun _ => rfl) (by decide) (by decide) (Nat.le_of_ble_eq_true rfl) (Nat.le_of_ble_eq_true rfl) (Nat.le_of_ble_eq_true rfl) dX2_init_20 (fun q_3 H hP hD hS => ?_)
  have hP : va_P G vwCl [(h0, .inr (2, [.ref q_1, .ref q_2, .null, .null, .null])), (q_1, .inl (cy 0, 4, .inl (fun _ => 0))), (q_3, .inl (cy 0, 4, .inl (fun _ => 0)))] H := hP
  have hD : va_D A [(h0, .inr (2, [.ref q_1, .ref q_2, .null, .null, .null])), (q_1, .inl (cy 0, 4, .inl (fun _ => 0))), (q_3, .inl (cy 0, 4, .inl (fun _ => 0)))] := hD
  refine W.widen (k := 3) (n := 12) (Nat.le_of_ble_eq_true rfl) (Nat.le_of_ble_eq_true rfl) ?_
  refine va_putF (ci := 2) (v := .ref q_3) (ty := .array .int) (C := RX2) (T := TX2) (N := 5) hx hb hts inX2 tyX2 tyX2_ok nmX2 hown hK hP hD hS 0 rfl rfl 2 (by decide) (hts _ gm_162) (fun _ h9 => h9) rfl hin rfl (by decide +kernel) rfl rfl (Nat.le_of_ble_eq_true rfl) dX2_init_22 (fun H locs hP hD hS => ?_)
  have hP : va_P G vwCl [(h0, .inr (2, [.ref q_1, .ref q_2, .ref q_3, .null, .null])), (q_1, .inl (cy 0, 4, .inl (fun _ => 0)))] H := va_P.sub hP [0, 1] rfl
  have hD : va_D A [(h0, .inr (2, [.ref q_1, .ref q_2, .ref q_3, .null, .null])), (q_1, .inl (cy 0, 4, .inl (fun _ => 0)))] := va_D.sub hD [0, 1] (by decide) rfl
  refine lv_aload_n hx hb dX2_init_25 rfl (lv_at hl 0 rfl) ?_
  refine lv_iconst (v := 4) hx hb dX2_init_26 (by decide) ?_
  refine gz_newa (atype := .int) (t0 := 0) (a0 := (4, .inl (fun _ => 0))) hx hb rfl (fun _ _ h9 => h9) (hts _ gm_98) rfl hK hP hD hS hA (fun _ => rfl) (by decide) (by decide) (Nat.le_of_ble_eq_true rfl) (Nat.le_of_ble_eq_true rfl) (Nat.le_of_ble_eq_true rfl) dX2_init_27 (fun q_4 H hP hD hS => ?_)
  have hP : va_P G vwCl [(h0, .inr (2, [.ref q_1, .ref q_2, .ref q_3, .null, .null])), (q_1, .inl (cy 0, 4, .inl (fun _ => 0))), (q_4, .inl (cy 0, 4, .inl (fun _ => 0)))] H := hP
  have hD : va_D A [(h0, .inr (2, [.ref q_1, .ref q_2, .ref q_3, .null, .null])), (q_1, .inl (cy 0, 4, .inl (fun _ => 0))), (q_4, .inl (cy 0, 4, .inl (fun _ => 0)))] := hD
  refine W.widen (k := 4) (n := 16) (Nat.le_of_ble_eq_true rfl) (Nat.le_of_ble_eq_true rfl) ?_
  refine va_putF (ci := 2) (v := .ref q_4) (ty := .array .int) (C := RX2) (T := TX2) (N := 5) hx hb hts inX2 tyX2 tyX2_ok nmX2 hown hK hP hD hS 0 rfl rfl 3 (by decide) (hts _ gm_164) (fun _ h9 => h9) rfl hin rfl (by decide +kernel) rfl rfl (Nat.le_of_ble_eq_true rfl) dX2_init_29 (fun H locs hP hD hS => ?_)
  have hP : va_P G vwCl [(h0, .inr (2, [.ref q_1, .ref q_2, .ref q_3, .ref q_4, .null])), (q_1, .inl (cy 0, 4, .inl (fun _ => 0)))] H := va_P.sub hP [0, 1] rfl
  have hD : va_D A [(h0, .inr (2, [.ref q_1, .ref q_2, .ref q_3, .ref q_4, .null])), (q_1, .inl (cy 0, 4, .inl (fun _ => 0)))] := va_D.sub hD [0, 1] (by decide) rfl
  refine lv_aload_n hx hb dX2_init_32 rfl (lv_at hl 0 rfl) ?_
  refine lv_iconst (v := 4) hx hb dX2_init_33 (by decide) ?_
  refine gz_newa (atype := .int) (t0 := 0) (a0 := (4, .inl (fun _ => 0))) hx hb rfl (fun _ _ h9 => h9) (hts _ gm_98) rfl hK hP hD hS hA (fun _ => rfl) (by decide) (by decide) (Nat.le_of_ble_eq_true rfl) (Nat.le_of_ble_eq_true rfl) (Nat.le_of_ble_eq_true rfl) dX2_init_34 (fun q_5 H hP hD hS => ?_)
  have hP : va_P G vwCl [(h0, .inr (2, [.ref q_1, .ref q_2, .ref q_3, .ref q_4, .null])), (q_1, .inl (cy 0, 4, .inl (fun _ => 0))), (q_5, .inl (cy 0, 4, .inl (fun _ => 0)))] H := hP
  have hD : va_D A [(h0, .inr (2, [.ref q_1, .ref q_2, .ref q_3, .ref q_4, .null])), (q_1, .inl (cy 0, 4, .inl (fun _ => 0))), (q_5, .inl (cy 0, 4, .inl (fun _ => 0)))] := hD
  refine W.widen (k := 5) (n := 20) (Nat.le_of_ble_eq_true rfl) (Nat.le_of_ble_eq_true rfl) ?_
  refine va_putF (ci := 2) (v := .ref q_5) (ty := .array .int) (C := RX2) (T := TX2) (N := 5) hx hb hts inX2 tyX2 tyX2_ok nmX2 hown hK hP hD hS 0 rfl rfl 4 (by decide) (hts _ gm_167) (fun _ h9 => h9) rfl hin rfl (by decide +kernel) rfl rfl (Nat.le_of_ble_eq_true rfl) dX2_init_36 (fun H locs hP hD hS => ?_)
  have hP : va_P G vwCl [(h0, .inr (2, [.ref q_1, .ref q_2, .ref q_3, .ref q_4, .ref q_5])), (q_1, .inl (cy 0, 4, .inl (fun _ => 0)))] H := va_P.sub hP [0, 1] rfl
  have hD : va_D A [(h0, .inr (2, [.ref q_1, .ref q_2, .ref q_3, .ref q_4, .ref q_5])), (q_1, .inl (cy 0, 4, .inl (fun _ => 0)))] := va_D.sub hD [0, 1] (by decide) rfl
  refine lv_aload_n hx hb dX2_init_39 rfl (lv_at hl 0 rfl) ?_
  refine va_get (ci := 2) (v := .ref q_1) (C := RX2) (T := TX2) (N := 5) hx hb hts inX2 hown hK hP 0 rfl rfl 0 (by decide) (hts _ gm_157) (fun _ h9 => h9) rfl dX2_init_40 ?_
  refine lv_iconst (v := (-1)) hx hb dX2_init_43 (by decide) ?_
  refine gz_aftv (va_runS (As := [.ref q_1, .int (-1)]) (rest := []) ⟨hx, hb, hml, hown, hts⟩ (c_fill l G cy H.size q_1 4 (fun _ => 0) (-1) (by decide)) ⟨(gz_cb (n := 2) hts gm_156 gm_6 gm_108 ⟨by decide +kernel, by decide +kernel, by decide +kernel⟩ ⟨Nat.le_of_ble_eq_true rfl, Nat.le_of_ble_eq_true rfl⟩), hts _ gm_107⟩ (gz_preS hK hov hP hD [1] (by decide) rfl) rfl rfl hl.1 rfl (lv_room (Nat.le_of_ble_eq_true rfl)) dX2_init_44 ⟨Nat.le_of_ble_eq_true rfl, Nat.le_of_ble_eq_true rfl⟩) hP hD hS hA [1] [0] rfl rfl (by decide) (by decide) (fun u_6 H locs hw_6 hP hD hS => ?_)
  have hP : va_P G vwCl [(h0, .inr (2, [.ref q_1, .ref q_2, .ref q_3, .ref q_4, .ref q_5])), (q_1, .inl (cy 0, 4, .inl (fun _ => (-1))))] H := hP
  have hD : va_D A [(h0, .inr (2, [.ref q_1, .ref q_2, .ref q_3, .ref q_4, .ref q_5])), (q_1, .inl (cy 0, 4, .inl (fun _ => (-1))))] := hD
  exact gz_vret (cf := (fun (u : (Nat → Nat)) => [(h0, .inr (2, [.ref (u 0), .ref (u 1), .ref (u 2), .ref (u 3), .ref (u 4)])), ((u 0), .inl (cy 0, 4, .inl (fun _ => (-1))))])) (post := (fun (u : (Nat → Nat)) => True)) hx hb hr hlocks hK hP hD hS (fun k => match k with | 0 => q_1 | 1 => q_2 | 2 => q_3 | 3 => q_4 | 4 => q_5 | _ => 0) [0, 1] trivial (by decide) rfl (Nat.le_of_ble_eq_true rfl) (Nat.le_of_ble_eq_true rfl) dX2_init_47

set_option maxHeartbeats 4000000 in
set_option maxRecDepth 100000 in
/-- WellCourt$Law.<init> -/
theorem c_X4_init (l : Launch) (G : va_G) (cy : Nat → ClassId) (sz : Nat) (h0 : Nat)  : gMv l yX4_init cX4_init 1 ({ frames := 1, cells := 17, slots := 596, locals := 20 }) G cy sz [.ref h0] [(h0, .inr (4, [.int 0, .null, .null, .null, .null, .int 0, .null, .null, .null, .int 0, .null, .null, .null, .null]))] (fun (u : (Nat → Nat)) => True) (fun (u : (Nat → Nat)) => [(h0, .inr (4, [.int 0, .ref (u 0), .ref (u 1), .ref (u 2), .ref (u 3), .int 0, .ref (u 4), .ref (u 5), .ref (u 6), .int 0, .ref (u 7), .ref (u 8), .ref (u 9), .ref (u 10)])), ((u 1), .inl (cy 0, 6, .inl (fun _ => 0))), ((u 2), .inl (cy 0, 6, .inl (fun _ => 0))), ((u 3), .inl (cy 0, 6, .inl (fun _ => 0)))]) := by
  refine gz_start (fun A => gQv G cy _ _ A) (by decide) (Nat.le_of_ble_eq_true rfl) ?_
  intro p e s m below meth c A ls H hx hb hr hml hlocks hin hown hts hK hov hsz hP hD hS hA hl
  have hl : lv_has ls 1 [(0, .ref h0)] := hl
  refine lv_aload_n hx hb dX4_init_0 rfl (lv_at hl 0 rfl) ?_
  refine W.objInit hx hb hown (hts _ gm_186) (hts _ gm_30) (hts _ gm_31) rfl (by rw [hml]; exact hl.1) rfl dX4_init_1 (Nat.le_of_ble_eq_true rfl) (Nat.le_of_ble_eq_true rfl) ?_
  refine W.eq (g2 := F0 m 4 ls []) rfl ?_
  refine lv_aload_n hx hb dX4_init_4 rfl (lv_at hl 0 rfl) ?_
  refine lv_iconst (v := 0) hx hb dX4_init_5 (by decide) ?_
  refine va_put (ci := 4) (v := .int 0) (ty := .int) (C := RX4) (T := TX4) (N := 14) hx hb hts inX4 tyX4 tyX4_ok nmX4 hown hK hP hD hS 0 rfl rfl 0 (by decide) (hts _ gm_188) (fun _ h9 => h9) rfl (by decide +kernel) rfl rfl (Nat.le_of_ble_eq_true rfl) dX4_init_6 (fun H locs hP hD hS => ?_)
  have hP : va_P G vwCl [(h0, .inr (4, [.int 0, .null, .null, .null, .null, .int 0, .null, .null, .null, .int 0, .null, .null, .null, .null]))] H := hP
  have hD : va_D A [(h0, .inr (4, [.int 0, .null, .null, .null, .null, .int 0, .null, .null, .null, .int 0, .null, .null, .null, .null]))] := hD
  refine lv_aload_n hx hb dX4_init_9 rfl (lv_at hl 0 rfl) ?_
  refine lv_bipush (v := 6) hx hb dX4_init_10 (by decide) ?_
  refine lv_bipush (v := 72) hx hb dX4_init_12 (by decide) ?_
  refine gz_mna (N' := 6) (K' := 72) hx hb hown (hts _ gm_187) hov.1 (hts _ gm_98) hK hP hD hS hA (by decide) (by decide) (by decide) (by decide) (Nat.le_of_ble_eq_true rfl) (Nat.le_of_ble_eq_true rfl) (Nat.le_of_ble_eq_true rfl) (Nat.le_of_ble_eq_true rfl) (Nat.le_of_ble_eq_true rfl) dX4_init_14 (fun q_1 r_2 H hP hD hS => ?_)
  have hP : va_P G vwCl [(h0, .inr (4, [.int 0, .null, .null, .null, .null, .int 0, .null, .null, .null, .int 0, .null, .null, .null, .null]))] H := va_P.sub hP [0] rfl
  have hD : va_D A [(h0, .inr (4, [.int 0, .null, .null, .null, .null, .int 0, .null, .null, .null, .int 0, .null, .null, .null, .null]))] := va_D.sub hD [0] (by decide) rfl
  refine W.widen (k := 7) (n := 438) (Nat.le_of_ble_eq_true rfl) (Nat.le_of_ble_eq_true rfl) ?_
  refine va_putF (ci := 4) (v := .ref q_1) (ty := .array (.array .int)) (C := RX4) (T := TX4) (N := 14) hx hb hts inX4 tyX4 tyX4_ok nmX4 hown hK hP hD hS 0 rfl rfl 1 (by decide) (hts _ gm_191) (fun _ h9 => h9) rfl hin rfl (by decide +kernel) rfl rfl (Nat.le_of_ble_eq_true rfl) dX4_init_18 (fun H locs hP hD hS => ?_)
  have hP : va_P G vwCl [(h0, .inr (4, [.int 0, .ref q_1, .null, .null, .null, .int 0, .null, .null, .null, .int 0, .null, .null, .null, .null]))] H := hP
  have hD : va_D A [(h0, .inr (4, [.int 0, .ref q_1, .null, .null, .null, .int 0, .null, .null, .null, .int 0, .null, .null, .null, .null]))] := hD
  refine lv_aload_n hx hb dX4_init_21 rfl (lv_at hl 0 rfl) ?_
  refine lv_bipush (v := 6) hx hb dX4_init_22 (by decide) ?_
  refine gz_newa (atype := .int) (t0 := 0) (a0 := (6, .inl (fun _ => 0))) hx hb rfl (fun _ _ h9 => h9) (hts _ gm_98) rfl hK hP hD hS hA (fun _ => rfl) (by decide) (by decide) (Nat.le_of_ble_eq_true rfl) (Nat.le_of_ble_eq_true rfl) (Nat.le_of_ble_eq_true rfl) dX4_init_24 (fun q_3 H hP hD hS => ?_)
  have hP : va_P G vwCl [(h0, .inr (4, [.int 0, .ref q_1, .null, .null, .null, .int 0, .null, .null, .null, .int 0, .null, .null, .null, .null])), (q_3, .inl (cy 0, 6, .inl (fun _ => 0)))] H := hP
  have hD : va_D A [(h0, .inr (4, [.int 0, .ref q_1, .null, .null, .null, .int 0, .null, .null, .null, .int 0, .null, .null, .null, .null])), (q_3, .inl (cy 0, 6, .inl (fun _ => 0)))] := hD
  refine W.widen (k := 8) (n := 444) (Nat.le_of_ble_eq_true rfl) (Nat.le_of_ble_eq_true rfl) ?_
  refine va_putF (ci := 4) (v := .ref q_3) (ty := .array .int) (C := RX4) (T := TX4) (N := 14) hx hb hts inX4 tyX4 tyX4_ok nmX4 hown hK hP hD hS 0 rfl rfl 2 (by decide) (hts _ gm_192) (fun _ h9 => h9) rfl hin rfl (by decide +kernel) rfl rfl (Nat.le_of_ble_eq_true rfl) dX4_init_26 (fun H locs hP hD hS => ?_)
  have hP : va_P G vwCl [(h0, .inr (4, [.int 0, .ref q_1, .ref q_3, .null, .null, .int 0, .null, .null, .null, .int 0, .null, .null, .null, .null])), (q_3, .inl (cy 0, 6, .inl (fun _ => 0)))] H := hP
  have hD : va_D A [(h0, .inr (4, [.int 0, .ref q_1, .ref q_3, .null, .null, .int 0, .null, .null, .null, .int 0, .null, .null, .null, .null])), (q_3, .inl (cy 0, 6, .inl (fun _ => 0)))] := hD
  refine lv_aload_n hx hb dX4_init_29 rfl (lv_at hl 0 rfl) ?_
  refine lv_bipush (v := 6) hx hb dX4_init_30 (by decide) ?_
  refine gz_newa (atype := .int) (t0 := 0) (a0 := (6, .inl (fun _ => 0))) hx hb rfl (fun _ _ h9 => h9) (hts _ gm_98) rfl hK hP hD hS hA (fun _ => rfl) (by decide) (by decide) (Nat.le_of_ble_eq_true rfl) (Nat.le_of_ble_eq_true rfl) (Nat.le_of_ble_eq_true rfl) dX4_init_32 (fun q_4 H hP hD hS => ?_)
  have hP : va_P G vwCl [(h0, .inr (4, [.int 0, .ref q_1, .ref q_3, .null, .null, .int 0, .null, .null, .null, .int 0, .null, .null, .null, .null])), (q_3, .inl (cy 0, 6, .inl (fun _ => 0))), (q_4, .inl (cy 0, 6, .inl (fun _ => 0)))] H := hP
  have hD : va_D A [(h0, .inr (4, [.int 0, .ref q_1, .ref q_3, .null, .null, .int 0, .null, .null, .null, .int 0, .null, .null, .null, .null])), (q_3, .inl (cy 0, 6, .inl (fun _ => 0))), (q_4, .inl (cy 0, 6, .inl (fun _ => 0)))] := hD
  refine W.widen (k := 9) (n := 450) (Nat.le_of_ble_eq_true rfl) (Nat.le_of_ble_eq_true rfl) ?_
  refine va_putF (ci := 4) (v := .ref q_4) (ty := .array .int) (C := RX4) (T := TX4) (N := 14) hx hb hts inX4 tyX4 tyX4_ok nmX4 hown hK hP hD hS 0 rfl rfl 3 (by decide) (hts _ gm_193) (fun _ h9 => h9) rfl hin rfl (by decide +kernel) rfl rfl (Nat.le_of_ble_eq_true rfl) dX4_init_34 (fun H locs hP hD hS => ?_)
  have hP : va_P G vwCl [(h0, .inr (4, [.int 0, .ref q_1, .ref q_3, .ref q_4, .null, .int 0, .null, .null, .null, .int 0, .null, .null, .null, .null])), (q_3, .inl (cy 0, 6, .inl (fun _ => 0))), (q_4, .inl (cy 0, 6, .inl (fun _ => 0)))] H := hP
  have hD : va_D A [(h0, .inr (4, [.int 0, .ref q_1, .ref q_3, .ref q_4, .null, .int 0, .null, .null, .null, .int 0, .null, .null, .null, .null])), (q_3, .inl (cy 0, 6, .inl (fun _ => 0))), (q_4, .inl (cy 0, 6, .inl (fun _ => 0)))] := hD
  refine lv_aload_n hx hb dX4_init_37 rfl (lv_at hl 0 rfl) ?_
  refine lv_bipush (v := 6) hx hb dX4_init_38 (by decide) ?_
  refine gz_newa (atype := .int) (t0 := 0) (a0 := (6, .inl (fun _ => 0))) hx hb rfl (fun _ _ h9 => h9) (hts _ gm_98) rfl hK hP hD hS hA (fun _ => rfl) (by decide) (by decide) (Nat.le_of_ble_eq_true rfl) (Nat.le_of_ble_eq_true rfl) (Nat.le_of_ble_eq_true rfl) dX4_init_40 (fun q_5 H hP hD hS => ?_)
  have hP : va_P G vwCl [(h0, .inr (4, [.int 0, .ref q_1, .ref q_3, .ref q_4, .null, .int 0, .null, .null, .null, .int 0, .null, .null, .null, .null])), (q_3, .inl (cy 0, 6, .inl (fun _ => 0))), (q_4, .inl (cy 0, 6, .inl (fun _ => 0))), (q_5, .inl (cy 0, 6, .inl (fun _ => 0)))] H := hP
  have hD : va_D A [(h0, .inr (4, [.int 0, .ref q_1, .ref q_3, .ref q_4, .null, .int 0, .null, .null, .null, .int 0, .null, .null, .null, .null])), (q_3, .inl (cy 0, 6, .inl (fun _ => 0))), (q_4, .inl (cy 0, 6, .inl (fun _ => 0))), (q_5, .inl (cy 0, 6, .inl (fun _ => 0)))] := hD
  refine W.widen (k := 10) (n := 456) (Nat.le_of_ble_eq_true rfl) (Nat.le_of_ble_eq_true rfl) ?_
  refine va_putF (ci := 4) (v := .ref q_5) (ty := .array .int) (C := RX4) (T := TX4) (N := 14) hx hb hts inX4 tyX4 tyX4_ok nmX4 hown hK hP hD hS 0 rfl rfl 4 (by decide) (hts _ gm_194) (fun _ h9 => h9) rfl hin rfl (by decide +kernel) rfl rfl (Nat.le_of_ble_eq_true rfl) dX4_init_42 (fun H locs hP hD hS => ?_)
  have hP : va_P G vwCl [(h0, .inr (4, [.int 0, .ref q_1, .ref q_3, .ref q_4, .ref q_5, .int 0, .null, .null, .null, .int 0, .null, .null, .null, .null])), (q_3, .inl (cy 0, 6, .inl (fun _ => 0))), (q_4, .inl (cy 0, 6, .inl (fun _ => 0))), (q_5, .inl (cy 0, 6, .inl (fun _ => 0)))] H := hP
  have hD : va_D A [(h0, .inr (4, [.int 0, .ref q_1, .ref q_3, .ref q_4, .ref q_5, .int 0, .null, .null, .null, .int 0, .null, .null, .null, .null])), (q_3, .inl (cy 0, 6, .inl (fun _ => 0))), (q_4, .inl (cy 0, 6, .inl (fun _ => 0))), (q_5, .inl (cy 0, 6, .inl (fun _ => 0)))] := hD
  refine lv_aload_n hx hb dX4_init_45 rfl (lv_at hl 0 rfl) ?_
  refine lv_iconst (v := 0) hx hb dX4_init_46 (by decide) ?_
  refine va_put (ci := 4) (v := .int 0) (ty := .int) (C := RX4) (T := TX4) (N := 14) hx hb hts inX4 tyX4 tyX4_ok nmX4 hown hK hP hD hS 0 rfl rfl 5 (by decide) (hts _ gm_195) (fun _ h9 => h9) rfl (by decide +kernel) rfl rfl (Nat.le_of_ble_eq_true rfl) dX4_init_47 (fun H locs hP hD hS => ?_)
  have hP : va_P G vwCl [(h0, .inr (4, [.int 0, .ref q_1, .ref q_3, .ref q_4, .ref q_5, .int 0, .null, .null, .null, .int 0, .null, .null, .null, .null])), (q_3, .inl (cy 0, 6, .inl (fun _ => 0))), (q_4, .inl (cy 0, 6, .inl (fun _ => 0))), (q_5, .inl (cy 0, 6, .inl (fun _ => 0)))] H := hP
  have hD : va_D A [(h0, .inr (4, [.int 0, .ref q_1, .ref q_3, .ref q_4, .ref q_5, .int 0, .null, .null, .null, .int 0, .null, .null, .null, .null])), (q_3, .inl (cy 0, 6, .inl (fun _ => 0))), (q_4, .inl (cy 0, 6, .inl (fun _ => 0))), (q_5, .inl (cy 0, 6, .inl (fun _ => 0)))] := hD
  refine lv_aload_n hx hb dX4_init_50 rfl (lv_at hl 0 rfl) ?_
  refine lv_bipush (v := 20) hx hb dX4_init_51 (by decide) ?_
  refine gz_newa (atype := .int) (t0 := 0) (a0 := (20, .inl (fun _ => 0))) hx hb rfl (fun _ _ h9 => h9) (hts _ gm_98) rfl hK hP hD hS hA (fun _ => rfl) (by decide) (by decide) (Nat.le_of_ble_eq_true rfl) (Nat.le_of_ble_eq_true rfl) (Nat.le_of_ble_eq_true rfl) dX4_init_53 (fun q_6 H hP hD hS => ?_)
  have hP : va_P G vwCl [(h0, .inr (4, [.int 0, .ref q_1, .ref q_3, .ref q_4, .ref q_5, .int 0, .null, .null, .null, .int 0, .null, .null, .null, .null])), (q_3, .inl (cy 0, 6, .inl (fun _ => 0))), (q_4, .inl (cy 0, 6, .inl (fun _ => 0))), (q_5, .inl (cy 0, 6, .inl (fun _ => 0))), (q_6, .inl (cy 0, 20, .inl (fun _ => 0)))] H := hP
  have hD : va_D A [(h0, .inr (4, [.int 0, .ref q_1, .ref q_3, .ref q_4, .ref q_5, .int 0, .null, .null, .null, .int 0, .null, .null, .null, .null])), (q_3, .inl (cy 0, 6, .inl (fun _ => 0))), (q_4, .inl (cy 0, 6, .inl (fun _ => 0))), (q_5, .inl (cy 0, 6, .inl (fun _ => 0))), (q_6, .inl (cy 0, 20, .inl (fun _ => 0)))] := hD
  refine W.widen (k := 11) (n := 476) (Nat.le_of_ble_eq_true rfl) (Nat.le_of_ble_eq_true rfl) ?_
  refine va_putF (ci := 4) (v := .ref q_6) (ty := .array .int) (C := RX4) (T := TX4) (N := 14) hx hb hts inX4 tyX4 tyX4_ok nmX4 hown hK hP hD hS 0 rfl rfl 6 (by decide) (hts _ gm_196) (fun _ h9 => h9) rfl hin rfl (by decide +kernel) rfl rfl (Nat.le_of_ble_eq_true rfl) dX4_init_55 (fun H locs hP hD hS => ?_)
  have hP : va_P G vwCl [(h0, .inr (4, [.int 0, .ref q_1, .ref q_3, .ref q_4, .ref q_5, .int 0, .ref q_6, .null, .null, .int 0, .null, .null, .null, .null])), (q_3, .inl (cy 0, 6, .inl (fun _ => 0))), (q_4, .inl (cy 0, 6, .inl (fun _ => 0))), (q_5, .inl (cy 0, 6, .inl (fun _ => 0)))] H := va_P.sub hP [0, 1, 2, 3] rfl
  have hD : va_D A [(h0, .inr (4, [.int 0, .ref q_1, .ref q_3, .ref q_4, .ref q_5, .int 0, .ref q_6, .null, .null, .int 0, .null, .null, .null, .null])), (q_3, .inl (cy 0, 6, .inl (fun _ => 0))), (q_4, .inl (cy 0, 6, .inl (fun _ => 0))), (q_5, .inl (cy 0, 6, .inl (fun _ => 0)))] := va_D.sub hD [0, 1, 2, 3] (by decide) rfl
  refine lv_aload_n hx hb dX4_init_58 rfl (lv_at hl 0 rfl) ?_
  refine lv_bipush (v := 20) hx hb dX4_init_59 (by decide) ?_
  refine gz_newa (atype := .int) (t0 := 0) (a0 := (20, .inl (fun _ => 0))) hx hb rfl (fun _ _ h9 => h9) (hts _ gm_98) rfl hK hP hD hS hA (fun _ => rfl) (by decide) (by decide) (Nat.le_of_ble_eq_true rfl) (Nat.le_of_ble_eq_true rfl) (Nat.le_of_ble_eq_true rfl) dX4_init_61 (fun q_7 H hP hD hS => ?_)
  have hP : va_P G vwCl [(h0, .inr (4, [.int 0, .ref q_1, .ref q_3, .ref q_4, .ref q_5, .int 0, .ref q_6, .null, .null, .int 0, .null, .null, .null, .null])), (q_3, .inl (cy 0, 6, .inl (fun _ => 0))), (q_4, .inl (cy 0, 6, .inl (fun _ => 0))), (q_5, .inl (cy 0, 6, .inl (fun _ => 0))), (q_7, .inl (cy 0, 20, .inl (fun _ => 0)))] H := hP
  have hD : va_D A [(h0, .inr (4, [.int 0, .ref q_1, .ref q_3, .ref q_4, .ref q_5, .int 0, .ref q_6, .null, .null, .int 0, .null, .null, .null, .null])), (q_3, .inl (cy 0, 6, .inl (fun _ => 0))), (q_4, .inl (cy 0, 6, .inl (fun _ => 0))), (q_5, .inl (cy 0, 6, .inl (fun _ => 0))), (q_7, .inl (cy 0, 20, .inl (fun _ => 0)))] := hD
  refine W.widen (k := 12) (n := 496) (Nat.le_of_ble_eq_true rfl) (Nat.le_of_ble_eq_true rfl) ?_
  refine va_putF (ci := 4) (v := .ref q_7) (ty := .array .int) (C := RX4) (T := TX4) (N := 14) hx hb hts inX4 tyX4 tyX4_ok nmX4 hown hK hP hD hS 0 rfl rfl 7 (by decide) (hts _ gm_197) (fun _ h9 => h9) rfl hin rfl (by decide +kernel) rfl rfl (Nat.le_of_ble_eq_true rfl) dX4_init_63 (fun H locs hP hD hS => ?_)
  have hP : va_P G vwCl [(h0, .inr (4, [.int 0, .ref q_1, .ref q_3, .ref q_4, .ref q_5, .int 0, .ref q_6, .ref q_7, .null, .int 0, .null, .null, .null, .null])), (q_3, .inl (cy 0, 6, .inl (fun _ => 0))), (q_4, .inl (cy 0, 6, .inl (fun _ => 0))), (q_5, .inl (cy 0, 6, .inl (fun _ => 0)))] H := va_P.sub hP [0, 1, 2, 3] rfl
  have hD : va_D A [(h0, .inr (4, [.int 0, .ref q_1, .ref q_3, .ref q_4, .ref q_5, .int 0, .ref q_6, .ref q_7, .null, .int 0, .null, .null, .null, .null])), (q_3, .inl (cy 0, 6, .inl (fun _ => 0))), (q_4, .inl (cy 0, 6, .inl (fun _ => 0))), (q_5, .inl (cy 0, 6, .inl (fun _ => 0)))] := va_D.sub hD [0, 1, 2, 3] (by decide) rfl
  refine lv_aload_n hx hb dX4_init_66 rfl (lv_at hl 0 rfl) ?_
  refine lv_bipush (v := 20) hx hb dX4_init_67 (by decide) ?_
  refine gz_newa (atype := .int) (t0 := 0) (a0 := (20, .inl (fun _ => 0))) hx hb rfl (fun _ _ h9 => h9) (hts _ gm_98) rfl hK hP hD hS hA (fun _ => rfl) (by decide) (by decide) (Nat.le_of_ble_eq_true rfl) (Nat.le_of_ble_eq_true rfl) (Nat.le_of_ble_eq_true rfl) dX4_init_69 (fun q_8 H hP hD hS => ?_)
  have hP : va_P G vwCl [(h0, .inr (4, [.int 0, .ref q_1, .ref q_3, .ref q_4, .ref q_5, .int 0, .ref q_6, .ref q_7, .null, .int 0, .null, .null, .null, .null])), (q_3, .inl (cy 0, 6, .inl (fun _ => 0))), (q_4, .inl (cy 0, 6, .inl (fun _ => 0))), (q_5, .inl (cy 0, 6, .inl (fun _ => 0))), (q_8, .inl (cy 0, 20, .inl (fun _ => 0)))] H := hP
  have hD : va_D A [(h0, .inr (4, [.int 0, .ref q_1, .ref q_3, .ref q_4, .ref q_5, .int 0, .ref q_6, .ref q_7, .null, .int 0, .null, .null, .null, .null])), (q_3, .inl (cy 0, 6, .inl (fun _ => 0))), (q_4, .inl (cy 0, 6, .inl (fun _ => 0))), (q_5, .inl (cy 0, 6, .inl (fun _ => 0))), (q_8, .inl (cy 0, 20, .inl (fun _ => 0)))] := hD
  refine W.widen (k := 13) (n := 516) (Nat.le_of_ble_eq_true rfl) (Nat.le_of_ble_eq_true rfl) ?_
  refine va_putF (ci := 4) (v := .ref q_8) (ty := .array .int) (C := RX4) (T := TX4) (N := 14) hx hb hts inX4 tyX4 tyX4_ok nmX4 hown hK hP hD hS 0 rfl rfl 8 (by decide) (hts _ gm_198) (fun _ h9 => h9) rfl hin rfl (by decide +kernel) rfl rfl (Nat.le_of_ble_eq_true rfl) dX4_init_71 (fun H locs hP hD hS => ?_)
  have hP : va_P G vwCl [(h0, .inr (4, [.int 0, .ref q_1, .ref q_3, .ref q_4, .ref q_5, .int 0, .ref q_6, .ref q_7, .ref q_8, .int 0, .null, .null, .null, .null])), (q_3, .inl (cy 0, 6, .inl (fun _ => 0))), (q_4, .inl (cy 0, 6, .inl (fun _ => 0))), (q_5, .inl (cy 0, 6, .inl (fun _ => 0)))] H := va_P.sub hP [0, 1, 2, 3] rfl
  have hD : va_D A [(h0, .inr (4, [.int 0, .ref q_1, .ref q_3, .ref q_4, .ref q_5, .int 0, .ref q_6, .ref q_7, .ref q_8, .int 0, .null, .null, .null, .null])), (q_3, .inl (cy 0, 6, .inl (fun _ => 0))), (q_4, .inl (cy 0, 6, .inl (fun _ => 0))), (q_5, .inl (cy 0, 6, .inl (fun _ => 0)))] := va_D.sub hD [0, 1, 2, 3] (by decide) rfl
  refine lv_aload_n hx hb dX4_init_74 rfl (lv_at hl 0 rfl) ?_
  refine lv_iconst (v := 0) hx hb dX4_init_75 (by decide) ?_
  refine va_put (ci := 4) (v := .int 0) (ty := .int) (C := RX4) (T := TX4) (N := 14) hx hb hts inX4 tyX4 tyX4_ok nmX4 hown hK hP hD hS 0 rfl rfl 9 (by decide) (hts _ gm_199) (fun _ h9 => h9) rfl (by decide +kernel) rfl rfl (Nat.le_of_ble_eq_true rfl) dX4_init_76 (fun H locs hP hD hS => ?_)
  have hP : va_P G vwCl [(h0, .inr (4, [.int 0, .ref q_1, .ref q_3, .ref q_4, .ref q_5, .int 0, .ref q_6, .ref q_7, .ref q_8, .int 0, .null, .null, .null, .null])), (q_3, .inl (cy 0, 6, .inl (fun _ => 0))), (q_4, .inl (cy 0, 6, .inl (fun _ => 0))), (q_5, .inl (cy 0, 6, .inl (fun _ => 0)))] H := hP
  have hD : va_D A [(h0, .inr (4, [.int 0, .ref q_1, .ref q_3, .ref q_4, .ref q_5, .int 0, .ref q_6, .ref q_7, .ref q_8, .int 0, .null, .null, .null, .null])), (q_3, .inl (cy 0, 6, .inl (fun _ => 0))), (q_4, .inl (cy 0, 6, .inl (fun _ => 0))), (q_5, .inl (cy 0, 6, .inl (fun _ => 0)))] := hD
  refine lv_aload_n hx hb dX4_init_79 rfl (lv_at hl 0 rfl) ?_
  refine lv_bipush (v := 20) hx hb dX4_init_80 (by decide) ?_
  refine gz_newa (atype := .int) (t0 := 0) (a0 := (20, .inl (fun _ => 0))) hx hb rfl (fun _ _ h9 => h9) (hts _ gm_98) rfl hK hP hD hS hA (fun _ => rfl) (by decide) (by decide) (Nat.le_of_ble_eq_true rfl) (Nat.le_of_ble_eq_true rfl) (Nat.le_of_ble_eq_true rfl) dX4_init_82 (fun q_9 H hP hD hS => ?_)
  have hP : va_P G vwCl [(h0, .inr (4, [.int 0, .ref q_1, .ref q_3, .ref q_4, .ref q_5, .int 0, .ref q_6, .ref q_7, .ref q_8, .int 0, .null, .null, .null, .null])), (q_3, .inl (cy 0, 6, .inl (fun _ => 0))), (q_4, .inl (cy 0, 6, .inl (fun _ => 0))), (q_5, .inl (cy 0, 6, .inl (fun _ => 0))), (q_9, .inl (cy 0, 20, .inl (fun _ => 0)))] H := hP
  have hD : va_D A [(h0, .inr (4, [.int 0, .ref q_1, .ref q_3, .ref q_4, .ref q_5, .int 0, .ref q_6, .ref q_7, .ref q_8, .int 0, .null, .null, .null, .null])), (q_3, .inl (cy 0, 6, .inl (fun _ => 0))), (q_4, .inl (cy 0, 6, .inl (fun _ => 0))), (q_5, .inl (cy 0, 6, .inl (fun _ => 0))), (q_9, .inl (cy 0, 20, .inl (fun _ => 0)))] := hD
  refine W.widen (k := 14) (n := 536) (Nat.le_of_ble_eq_true rfl) (Nat.le_of_ble_eq_true rfl) ?_
  refine va_putF (ci := 4) (v := .ref q_9) (ty := .array .int) (C := RX4) (T := TX4) (N := 14) hx hb hts inX4 tyX4 tyX4_ok nmX4 hown hK hP hD hS 0 rfl rfl 10 (by decide) (hts _ gm_200) (fun _ h9 => h9) rfl hin rfl (by decide +kernel) rfl rfl (Nat.le_of_ble_eq_true rfl) dX4_init_84 (fun H locs hP hD hS => ?_)
  have hP : va_P G vwCl [(h0, .inr (4, [.int 0, .ref q_1, .ref q_3, .ref q_4, .ref q_5, .int 0, .ref q_6, .ref q_7, .ref q_8, .int 0, .ref q_9, .null, .null, .null])), (q_3, .inl (cy 0, 6, .inl (fun _ => 0))), (q_4, .inl (cy 0, 6, .inl (fun _ => 0))), (q_5, .inl (cy 0, 6, .inl (fun _ => 0)))] H := va_P.sub hP [0, 1, 2, 3] rfl
  have hD : va_D A [(h0, .inr (4, [.int 0, .ref q_1, .ref q_3, .ref q_4, .ref q_5, .int 0, .ref q_6, .ref q_7, .ref q_8, .int 0, .ref q_9, .null, .null, .null])), (q_3, .inl (cy 0, 6, .inl (fun _ => 0))), (q_4, .inl (cy 0, 6, .inl (fun _ => 0))), (q_5, .inl (cy 0, 6, .inl (fun _ => 0)))] := va_D.sub hD [0, 1, 2, 3] (by decide) rfl
  refine lv_aload_n hx hb dX4_init_87 rfl (lv_at hl 0 rfl) ?_
  refine lv_bipush (v := 20) hx hb dX4_init_88 (by decide) ?_
  refine gz_newa (atype := .int) (t0 := 0) (a0 := (20, .inl (fun _ => 0))) hx hb rfl (fun _ _ h9 => h9) (hts _ gm_98) rfl hK hP hD hS hA (fun _ => rfl) (by decide) (by decide) (Nat.le_of_ble_eq_true rfl) (Nat.le_of_ble_eq_true rfl) (Nat.le_of_ble_eq_true rfl) dX4_init_90 (fun q_10 H hP hD hS => ?_)
  have hP : va_P G vwCl [(h0, .inr (4, [.int 0, .ref q_1, .ref q_3, .ref q_4, .ref q_5, .int 0, .ref q_6, .ref q_7, .ref q_8, .int 0, .ref q_9, .null, .null, .null])), (q_3, .inl (cy 0, 6, .inl (fun _ => 0))), (q_4, .inl (cy 0, 6, .inl (fun _ => 0))), (q_5, .inl (cy 0, 6, .inl (fun _ => 0))), (q_10, .inl (cy 0, 20, .inl (fun _ => 0)))] H := hP
  have hD : va_D A [(h0, .inr (4, [.int 0, .ref q_1, .ref q_3, .ref q_4, .ref q_5, .int 0, .ref q_6, .ref q_7, .ref q_8, .int 0, .ref q_9, .null, .null, .null])), (q_3, .inl (cy 0, 6, .inl (fun _ => 0))), (q_4, .inl (cy 0, 6, .inl (fun _ => 0))), (q_5, .inl (cy 0, 6, .inl (fun _ => 0))), (q_10, .inl (cy 0, 20, .inl (fun _ => 0)))] := hD
  refine W.widen (k := 15) (n := 556) (Nat.le_of_ble_eq_true rfl) (Nat.le_of_ble_eq_true rfl) ?_
  refine va_putF (ci := 4) (v := .ref q_10) (ty := .array .int) (C := RX4) (T := TX4) (N := 14) hx hb hts inX4 tyX4 tyX4_ok nmX4 hown hK hP hD hS 0 rfl rfl 11 (by decide) (hts _ gm_201) (fun _ h9 => h9) rfl hin rfl (by decide +kernel) rfl rfl (Nat.le_of_ble_eq_true rfl) dX4_init_92 (fun H locs hP hD hS => ?_)
  have hP : va_P G vwCl [(h0, .inr (4, [.int 0, .ref q_1, .ref q_3, .ref q_4, .ref q_5, .int 0, .ref q_6, .ref q_7, .ref q_8, .int 0, .ref q_9, .ref q_10, .null, .null])), (q_3, .inl (cy 0, 6, .inl (fun _ => 0))), (q_4, .inl (cy 0, 6, .inl (fun _ => 0))), (q_5, .inl (cy 0, 6, .inl (fun _ => 0)))] H := va_P.sub hP [0, 1, 2, 3] rfl
  have hD : va_D A [(h0, .inr (4, [.int 0, .ref q_1, .ref q_3, .ref q_4, .ref q_5, .int 0, .ref q_6, .ref q_7, .ref q_8, .int 0, .ref q_9, .ref q_10, .null, .null])), (q_3, .inl (cy 0, 6, .inl (fun _ => 0))), (q_4, .inl (cy 0, 6, .inl (fun _ => 0))), (q_5, .inl (cy 0, 6, .inl (fun _ => 0)))] := va_D.sub hD [0, 1, 2, 3] (by decide) rfl
  refine lv_aload_n hx hb dX4_init_95 rfl (lv_at hl 0 rfl) ?_
  refine lv_bipush (v := 20) hx hb dX4_init_96 (by decide) ?_
  refine gz_newa (atype := .int) (t0 := 0) (a0 := (20, .inl (fun _ => 0))) hx hb rfl (fun _ _ h9 => h9) (hts _ gm_98) rfl hK hP hD hS hA (fun _ => rfl) (by decide) (by decide) (Nat.le_of_ble_eq_true rfl) (Nat.le_of_ble_eq_true rfl) (Nat.le_of_ble_eq_true rfl) dX4_init_98 (fun q_11 H hP hD hS => ?_)
  have hP : va_P G vwCl [(h0, .inr (4, [.int 0, .ref q_1, .ref q_3, .ref q_4, .ref q_5, .int 0, .ref q_6, .ref q_7, .ref q_8, .int 0, .ref q_9, .ref q_10, .null, .null])), (q_3, .inl (cy 0, 6, .inl (fun _ => 0))), (q_4, .inl (cy 0, 6, .inl (fun _ => 0))), (q_5, .inl (cy 0, 6, .inl (fun _ => 0))), (q_11, .inl (cy 0, 20, .inl (fun _ => 0)))] H := hP
  have hD : va_D A [(h0, .inr (4, [.int 0, .ref q_1, .ref q_3, .ref q_4, .ref q_5, .int 0, .ref q_6, .ref q_7, .ref q_8, .int 0, .ref q_9, .ref q_10, .null, .null])), (q_3, .inl (cy 0, 6, .inl (fun _ => 0))), (q_4, .inl (cy 0, 6, .inl (fun _ => 0))), (q_5, .inl (cy 0, 6, .inl (fun _ => 0))), (q_11, .inl (cy 0, 20, .inl (fun _ => 0)))] := hD
  refine W.widen (k := 16) (n := 576) (Nat.le_of_ble_eq_true rfl) (Nat.le_of_ble_eq_true rfl) ?_
  refine va_putF (ci := 4) (v := .ref q_11) (ty := .array .int) (C := RX4) (T := TX4) (N := 14) hx hb hts inX4 tyX4 tyX4_ok nmX4 hown hK hP hD hS 0 rfl rfl 12 (by decide) (hts _ gm_202) (fun _ h9 => h9) rfl hin rfl (by decide +kernel) rfl rfl (Nat.le_of_ble_eq_true rfl) dX4_init_100 (fun H locs hP hD hS => ?_)
  have hP : va_P G vwCl [(h0, .inr (4, [.int 0, .ref q_1, .ref q_3, .ref q_4, .ref q_5, .int 0, .ref q_6, .ref q_7, .ref q_8, .int 0, .ref q_9, .ref q_10, .ref q_11, .null])), (q_3, .inl (cy 0, 6, .inl (fun _ => 0))), (q_4, .inl (cy 0, 6, .inl (fun _ => 0))), (q_5, .inl (cy 0, 6, .inl (fun _ => 0)))] H := va_P.sub hP [0, 1, 2, 3] rfl
  have hD : va_D A [(h0, .inr (4, [.int 0, .ref q_1, .ref q_3, .ref q_4, .ref q_5, .int 0, .ref q_6, .ref q_7, .ref q_8, .int 0, .ref q_9, .ref q_10, .ref q_11, .null])), (q_3, .inl (cy 0, 6, .inl (fun _ => 0))), (q_4, .inl (cy 0, 6, .inl (fun _ => 0))), (q_5, .inl (cy 0, 6, .inl (fun _ => 0)))] := va_D.sub hD [0, 1, 2, 3] (by decide) rfl
  refine lv_aload_n hx hb dX4_init_103 rfl (lv_at hl 0 rfl) ?_
  refine lv_bipush (v := 20) hx hb dX4_init_104 (by decide) ?_
  refine gz_newa (atype := .int) (t0 := 0) (a0 := (20, .inl (fun _ => 0))) hx hb rfl (fun _ _ h9 => h9) (hts _ gm_98) rfl hK hP hD hS hA (fun _ => rfl) (by decide) (by decide) (Nat.le_of_ble_eq_true rfl) (Nat.le_of_ble_eq_true rfl) (Nat.le_of_ble_eq_true rfl) dX4_init_106 (fun q_12 H hP hD hS => ?_)
  have hP : va_P G vwCl [(h0, .inr (4, [.int 0, .ref q_1, .ref q_3, .ref q_4, .ref q_5, .int 0, .ref q_6, .ref q_7, .ref q_8, .int 0, .ref q_9, .ref q_10, .ref q_11, .null])), (q_3, .inl (cy 0, 6, .inl (fun _ => 0))), (q_4, .inl (cy 0, 6, .inl (fun _ => 0))), (q_5, .inl (cy 0, 6, .inl (fun _ => 0))), (q_12, .inl (cy 0, 20, .inl (fun _ => 0)))] H := hP
  have hD : va_D A [(h0, .inr (4, [.int 0, .ref q_1, .ref q_3, .ref q_4, .ref q_5, .int 0, .ref q_6, .ref q_7, .ref q_8, .int 0, .ref q_9, .ref q_10, .ref q_11, .null])), (q_3, .inl (cy 0, 6, .inl (fun _ => 0))), (q_4, .inl (cy 0, 6, .inl (fun _ => 0))), (q_5, .inl (cy 0, 6, .inl (fun _ => 0))), (q_12, .inl (cy 0, 20, .inl (fun _ => 0)))] := hD
  refine W.widen (k := 17) (n := 596) (Nat.le_of_ble_eq_true rfl) (Nat.le_of_ble_eq_true rfl) ?_
  refine va_putF (ci := 4) (v := .ref q_12) (ty := .array .int) (C := RX4) (T := TX4) (N := 14) hx hb hts inX4 tyX4 tyX4_ok nmX4 hown hK hP hD hS 0 rfl rfl 13 (by decide) (hts _ gm_203) (fun _ h9 => h9) rfl hin rfl (by decide +kernel) rfl rfl (Nat.le_of_ble_eq_true rfl) dX4_init_108 (fun H locs hP hD hS => ?_)
  have hP : va_P G vwCl [(h0, .inr (4, [.int 0, .ref q_1, .ref q_3, .ref q_4, .ref q_5, .int 0, .ref q_6, .ref q_7, .ref q_8, .int 0, .ref q_9, .ref q_10, .ref q_11, .ref q_12])), (q_3, .inl (cy 0, 6, .inl (fun _ => 0))), (q_4, .inl (cy 0, 6, .inl (fun _ => 0))), (q_5, .inl (cy 0, 6, .inl (fun _ => 0)))] H := va_P.sub hP [0, 1, 2, 3] rfl
  have hD : va_D A [(h0, .inr (4, [.int 0, .ref q_1, .ref q_3, .ref q_4, .ref q_5, .int 0, .ref q_6, .ref q_7, .ref q_8, .int 0, .ref q_9, .ref q_10, .ref q_11, .ref q_12])), (q_3, .inl (cy 0, 6, .inl (fun _ => 0))), (q_4, .inl (cy 0, 6, .inl (fun _ => 0))), (q_5, .inl (cy 0, 6, .inl (fun _ => 0)))] := va_D.sub hD [0, 1, 2, 3] (by decide) rfl
  exact gz_vret (cf := (fun (u : (Nat → Nat)) => [(h0, .inr (4, [.int 0, .ref (u 0), .ref (u 1), .ref (u 2), .ref (u 3), .int 0, .ref (u 4), .ref (u 5), .ref (u 6), .int 0, .ref (u 7), .ref (u 8), .ref (u 9), .ref (u 10)])), ((u 1), .inl (cy 0, 6, .inl (fun _ => 0))), ((u 2), .inl (cy 0, 6, .inl (fun _ => 0))), ((u 3), .inl (cy 0, 6, .inl (fun _ => 0)))])) (post := (fun (u : (Nat → Nat)) => True)) hx hb hr hlocks hK hP hD hS (fun k => match k with | 0 => q_1 | 1 => q_3 | 2 => q_4 | 3 => q_5 | 4 => q_6 | 5 => q_7 | 6 => q_8 | 7 => q_9 | 8 => q_10 | 9 => q_11 | 10 => q_12 | _ => 0) [0, 1, 2, 3] trivial (by decide) rfl (Nat.le_of_ble_eq_true rfl) (Nat.le_of_ble_eq_true rfl) dX4_init_111

set_option maxHeartbeats 4000000 in
set_option maxRecDepth 100000 in
/-- WellCourt$Planner.<init> -/
theorem c_X6_init (l : Launch) (G : va_G) (cy : Nat → ClassId) (sz : Nat) (h0 : Nat) (h1 : Nat) (h2 : Nat) (h3 : Nat) (h4 : Nat)  : gMv l yX6_init cX6_init 6 ({ frames := 2, cells := 111, slots := 667, locals := 43 }) G cy sz [.ref h0, .ref h1, .ref h2, .ref h3, .ref h4] [(h0, .inr (6, [.null, .null, .null, .null, .int 0, .null, .null, .null, .null, .null, .int 0, .int 0, .null, .int 0, .int 0]))] (fun (u : (Nat → Nat)) => True) (fun (u : (Nat → Nat)) => [(h0, .inr (6, [.ref h1, .ref h2, .ref h3, .ref h4, .int 0, .ref (u 0), .ref (u 1), .ref (u 2), .ref (u 3), .ref (u 4), .int 0, .int 0, .ref (u 5), .int 0, .int 0]))]) := by
  refine gz_start (fun A => gQv G cy _ _ A) (by decide) (Nat.le_of_ble_eq_true rfl) ?_
  intro p e s m below meth c A ls H hx hb hr hml hlocks hin hown hts hK hov hsz hP hD hS hA hl
  have hl : lv_has ls 6 [(0, .ref h0), (1, .ref h1), (2, .ref h2), (3, .ref h3), (4, .ref h4)] := hl
  refine lv_aload_n hx hb dX6_init_0 rfl (lv_at hl 0 rfl) ?_
  refine W.objInit hx hb hown (hts _ gm_238) (hts _ gm_30) (hts _ gm_31) rfl (by rw [hml]; exact hl.1) rfl dX6_init_1 (Nat.le_of_ble_eq_true rfl) (Nat.le_of_ble_eq_true rfl) ?_
  refine W.eq (g2 := F0 m 4 ls []) rfl ?_
  refine lv_aload_n hx hb dX6_init_4 rfl (lv_at hl 0 rfl) ?_
  refine lv_iconst (v := 0) hx hb dX6_init_5 (by decide) ?_
  refine va_put (ci := 6) (v := .int 0) (ty := .int) (C := RX6) (T := TX6) (N := 15) hx hb hts inX6 tyX6 tyX6_ok nmX6 hown hK hP hD hS 0 rfl rfl 4 (by decide) (hts _ gm_247) (fun _ h9 => h9) rfl (by decide +kernel) rfl rfl (Nat.le_of_ble_eq_true rfl) dX6_init_6 (fun H locs hP hD hS => ?_)
  have hP : va_P G vwCl [(h0, .inr (6, [.null, .null, .null, .null, .int 0, .null, .null, .null, .null, .null, .int 0, .int 0, .null, .int 0, .int 0]))] H := hP
  have hD : va_D A [(h0, .inr (6, [.null, .null, .null, .null, .int 0, .null, .null, .null, .null, .null, .int 0, .int 0, .null, .int 0, .int 0]))] := hD
  refine lv_aload_n hx hb dX6_init_9 rfl (lv_at hl 0 rfl) ?_
  refine lv_bipush (v := 15) hx hb dX6_init_10 (by decide) ?_
  refine gz_newq hx hb hown (hts _ gm_239) hov.2.1 hK hP hD hS hA (by decide) (N' := 15) (by decide) (Nat.le_of_ble_eq_true rfl) (Nat.le_of_ble_eq_true rfl) (Nat.le_of_ble_eq_true rfl) dX6_init_12 (fun q_1 H hP hD hS => ?_)
  have hP : va_P G vwCl [(h0, .inr (6, [.null, .null, .null, .null, .int 0, .null, .null, .null, .null, .null, .int 0, .int 0, .null, .int 0, .int 0])), (q_1, .inl (cy 4, 15, .inr (.inr (.inr (.inr (fun _ => none))))))] H := hP
  have hD : va_D A [(h0, .inr (6, [.null, .null, .null, .null, .int 0, .null, .null, .null, .null, .null, .int 0, .int 0, .null, .int 0, .int 0])), (q_1, .inl (cy 4, 15, .inr (.inr (.inr (.inr (fun _ => none))))))] := hD
  refine W.widen (k := 1) (n := 15) (Nat.le_of_ble_eq_true rfl) (Nat.le_of_ble_eq_true rfl) ?_
  refine va_putF (ci := 6) (v := .ref q_1) (ty := .array (.object "WellCourt$Day")) (C := RX6) (T := TX6) (N := 15) hx hb hts inX6 tyX6 tyX6_ok nmX6 hown hK hP hD hS 0 rfl rfl 5 (by decide) (hts _ gm_248) (fun _ h9 => h9) rfl hin rfl (by decide +kernel) rfl rfl (Nat.le_of_ble_eq_true rfl) dX6_init_15 (fun H locs hP hD hS => ?_)
  have hP : va_P G vwCl [(h0, .inr (6, [.null, .null, .null, .null, .int 0, .ref q_1, .null, .null, .null, .null, .int 0, .int 0, .null, .int 0, .int 0])), (q_1, .inl (cy 4, 15, .inr (.inr (.inr (.inr (fun _ => none))))))] H := hP
  have hD : va_D A [(h0, .inr (6, [.null, .null, .null, .null, .int 0, .ref q_1, .null, .null, .null, .null, .int 0, .int 0, .null, .int 0, .int 0])), (q_1, .inl (cy 4, 15, .inr (.inr (.inr (.inr (fun _ => none))))))] := hD
  refine lv_aload_n hx hb dX6_init_18 rfl (lv_at hl 0 rfl) ?_
  refine lv_bipush (v := 15) hx hb dX6_init_19 (by decide) ?_
  refine lv_iconst (v := 4) hx hb dX6_init_21 (by decide) ?_
  refine gz_mna (N' := 15) (K' := 4) hx hb hown (hts _ gm_241) hov.1 (hts _ gm_98) hK hP hD hS hA (by decide) (by decide) (by decide) (by decide) (Nat.le_of_ble_eq_true rfl) (Nat.le_of_ble_eq_true rfl) (Nat.le_of_ble_eq_true rfl) (Nat.le_of_ble_eq_true rfl) (Nat.le_of_ble_eq_true rfl) dX6_init_22 (fun q_2 r_3 H hP hD hS => ?_)
  have hP : va_P G vwCl [(h0, .inr (6, [.null, .null, .null, .null, .int 0, .ref q_1, .null, .null, .null, .null, .int 0, .int 0, .null, .int 0, .int 0])), (q_1, .inl (cy 4, 15, .inr (.inr (.inr (.inr (fun _ => none))))))] H := va_P.sub hP [0, 1] rfl
  have hD : va_D A [(h0, .inr (6, [.null, .null, .null, .null, .int 0, .ref q_1, .null, .null, .null, .null, .int 0, .int 0, .null, .int 0, .int 0])), (q_1, .inl (cy 4, 15, .inr (.inr (.inr (.inr (fun _ => none))))))] := va_D.sub hD [0, 1] (by decide) rfl
  refine W.widen (k := 17) (n := 90) (Nat.le_of_ble_eq_true rfl) (Nat.le_of_ble_eq_true rfl) ?_
  refine va_putF (ci := 6) (v := .ref q_2) (ty := .array (.array .int)) (C := RX6) (T := TX6) (N := 15) hx hb hts inX6 tyX6 tyX6_ok nmX6 hown hK hP hD hS 0 rfl rfl 6 (by decide) (hts _ gm_249) (fun _ h9 => h9) rfl hin rfl (by decide +kernel) rfl rfl (Nat.le_of_ble_eq_true rfl) dX6_init_26 (fun H locs hP hD hS => ?_)
  have hP : va_P G vwCl [(h0, .inr (6, [.null, .null, .null, .null, .int 0, .ref q_1, .ref q_2, .null, .null, .null, .int 0, .int 0, .null, .int 0, .int 0])), (q_1, .inl (cy 4, 15, .inr (.inr (.inr (.inr (fun _ => none))))))] H := hP
  have hD : va_D A [(h0, .inr (6, [.null, .null, .null, .null, .int 0, .ref q_1, .ref q_2, .null, .null, .null, .int 0, .int 0, .null, .int 0, .int 0])), (q_1, .inl (cy 4, 15, .inr (.inr (.inr (.inr (fun _ => none))))))] := hD
  refine lv_aload_n hx hb dX6_init_29 rfl (lv_at hl 0 rfl) ?_
  refine lv_bipush (v := 15) hx hb dX6_init_30 (by decide) ?_
  refine lv_iconst (v := 4) hx hb dX6_init_32 (by decide) ?_
  refine gz_mna (N' := 15) (K' := 4) hx hb hown (hts _ gm_241) hov.1 (hts _ gm_98) hK hP hD hS hA (by decide) (by decide) (by decide) (by decide) (Nat.le_of_ble_eq_true rfl) (Nat.le_of_ble_eq_true rfl) (Nat.le_of_ble_eq_true rfl) (Nat.le_of_ble_eq_true rfl) (Nat.le_of_ble_eq_true rfl) dX6_init_33 (fun q_4 r_5 H hP hD hS => ?_)
  have hP : va_P G vwCl [(h0, .inr (6, [.null, .null, .null, .null, .int 0, .ref q_1, .ref q_2, .null, .null, .null, .int 0, .int 0, .null, .int 0, .int 0])), (q_1, .inl (cy 4, 15, .inr (.inr (.inr (.inr (fun _ => none))))))] H := va_P.sub hP [0, 1] rfl
  have hD : va_D A [(h0, .inr (6, [.null, .null, .null, .null, .int 0, .ref q_1, .ref q_2, .null, .null, .null, .int 0, .int 0, .null, .int 0, .int 0])), (q_1, .inl (cy 4, 15, .inr (.inr (.inr (.inr (fun _ => none))))))] := va_D.sub hD [0, 1] (by decide) rfl
  refine W.widen (k := 33) (n := 165) (Nat.le_of_ble_eq_true rfl) (Nat.le_of_ble_eq_true rfl) ?_
  refine va_putF (ci := 6) (v := .ref q_4) (ty := .array (.array .int)) (C := RX6) (T := TX6) (N := 15) hx hb hts inX6 tyX6 tyX6_ok nmX6 hown hK hP hD hS 0 rfl rfl 7 (by decide) (hts _ gm_250) (fun _ h9 => h9) rfl hin rfl (by decide +kernel) rfl rfl (Nat.le_of_ble_eq_true rfl) dX6_init_37 (fun H locs hP hD hS => ?_)
  have hP : va_P G vwCl [(h0, .inr (6, [.null, .null, .null, .null, .int 0, .ref q_1, .ref q_2, .ref q_4, .null, .null, .int 0, .int 0, .null, .int 0, .int 0])), (q_1, .inl (cy 4, 15, .inr (.inr (.inr (.inr (fun _ => none))))))] H := hP
  have hD : va_D A [(h0, .inr (6, [.null, .null, .null, .null, .int 0, .ref q_1, .ref q_2, .ref q_4, .null, .null, .int 0, .int 0, .null, .int 0, .int 0])), (q_1, .inl (cy 4, 15, .inr (.inr (.inr (.inr (fun _ => none))))))] := hD
  refine lv_aload_n hx hb dX6_init_40 rfl (lv_at hl 0 rfl) ?_
  refine lv_bipush (v := 15) hx hb dX6_init_41 (by decide) ?_
  refine lv_iconst (v := 4) hx hb dX6_init_43 (by decide) ?_
  refine gz_mna (N' := 15) (K' := 4) hx hb hown (hts _ gm_241) hov.1 (hts _ gm_98) hK hP hD hS hA (by decide) (by decide) (by decide) (by decide) (Nat.le_of_ble_eq_true rfl) (Nat.le_of_ble_eq_true rfl) (Nat.le_of_ble_eq_true rfl) (Nat.le_of_ble_eq_true rfl) (Nat.le_of_ble_eq_true rfl) dX6_init_44 (fun q_6 r_7 H hP hD hS => ?_)
  have hP : va_P G vwCl [(h0, .inr (6, [.null, .null, .null, .null, .int 0, .ref q_1, .ref q_2, .ref q_4, .null, .null, .int 0, .int 0, .null, .int 0, .int 0])), (q_1, .inl (cy 4, 15, .inr (.inr (.inr (.inr (fun _ => none))))))] H := va_P.sub hP [0, 1] rfl
  have hD : va_D A [(h0, .inr (6, [.null, .null, .null, .null, .int 0, .ref q_1, .ref q_2, .ref q_4, .null, .null, .int 0, .int 0, .null, .int 0, .int 0])), (q_1, .inl (cy 4, 15, .inr (.inr (.inr (.inr (fun _ => none))))))] := va_D.sub hD [0, 1] (by decide) rfl
  refine W.widen (k := 49) (n := 240) (Nat.le_of_ble_eq_true rfl) (Nat.le_of_ble_eq_true rfl) ?_
  refine va_putF (ci := 6) (v := .ref q_6) (ty := .array (.array .int)) (C := RX6) (T := TX6) (N := 15) hx hb hts inX6 tyX6 tyX6_ok nmX6 hown hK hP hD hS 0 rfl rfl 8 (by decide) (hts _ gm_251) (fun _ h9 => h9) rfl hin rfl (by decide +kernel) rfl rfl (Nat.le_of_ble_eq_true rfl) dX6_init_48 (fun H locs hP hD hS => ?_)
  have hP : va_P G vwCl [(h0, .inr (6, [.null, .null, .null, .null, .int 0, .ref q_1, .ref q_2, .ref q_4, .ref q_6, .null, .int 0, .int 0, .null, .int 0, .int 0])), (q_1, .inl (cy 4, 15, .inr (.inr (.inr (.inr (fun _ => none))))))] H := hP
  have hD : va_D A [(h0, .inr (6, [.null, .null, .null, .null, .int 0, .ref q_1, .ref q_2, .ref q_4, .ref q_6, .null, .int 0, .int 0, .null, .int 0, .int 0])), (q_1, .inl (cy 4, 15, .inr (.inr (.inr (.inr (fun _ => none))))))] := hD
  refine lv_aload_n hx hb dX6_init_51 rfl (lv_at hl 0 rfl) ?_
  refine lv_bipush (v := 56) hx hb dX6_init_52 (by decide) ?_
  refine gz_newa (atype := .int) (t0 := 0) (a0 := (56, .inl (fun _ => 0))) hx hb rfl (fun _ _ h9 => h9) (hts _ gm_98) rfl hK hP hD hS hA (fun _ => rfl) (by decide) (by decide) (Nat.le_of_ble_eq_true rfl) (Nat.le_of_ble_eq_true rfl) (Nat.le_of_ble_eq_true rfl) dX6_init_54 (fun q_8 H hP hD hS => ?_)
  have hP : va_P G vwCl [(h0, .inr (6, [.null, .null, .null, .null, .int 0, .ref q_1, .ref q_2, .ref q_4, .ref q_6, .null, .int 0, .int 0, .null, .int 0, .int 0])), (q_1, .inl (cy 4, 15, .inr (.inr (.inr (.inr (fun _ => none)))))), (q_8, .inl (cy 0, 56, .inl (fun _ => 0)))] H := hP
  have hD : va_D A [(h0, .inr (6, [.null, .null, .null, .null, .int 0, .ref q_1, .ref q_2, .ref q_4, .ref q_6, .null, .int 0, .int 0, .null, .int 0, .int 0])), (q_1, .inl (cy 4, 15, .inr (.inr (.inr (.inr (fun _ => none)))))), (q_8, .inl (cy 0, 56, .inl (fun _ => 0)))] := hD
  refine W.widen (k := 50) (n := 296) (Nat.le_of_ble_eq_true rfl) (Nat.le_of_ble_eq_true rfl) ?_
  refine va_putF (ci := 6) (v := .ref q_8) (ty := .array .int) (C := RX6) (T := TX6) (N := 15) hx hb hts inX6 tyX6 tyX6_ok nmX6 hown hK hP hD hS 0 rfl rfl 9 (by decide) (hts _ gm_252) (fun _ h9 => h9) rfl hin rfl (by decide +kernel) rfl rfl (Nat.le_of_ble_eq_true rfl) dX6_init_56 (fun H locs hP hD hS => ?_)
  have hP : va_P G vwCl [(h0, .inr (6, [.null, .null, .null, .null, .int 0, .ref q_1, .ref q_2, .ref q_4, .ref q_6, .ref q_8, .int 0, .int 0, .null, .int 0, .int 0])), (q_1, .inl (cy 4, 15, .inr (.inr (.inr (.inr (fun _ => none))))))] H := va_P.sub hP [0, 1] rfl
  have hD : va_D A [(h0, .inr (6, [.null, .null, .null, .null, .int 0, .ref q_1, .ref q_2, .ref q_4, .ref q_6, .ref q_8, .int 0, .int 0, .null, .int 0, .int 0])), (q_1, .inl (cy 4, 15, .inr (.inr (.inr (.inr (fun _ => none))))))] := va_D.sub hD [0, 1] (by decide) rfl
  refine lv_aload_n hx hb dX6_init_59 rfl (lv_at hl 0 rfl) ?_
  refine lv_iconst (v := 0) hx hb dX6_init_60 (by decide) ?_
  refine va_put (ci := 6) (v := .int 0) (ty := .int) (C := RX6) (T := TX6) (N := 15) hx hb hts inX6 tyX6 tyX6_ok nmX6 hown hK hP hD hS 0 rfl rfl 10 (by decide) (hts _ gm_253) (fun _ h9 => h9) rfl (by decide +kernel) rfl rfl (Nat.le_of_ble_eq_true rfl) dX6_init_61 (fun H locs hP hD hS => ?_)
  have hP : va_P G vwCl [(h0, .inr (6, [.null, .null, .null, .null, .int 0, .ref q_1, .ref q_2, .ref q_4, .ref q_6, .ref q_8, .int 0, .int 0, .null, .int 0, .int 0])), (q_1, .inl (cy 4, 15, .inr (.inr (.inr (.inr (fun _ => none))))))] H := hP
  have hD : va_D A [(h0, .inr (6, [.null, .null, .null, .null, .int 0, .ref q_1, .ref q_2, .ref q_4, .ref q_6, .ref q_8, .int 0, .int 0, .null, .int 0, .int 0])), (q_1, .inl (cy 4, 15, .inr (.inr (.inr (.inr (fun _ => none))))))] := hD
  refine lv_aload_n hx hb dX6_init_64 rfl (lv_at hl 0 rfl) ?_
  refine lv_iconst (v := 0) hx hb dX6_init_65 (by decide) ?_
  refine va_put (ci := 6) (v := .int 0) (ty := .int) (C := RX6) (T := TX6) (N := 15) hx hb hts inX6 tyX6 tyX6_ok nmX6 hown hK hP hD hS 0 rfl rfl 11 (by decide) (hts _ gm_255) (fun _ h9 => h9) rfl (by decide +kernel) rfl rfl (Nat.le_of_ble_eq_true rfl) dX6_init_66 (fun H locs hP hD hS => ?_)
  have hP : va_P G vwCl [(h0, .inr (6, [.null, .null, .null, .null, .int 0, .ref q_1, .ref q_2, .ref q_4, .ref q_6, .ref q_8, .int 0, .int 0, .null, .int 0, .int 0])), (q_1, .inl (cy 4, 15, .inr (.inr (.inr (.inr (fun _ => none))))))] H := hP
  have hD : va_D A [(h0, .inr (6, [.null, .null, .null, .null, .int 0, .ref q_1, .ref q_2, .ref q_4, .ref q_6, .ref q_8, .int 0, .int 0, .null, .int 0, .int 0])), (q_1, .inl (cy 4, 15, .inr (.inr (.inr (.inr (fun _ => none))))))] := hD
  refine lv_aload_n hx hb dX6_init_69 rfl (lv_at hl 0 rfl) ?_
  refine lv_bipush (v := 56) hx hb dX6_init_70 (by decide) ?_
  refine gz_newa (atype := .int) (t0 := 0) (a0 := (56, .inl (fun _ => 0))) hx hb rfl (fun _ _ h9 => h9) (hts _ gm_98) rfl hK hP hD hS hA (fun _ => rfl) (by decide) (by decide) (Nat.le_of_ble_eq_true rfl) (Nat.le_of_ble_eq_true rfl) (Nat.le_of_ble_eq_true rfl) dX6_init_72 (fun q_9 H hP hD hS => ?_)
  have hP : va_P G vwCl [(h0, .inr (6, [.null, .null, .null, .null, .int 0, .ref q_1, .ref q_2, .ref q_4, .ref q_6, .ref q_8, .int 0, .int 0, .null, .int 0, .int 0])), (q_1, .inl (cy 4, 15, .inr (.inr (.inr (.inr (fun _ => none)))))), (q_9, .inl (cy 0, 56, .inl (fun _ => 0)))] H := hP
  have hD : va_D A [(h0, .inr (6, [.null, .null, .null, .null, .int 0, .ref q_1, .ref q_2, .ref q_4, .ref q_6, .ref q_8, .int 0, .int 0, .null, .int 0, .int 0])), (q_1, .inl (cy 4, 15, .inr (.inr (.inr (.inr (fun _ => none)))))), (q_9, .inl (cy 0, 56, .inl (fun _ => 0)))] := hD
  refine W.widen (k := 51) (n := 352) (Nat.le_of_ble_eq_true rfl) (Nat.le_of_ble_eq_true rfl) ?_
  refine va_putF (ci := 6) (v := .ref q_9) (ty := .array .int) (C := RX6) (T := TX6) (N := 15) hx hb hts inX6 tyX6 tyX6_ok nmX6 hown hK hP hD hS 0 rfl rfl 12 (by decide) (hts _ gm_257) (fun _ h9 => h9) rfl hin rfl (by decide +kernel) rfl rfl (Nat.le_of_ble_eq_true rfl) dX6_init_74 (fun H locs hP hD hS => ?_)
  have hP : va_P G vwCl [(h0, .inr (6, [.null, .null, .null, .null, .int 0, .ref q_1, .ref q_2, .ref q_4, .ref q_6, .ref q_8, .int 0, .int 0, .ref q_9, .int 0, .int 0])), (q_1, .inl (cy 4, 15, .inr (.inr (.inr (.inr (fun _ => none))))))] H := va_P.sub hP [0, 1] rfl
  have hD : va_D A [(h0, .inr (6, [.null, .null, .null, .null, .int 0, .ref q_1, .ref q_2, .ref q_4, .ref q_6, .ref q_8, .int 0, .int 0, .ref q_9, .int 0, .int 0])), (q_1, .inl (cy 4, 15, .inr (.inr (.inr (.inr (fun _ => none))))))] := va_D.sub hD [0, 1] (by decide) rfl
  refine lv_aload_n hx hb dX6_init_77 rfl (lv_at hl 0 rfl) ?_
  refine lv_iconst (v := 0) hx hb dX6_init_78 (by decide) ?_
  refine va_put (ci := 6) (v := .int 0) (ty := .int) (C := RX6) (T := TX6) (N := 15) hx hb hts inX6 tyX6 tyX6_ok nmX6 hown hK hP hD hS 0 rfl rfl 13 (by decide) (hts _ gm_258) (fun _ h9 => h9) rfl (by decide +kernel) rfl rfl (Nat.le_of_ble_eq_true rfl) dX6_init_79 (fun H locs hP hD hS => ?_)
  have hP : va_P G vwCl [(h0, .inr (6, [.null, .null, .null, .null, .int 0, .ref q_1, .ref q_2, .ref q_4, .ref q_6, .ref q_8, .int 0, .int 0, .ref q_9, .int 0, .int 0])), (q_1, .inl (cy 4, 15, .inr (.inr (.inr (.inr (fun _ => none))))))] H := hP
  have hD : va_D A [(h0, .inr (6, [.null, .null, .null, .null, .int 0, .ref q_1, .ref q_2, .ref q_4, .ref q_6, .ref q_8, .int 0, .int 0, .ref q_9, .int 0, .int 0])), (q_1, .inl (cy 4, 15, .inr (.inr (.inr (.inr (fun _ => none))))))] := hD
  refine lv_aload_n hx hb dX6_init_82 rfl (lv_at hl 0 rfl) ?_
  refine lv_iconst (v := 0) hx hb dX6_init_83 (by decide) ?_
  refine va_put (ci := 6) (v := .int 0) (ty := .int) (C := RX6) (T := TX6) (N := 15) hx hb hts inX6 tyX6 tyX6_ok nmX6 hown hK hP hD hS 0 rfl rfl 14 (by decide) (hts _ gm_259) (fun _ h9 => h9) rfl (by decide +kernel) rfl rfl (Nat.le_of_ble_eq_true rfl) dX6_init_84 (fun H locs hP hD hS => ?_)
  have hP : va_P G vwCl [(h0, .inr (6, [.null, .null, .null, .null, .int 0, .ref q_1, .ref q_2, .ref q_4, .ref q_6, .ref q_8, .int 0, .int 0, .ref q_9, .int 0, .int 0])), (q_1, .inl (cy 4, 15, .inr (.inr (.inr (.inr (fun _ => none))))))] H := hP
  have hD : va_D A [(h0, .inr (6, [.null, .null, .null, .null, .int 0, .ref q_1, .ref q_2, .ref q_4, .ref q_6, .ref q_8, .int 0, .int 0, .ref q_9, .int 0, .int 0])), (q_1, .inl (cy 4, 15, .inr (.inr (.inr (.inr (fun _ => none))))))] := hD
  refine lv_aload_n hx hb dX6_init_87 rfl (lv_at hl 0 rfl) ?_
  refine lv_aload_n hx hb dX6_init_88 rfl (lv_at hl 1 rfl) ?_
  refine va_putF (ci := 6) (v := .ref h1) (ty := .object "WellCourt$Land") (C := RX6) (T := TX6) (N := 15) hx hb hts inX6 tyX6 tyX6_ok nmX6 hown hK hP hD hS 0 rfl rfl 0 (by decide) (hts _ gm_243) (fun _ h9 => h9) rfl hin rfl (by decide +kernel) rfl rfl (Nat.le_of_ble_eq_true rfl) dX6_init_89 (fun H locs hP hD hS => ?_)
  have hP : va_P G vwCl [(h0, .inr (6, [.ref h1, .null, .null, .null, .int 0, .ref q_1, .ref q_2, .ref q_4, .ref q_6, .ref q_8, .int 0, .int 0, .ref q_9, .int 0, .int 0])), (q_1, .inl (cy 4, 15, .inr (.inr (.inr (.inr (fun _ => none))))))] H := hP
  have hD : va_D A [(h0, .inr (6, [.ref h1, .null, .null, .null, .int 0, .ref q_1, .ref q_2, .ref q_4, .ref q_6, .ref q_8, .int 0, .int 0, .ref q_9, .int 0, .int 0])), (q_1, .inl (cy 4, 15, .inr (.inr (.inr (.inr (fun _ => none))))))] := hD
  refine lv_aload_n hx hb dX6_init_92 rfl (lv_at hl 0 rfl) ?_
  refine lv_aload_n hx hb dX6_init_93 rfl (lv_at hl 2 rfl) ?_
  refine va_putF (ci := 6) (v := .ref h2) (ty := .object "WellCourt$Calendar") (C := RX6) (T := TX6) (N := 15) hx hb hts inX6 tyX6 tyX6_ok nmX6 hown hK hP hD hS 0 rfl rfl 1 (by decide) (hts _ gm_244) (fun _ h9 => h9) rfl hin rfl (by decide +kernel) rfl rfl (Nat.le_of_ble_eq_true rfl) dX6_init_94 (fun H locs hP hD hS => ?_)
  have hP : va_P G vwCl [(h0, .inr (6, [.ref h1, .ref h2, .null, .null, .int 0, .ref q_1, .ref q_2, .ref q_4, .ref q_6, .ref q_8, .int 0, .int 0, .ref q_9, .int 0, .int 0])), (q_1, .inl (cy 4, 15, .inr (.inr (.inr (.inr (fun _ => none))))))] H := hP
  have hD : va_D A [(h0, .inr (6, [.ref h1, .ref h2, .null, .null, .int 0, .ref q_1, .ref q_2, .ref q_4, .ref q_6, .ref q_8, .int 0, .int 0, .ref q_9, .int 0, .int 0])), (q_1, .inl (cy 4, 15, .inr (.inr (.inr (.inr (fun _ => none))))))] := hD
  refine lv_aload_n hx hb dX6_init_97 rfl (lv_at hl 0 rfl) ?_
  refine lv_aload_n hx hb dX6_init_98 rfl (lv_at hl 3 rfl) ?_
  refine va_putF (ci := 6) (v := .ref h3) (ty := .object "WellCourt$Flock") (C := RX6) (T := TX6) (N := 15) hx hb hts inX6 tyX6 tyX6_ok nmX6 hown hK hP hD hS 0 rfl rfl 2 (by decide) (hts _ gm_245) (fun _ h9 => h9) rfl hin rfl (by decide +kernel) rfl rfl (Nat.le_of_ble_eq_true rfl) dX6_init_99 (fun H locs hP hD hS => ?_)
  have hP : va_P G vwCl [(h0, .inr (6, [.ref h1, .ref h2, .ref h3, .null, .int 0, .ref q_1, .ref q_2, .ref q_4, .ref q_6, .ref q_8, .int 0, .int 0, .ref q_9, .int 0, .int 0])), (q_1, .inl (cy 4, 15, .inr (.inr (.inr (.inr (fun _ => none))))))] H := hP
  have hD : va_D A [(h0, .inr (6, [.ref h1, .ref h2, .ref h3, .null, .int 0, .ref q_1, .ref q_2, .ref q_4, .ref q_6, .ref q_8, .int 0, .int 0, .ref q_9, .int 0, .int 0])), (q_1, .inl (cy 4, 15, .inr (.inr (.inr (.inr (fun _ => none))))))] := hD
  refine lv_aload_n hx hb dX6_init_102 rfl (lv_at hl 0 rfl) ?_
  refine lv_aload hx hb dX6_init_103 (lv_at hl 4 rfl) ?_
  refine va_put (ci := 6) (v := .ref h4) (ty := .object "WellCourt$Law") (C := RX6) (T := TX6) (N := 15) hx hb hts inX6 tyX6 tyX6_ok nmX6 hown hK hP hD hS 0 rfl rfl 3 (by decide) (hts _ gm_246) (fun _ h9 => h9) rfl (by decide +kernel) rfl rfl (Nat.le_of_ble_eq_true rfl) dX6_init_105 (fun H locs hP hD hS => ?_)
  have hP : va_P G vwCl [(h0, .inr (6, [.ref h1, .ref h2, .ref h3, .ref h4, .int 0, .ref q_1, .ref q_2, .ref q_4, .ref q_6, .ref q_8, .int 0, .int 0, .ref q_9, .int 0, .int 0])), (q_1, .inl (cy 4, 15, .inr (.inr (.inr (.inr (fun _ => none))))))] H := hP
  have hD : va_D A [(h0, .inr (6, [.ref h1, .ref h2, .ref h3, .ref h4, .int 0, .ref q_1, .ref q_2, .ref q_4, .ref q_6, .ref q_8, .int 0, .int 0, .ref q_9, .int 0, .int 0])), (q_1, .inl (cy 4, 15, .inr (.inr (.inr (.inr (fun _ => none))))))] := hD
  refine lv_iconst (v := 0) hx hb dX6_init_108 (by decide) ?_
  refine lv_istore (lv' := [(5, .int 0), (0, .ref h0), (1, .ref h1), (2, .ref h2), (3, .ref h3), (4, .ref h4)]) hx hb dX6_init_109 hl (by decide) rfl (fun ls hl => ?_)
  refine lv_iload hx hb dX6_init_111 (lv_at hl 0 rfl) ?_
  refine lv_bipush (v := 14) hx hb dX6_init_113 (by decide) ?_
  refine lv_icmp_gt (tgt := 138) hx hb dX6_init_115 (by decide) (fun h9 => absurd h9 (by decide)) (fun _ => ?_)
  refine lv_aload_n hx hb dX6_init_118 rfl (lv_at hl 1 rfl) ?_
  refine va_get (ci := 6) (v := .ref q_1) (C := RX6) (T := TX6) (N := 15) hx hb hts inX6 hown hK hP 0 rfl rfl 5 (by decide) (hts _ gm_248) (fun _ h9 => h9) rfl dX6_init_119 ?_
  refine lv_iload hx hb dX6_init_122 (lv_at hl 0 rfl) ?_
  refine va_new (ci := 1) (fs := [.null, .null, .null]) (C := RX1) (T := TX1) (N := 3) hx hb hts inX1 tyX1 tyX1_ok hown (hts _ gm_239) (hts _ gm_114) (hts _ gm_7) hK hP hD hS hA rfl dfX1 (Nat.le_of_ble_eq_true rfl) (Nat.le_of_ble_eq_true rfl) dX6_init_124 (fun q_10 H hP hD hS => ?_)
  have hP : va_P G vwCl [(h0, .inr (6, [.ref h1, .ref h2, .ref h3, .ref h4, .int 0, .ref q_1, .ref q_2, .ref q_4, .ref q_6, .ref q_8, .int 0, .int 0, .ref q_9, .int 0, .int 0])), (q_1, .inl (cy 4, 15, .inr (.inr (.inr (.inr (fun _ => none)))))), (q_10, .inr (1, [.null, .null, .null]))] H := hP
  have hD : va_D A [(h0, .inr (6, [.ref h1, .ref h2, .ref h3, .ref h4, .int 0, .ref q_1, .ref q_2, .ref q_4, .ref q_6, .ref q_8, .int 0, .int 0, .ref q_9, .int 0, .int 0])), (q_1, .inl (cy 4, 15, .inr (.inr (.inr (.inr (fun _ => none)))))), (q_10, .inr (1, [.null, .null, .null]))] := hD
  refine W.widen (k := 52) (n := 355) (Nat.le_of_ble_eq_true rfl) (Nat.le_of_ble_eq_true rfl) ?_
  refine lv_dup hx hb dX6_init_127 rfl ?_
  refine gz_aftv (va_runI (As := []) (rest := [.ref q_10, .int 0, .ref q_1]) ⟨hx, hb, hml, hown, hts⟩ (c_X1_init l G cy H.size q_10 ) ⟨(gz_cb (n := 0) hts gm_242 gm_7 gm_117 ⟨by decide +kernel, by decide +kernel, by decide +kernel⟩ ⟨Nat.le_of_ble_eq_true rfl, Nat.le_of_ble_eq_true rfl⟩), rfl, hts _ gm_116⟩ (gz_preS hK hov hP hD [2] (by decide) rfl) rfl rfl hl.1 rfl (lv_room (Nat.le_of_ble_eq_true rfl)) dX6_init_128 ⟨Nat.le_of_ble_eq_true rfl, Nat.le_of_ble_eq_true rfl⟩) hP hD hS hA [2] [0, 1] rfl rfl (by decide) (by decide) (fun u_11 H locs hw_11 hP hD hS => ?_)
  have hP : va_P G vwCl [(h0, .inr (6, [.ref h1, .ref h2, .ref h3, .ref h4, .int 0, .ref q_1, .ref q_2, .ref q_4, .ref q_6, .ref q_8, .int 0, .int 0, .ref q_9, .int 0, .int 0])), (q_1, .inl (cy 4, 15, .inr (.inr (.inr (.inr (fun _ => none)))))), (q_10, .inr (1, [.ref (u_11 0), .ref (u_11 1), .ref (u_11 2)])), ((u_11 0), .inl (cy 0, 6, .inl (fun _ => 0))), ((u_11 1), .inl (cy 0, 6, .inl (fun _ => (-1)))), ((u_11 2), .inl (cy 0, 6, .inl (fun _ => (-1))))] H := hP
  have hD : va_D A [(h0, .inr (6, [.ref h1, .ref h2, .ref h3, .ref h4, .int 0, .ref q_1, .ref q_2, .ref q_4, .ref q_6, .ref q_8, .int 0, .int 0, .ref q_9, .int 0, .int 0])), (q_1, .inl (cy 4, 15, .inr (.inr (.inr (.inr (fun _ => none)))))), (q_10, .inr (1, [.ref (u_11 0), .ref (u_11 1), .ref (u_11 2)])), ((u_11 0), .inl (cy 0, 6, .inl (fun _ => 0))), ((u_11 1), .inl (cy 0, 6, .inl (fun _ => (-1)))), ((u_11 2), .inl (cy 0, 6, .inl (fun _ => (-1))))] := hD
  refine W.widen (k := 55) (n := 373) (Nat.le_of_ble_eq_true rfl) (Nat.le_of_ble_eq_true rfl) ?_
  refine va_astq hx hb hK hP hD hS 1 4 2 1 rfl rfl rfl rfl (vp_in_iff.mpr (by decide)) dX6_init_131 (fun H locs hP hD hS => ?_)
  obtain ⟨f_12, ef_12⟩ : ∃ g : Nat → Option Nat, g = va_up (fun _ => none) (0 : Int32).toNatClampNeg (some q_10) := ⟨_, rfl⟩
  have hP : va_P G vwCl [(h0, .inr (6, [.ref h1, .ref h2, .ref h3, .ref h4, .int 0, .ref q_1, .ref q_2, .ref q_4, .ref q_6, .ref q_8, .int 0, .int 0, .ref q_9, .int 0, .int 0])), (q_1, .inl (cy 4, 15, .inr (.inr (.inr (.inr f_12))))), (q_10, .inr (1, [.ref (u_11 0), .ref (u_11 1), .ref (u_11 2)])), ((u_11 0), .inl (cy 0, 6, .inl (fun _ => 0))), ((u_11 1), .inl (cy 0, 6, .inl (fun _ => (-1)))), ((u_11 2), .inl (cy 0, 6, .inl (fun _ => (-1))))] H := ef_12 ▸ hP
  have hD : va_D A [(h0, .inr (6, [.ref h1, .ref h2, .ref h3, .ref h4, .int 0, .ref q_1, .ref q_2, .ref q_4, .ref q_6, .ref q_8, .int 0, .int 0, .ref q_9, .int 0, .int 0])), (q_1, .inl (cy 4, 15, .inr (.inr (.inr (.inr f_12))))), (q_10, .inr (1, [.ref (u_11 0), .ref (u_11 1), .ref (u_11 2)])), ((u_11 0), .inl (cy 0, 6, .inl (fun _ => 0))), ((u_11 1), .inl (cy 0, 6, .inl (fun _ => (-1)))), ((u_11 2), .inl (cy 0, 6, .inl (fun _ => (-1))))] := ef_12 ▸ hD
  have hP : va_P G vwCl [(h0, .inr (6, [.ref h1, .ref h2, .ref h3, .ref h4, .int 0, .ref q_1, .ref q_2, .ref q_4, .ref q_6, .ref q_8, .int 0, .int 0, .ref q_9, .int 0, .int 0])), (q_1, .inl (cy 4, 15, .inr (.inr (.inr (.inr f_12)))))] H := hP.sub [0, 1] rfl
  have hD : va_D A [(h0, .inr (6, [.ref h1, .ref h2, .ref h3, .ref h4, .int 0, .ref q_1, .ref q_2, .ref q_4, .ref q_6, .ref q_8, .int 0, .int 0, .ref q_9, .int 0, .int 0])), (q_1, .inl (cy 4, 15, .inr (.inr (.inr (.inr f_12)))))] := hD.sub [0, 1] (by decide) rfl
  refine lv_iinc (v := (1)) (lv' := [(5, .int 1), (0, .ref h0), (1, .ref h1), (2, .ref h2), (3, .ref h3), (4, .ref h4)]) hx hb dX6_init_132 hl (k := 0) rfl (by decide) (by decide) rfl (fun ls hl => ?_)
  refine lv_goto (tgt := 111) hx hb dX6_init_135 (by decide) ?_
  refine lv_iload hx hb dX6_init_111 (lv_at hl 0 rfl) ?_
  refine lv_bipush (v := 14) hx hb dX6_init_113 (by decide) ?_
  refine lv_icmp_gt (tgt := 138) hx hb dX6_init_115 (by decide) (fun h9 => absurd h9 (by decide)) (fun _ => ?_)
  refine lv_aload_n hx hb dX6_init_118 rfl (lv_at hl 1 rfl) ?_
  refine va_get (ci := 6) (v := .ref q_1) (C := RX6) (T := TX6) (N := 15) hx hb hts inX6 hown hK hP 0 rfl rfl 5 (by decide) (hts _ gm_248) (fun _ h9 => h9) rfl dX6_init_119 ?_
  refine lv_iload hx hb dX6_init_122 (lv_at hl 0 rfl) ?_
  refine va_new (ci := 1) (fs := [.null, .null, .null]) (C := RX1) (T := TX1) (N := 3) hx hb hts inX1 tyX1 tyX1_ok hown (hts _ gm_239) (hts _ gm_114) (hts _ gm_7) hK hP hD hS hA rfl dfX1 (Nat.le_of_ble_eq_true rfl) (Nat.le_of_ble_eq_true rfl) dX6_init_124 (fun q_13 H hP hD hS => ?_)
  have hP : va_P G vwCl [(h0, .inr (6, [.ref h1, .ref h2, .ref h3, .ref h4, .int 0, .ref q_1, .ref q_2, .ref q_4, .ref q_6, .ref q_8, .int 0, .int 0, .ref q_9, .int 0, .int 0])), (q_1, .inl (cy 4, 15, .inr (.inr (.inr (.inr f_12))))), (q_13, .inr (1, [.null, .null, .null]))] H := hP
  have hD : va_D A [(h0, .inr (6, [.ref h1, .ref h2, .ref h3, .ref h4, .int 0, .ref q_1, .ref q_2, .ref q_4, .ref q_6, .ref q_8, .int 0, .int 0, .ref q_9, .int 0, .int 0])), (q_1, .inl (cy 4, 15, .inr (.inr (.inr (.inr f_12))))), (q_13, .inr (1, [.null, .null, .null]))] := hD
  refine W.widen (k := 56) (n := 376) (Nat.le_of_ble_eq_true rfl) (Nat.le_of_ble_eq_true rfl) ?_
  refine lv_dup hx hb dX6_init_127 rfl ?_
  refine gz_aftv (va_runI (As := []) (rest := [.ref q_13, .int 1, .ref q_1]) ⟨hx, hb, hml, hown, hts⟩ (c_X1_init l G cy H.size q_13 ) ⟨(gz_cb (n := 0) hts gm_242 gm_7 gm_117 ⟨by decide +kernel, by decide +kernel, by decide +kernel⟩ ⟨Nat.le_of_ble_eq_true rfl, Nat.le_of_ble_eq_true rfl⟩), rfl, hts _ gm_116⟩ (gz_preS hK hov hP hD [2] (by decide) rfl) rfl rfl hl.1 rfl (lv_room (Nat.le_of_ble_eq_true rfl)) dX6_init_128 ⟨Nat.le_of_ble_eq_true rfl, Nat.le_of_ble_eq_true rfl⟩) hP hD hS hA [2] [0, 1] rfl rfl (by decide) (by decide) (fun u_14 H locs hw_14 hP hD hS => ?_)
  have hP : va_P G vwCl [(h0, .inr (6, [.ref h1, .ref h2, .ref h3, .ref h4, .int 0, .ref q_1, .ref q_2, .ref q_4, .ref q_6, .ref q_8, .int 0, .int 0, .ref q_9, .int 0, .int 0])), (q_1, .inl (cy 4, 15, .inr (.inr (.inr (.inr f_12))))), (q_13, .inr (1, [.ref (u_14 0), .ref (u_14 1), .ref (u_14 2)])), ((u_14 0), .inl (cy 0, 6, .inl (fun _ => 0))), ((u_14 1), .inl (cy 0, 6, .inl (fun _ => (-1)))), ((u_14 2), .inl (cy 0, 6, .inl (fun _ => (-1))))] H := hP
  have hD : va_D A [(h0, .inr (6, [.ref h1, .ref h2, .ref h3, .ref h4, .int 0, .ref q_1, .ref q_2, .ref q_4, .ref q_6, .ref q_8, .int 0, .int 0, .ref q_9, .int 0, .int 0])), (q_1, .inl (cy 4, 15, .inr (.inr (.inr (.inr f_12))))), (q_13, .inr (1, [.ref (u_14 0), .ref (u_14 1), .ref (u_14 2)])), ((u_14 0), .inl (cy 0, 6, .inl (fun _ => 0))), ((u_14 1), .inl (cy 0, 6, .inl (fun _ => (-1)))), ((u_14 2), .inl (cy 0, 6, .inl (fun _ => (-1))))] := hD
  refine W.widen (k := 59) (n := 394) (Nat.le_of_ble_eq_true rfl) (Nat.le_of_ble_eq_true rfl) ?_
  refine va_astq hx hb hK hP hD hS 1 4 2 1 rfl rfl rfl rfl (vp_in_iff.mpr (by decide)) dX6_init_131 (fun H locs hP hD hS => ?_)
  obtain ⟨f_15, ef_15⟩ : ∃ g : Nat → Option Nat, g = va_up f_12 (1 : Int32).toNatClampNeg (some q_13) := ⟨_, rfl⟩
  have hP : va_P G vwCl [(h0, .inr (6, [.ref h1, .ref h2, .ref h3, .ref h4, .int 0, .ref q_1, .ref q_2, .ref q_4, .ref q_6, .ref q_8, .int 0, .int 0, .ref q_9, .int 0, .int 0])), (q_1, .inl (cy 4, 15, .inr (.inr (.inr (.inr f_15))))), (q_13, .inr (1, [.ref (u_14 0), .ref (u_14 1), .ref (u_14 2)])), ((u_14 0), .inl (cy 0, 6, .inl (fun _ => 0))), ((u_14 1), .inl (cy 0, 6, .inl (fun _ => (-1)))), ((u_14 2), .inl (cy 0, 6, .inl (fun _ => (-1))))] H := ef_15 ▸ hP
  have hD : va_D A [(h0, .inr (6, [.ref h1, .ref h2, .ref h3, .ref h4, .int 0, .ref q_1, .ref q_2, .ref q_4, .ref q_6, .ref q_8, .int 0, .int 0, .ref q_9, .int 0, .int 0])), (q_1, .inl (cy 4, 15, .inr (.inr (.inr (.inr f_15))))), (q_13, .inr (1, [.ref (u_14 0), .ref (u_14 1), .ref (u_14 2)])), ((u_14 0), .inl (cy 0, 6, .inl (fun _ => 0))), ((u_14 1), .inl (cy 0, 6, .inl (fun _ => (-1)))), ((u_14 2), .inl (cy 0, 6, .inl (fun _ => (-1))))] := ef_15 ▸ hD
  have hP : va_P G vwCl [(h0, .inr (6, [.ref h1, .ref h2, .ref h3, .ref h4, .int 0, .ref q_1, .ref q_2, .ref q_4, .ref q_6, .ref q_8, .int 0, .int 0, .ref q_9, .int 0, .int 0])), (q_1, .inl (cy 4, 15, .inr (.inr (.inr (.inr f_15)))))] H := hP.sub [0, 1] rfl
  have hD : va_D A [(h0, .inr (6, [.ref h1, .ref h2, .ref h3, .ref h4, .int 0, .ref q_1, .ref q_2, .ref q_4, .ref q_6, .ref q_8, .int 0, .int 0, .ref q_9, .int 0, .int 0])), (q_1, .inl (cy 4, 15, .inr (.inr (.inr (.inr f_15)))))] := hD.sub [0, 1] (by decide) rfl
  refine lv_iinc (v := (2)) (lv' := [(5, .int 2), (0, .ref h0), (1, .ref h1), (2, .ref h2), (3, .ref h3), (4, .ref h4)]) hx hb dX6_init_132 hl (k := 0) rfl (by decide) (by decide) rfl (fun ls hl => ?_)
  refine lv_goto (tgt := 111) hx hb dX6_init_135 (by decide) ?_
  refine lv_iload hx hb dX6_init_111 (lv_at hl 0 rfl) ?_
  refine lv_bipush (v := 14) hx hb dX6_init_113 (by decide) ?_
  refine lv_icmp_gt (tgt := 138) hx hb dX6_init_115 (by decide) (fun h9 => absurd h9 (by decide)) (fun _ => ?_)
  refine lv_aload_n hx hb dX6_init_118 rfl (lv_at hl 1 rfl) ?_
  refine va_get (ci := 6) (v := .ref q_1) (C := RX6) (T := TX6) (N := 15) hx hb hts inX6 hown hK hP 0 rfl rfl 5 (by decide) (hts _ gm_248) (fun _ h9 => h9) rfl dX6_init_119 ?_
  refine lv_iload hx hb dX6_init_122 (lv_at hl 0 rfl) ?_
  refine va_new (ci := 1) (fs := [.null, .null, .null]) (C := RX1) (T := TX1) (N := 3) hx hb hts inX1 tyX1 tyX1_ok hown (hts _ gm_239) (hts _ gm_114) (hts _ gm_7) hK hP hD hS hA rfl dfX1 (Nat.le_of_ble_eq_true rfl) (Nat.le_of_ble_eq_true rfl) dX6_init_124 (fun q_16 H hP hD hS => ?_)
  have hP : va_P G vwCl [(h0, .inr (6, [.ref h1, .ref h2, .ref h3, .ref h4, .int 0, .ref q_1, .ref q_2, .ref q_4, .ref q_6, .ref q_8, .int 0, .int 0, .ref q_9, .int 0, .int 0])), (q_1, .inl (cy 4, 15, .inr (.inr (.inr (.inr f_15))))), (q_16, .inr (1, [.null, .null, .null]))] H := hP
  have hD : va_D A [(h0, .inr (6, [.ref h1, .ref h2, .ref h3, .ref h4, .int 0, .ref q_1, .ref q_2, .ref q_4, .ref q_6, .ref q_8, .int 0, .int 0, .ref q_9, .int 0, .int 0])), (q_1, .inl (cy 4, 15, .inr (.inr (.inr (.inr f_15))))), (q_16, .inr (1, [.null, .null, .null]))] := hD
  refine W.widen (k := 60) (n := 397) (Nat.le_of_ble_eq_true rfl) (Nat.le_of_ble_eq_true rfl) ?_
  refine lv_dup hx hb dX6_init_127 rfl ?_
  refine gz_aftv (va_runI (As := []) (rest := [.ref q_16, .int 2, .ref q_1]) ⟨hx, hb, hml, hown, hts⟩ (c_X1_init l G cy H.size q_16 ) ⟨(gz_cb (n := 0) hts gm_242 gm_7 gm_117 ⟨by decide +kernel, by decide +kernel, by decide +kernel⟩ ⟨Nat.le_of_ble_eq_true rfl, Nat.le_of_ble_eq_true rfl⟩), rfl, hts _ gm_116⟩ (gz_preS hK hov hP hD [2] (by decide) rfl) rfl rfl hl.1 rfl (lv_room (Nat.le_of_ble_eq_true rfl)) dX6_init_128 ⟨Nat.le_of_ble_eq_true rfl, Nat.le_of_ble_eq_true rfl⟩) hP hD hS hA [2] [0, 1] rfl rfl (by decide) (by decide) (fun u_17 H locs hw_17 hP hD hS => ?_)
  have hP : va_P G vwCl [(h0, .inr (6, [.ref h1, .ref h2, .ref h3, .ref h4, .int 0, .ref q_1, .ref q_2, .ref q_4, .ref q_6, .ref q_8, .int 0, .int 0, .ref q_9, .int 0, .int 0])), (q_1, .inl (cy 4, 15, .inr (.inr (.inr (.inr f_15))))), (q_16, .inr (1, [.ref (u_17 0), .ref (u_17 1), .ref (u_17 2)])), ((u_17 0), .inl (cy 0, 6, .inl (fun _ => 0))), ((u_17 1), .inl (cy 0, 6, .inl (fun _ => (-1)))), ((u_17 2), .inl (cy 0, 6, .inl (fun _ => (-1))))] H := hP
  have hD : va_D A [(h0, .inr (6, [.ref h1, .ref h2, .ref h3, .ref h4, .int 0, .ref q_1, .ref q_2, .ref q_4, .ref q_6, .ref q_8, .int 0, .int 0, .ref q_9, .int 0, .int 0])), (q_1, .inl (cy 4, 15, .inr (.inr (.inr (.inr f_15))))), (q_16, .inr (1, [.ref (u_17 0), .ref (u_17 1), .ref (u_17 2)])), ((u_17 0), .inl (cy 0, 6, .inl (fun _ => 0))), ((u_17 1), .inl (cy 0, 6, .inl (fun _ => (-1)))), ((u_17 2), .inl (cy 0, 6, .inl (fun _ => (-1))))] := hD
  refine W.widen (k := 63) (n := 415) (Nat.le_of_ble_eq_true rfl) (Nat.le_of_ble_eq_true rfl) ?_
  refine va_astq hx hb hK hP hD hS 1 4 2 1 rfl rfl rfl rfl (vp_in_iff.mpr (by decide)) dX6_init_131 (fun H locs hP hD hS => ?_)
  obtain ⟨f_18, ef_18⟩ : ∃ g : Nat → Option Nat, g = va_up f_15 (2 : Int32).toNatClampNeg (some q_16) := ⟨_, rfl⟩
  have hP : va_P G vwCl [(h0, .inr (6, [.ref h1, .ref h2, .ref h3, .ref h4, .int 0, .ref q_1, .ref q_2, .ref q_4, .ref q_6, .ref q_8, .int 0, .int 0, .ref q_9, .int 0, .int 0])), (q_1, .inl (cy 4, 15, .inr (.inr (.inr (.inr f_18))))), (q_16, .inr (1, [.ref (u_17 0), .ref (u_17 1), .ref (u_17 2)])), ((u_17 0), .inl (cy 0, 6, .inl (fun _ => 0))), ((u_17 1), .inl (cy 0, 6, .inl (fun _ => (-1)))), ((u_17 2), .inl (cy 0, 6, .inl (fun _ => (-1))))] H := ef_18 ▸ hP
  have hD : va_D A [(h0, .inr (6, [.ref h1, .ref h2, .ref h3, .ref h4, .int 0, .ref q_1, .ref q_2, .ref q_4, .ref q_6, .ref q_8, .int 0, .int 0, .ref q_9, .int 0, .int 0])), (q_1, .inl (cy 4, 15, .inr (.inr (.inr (.inr f_18))))), (q_16, .inr (1, [.ref (u_17 0), .ref (u_17 1), .ref (u_17 2)])), ((u_17 0), .inl (cy 0, 6, .inl (fun _ => 0))), ((u_17 1), .inl (cy 0, 6, .inl (fun _ => (-1)))), ((u_17 2), .inl (cy 0, 6, .inl (fun _ => (-1))))] := ef_18 ▸ hD
  have hP : va_P G vwCl [(h0, .inr (6, [.ref h1, .ref h2, .ref h3, .ref h4, .int 0, .ref q_1, .ref q_2, .ref q_4, .ref q_6, .ref q_8, .int 0, .int 0, .ref q_9, .int 0, .int 0])), (q_1, .inl (cy 4, 15, .inr (.inr (.inr (.inr f_18)))))] H := hP.sub [0, 1] rfl
  have hD : va_D A [(h0, .inr (6, [.ref h1, .ref h2, .ref h3, .ref h4, .int 0, .ref q_1, .ref q_2, .ref q_4, .ref q_6, .ref q_8, .int 0, .int 0, .ref q_9, .int 0, .int 0])), (q_1, .inl (cy 4, 15, .inr (.inr (.inr (.inr f_18)))))] := hD.sub [0, 1] (by decide) rfl
  refine lv_iinc (v := (3)) (lv' := [(5, .int 3), (0, .ref h0), (1, .ref h1), (2, .ref h2), (3, .ref h3), (4, .ref h4)]) hx hb dX6_init_132 hl (k := 0) rfl (by decide) (by decide) rfl (fun ls hl => ?_)
  refine lv_goto (tgt := 111) hx hb dX6_init_135 (by decide) ?_
  refine lv_iload hx hb dX6_init_111 (lv_at hl 0 rfl) ?_
  refine lv_bipush (v := 14) hx hb dX6_init_113 (by decide) ?_
  refine lv_icmp_gt (tgt := 138) hx hb dX6_init_115 (by decide) (fun h9 => absurd h9 (by decide)) (fun _ => ?_)
  refine lv_aload_n hx hb dX6_init_118 rfl (lv_at hl 1 rfl) ?_
  refine va_get (ci := 6) (v := .ref q_1) (C := RX6) (T := TX6) (N := 15) hx hb hts inX6 hown hK hP 0 rfl rfl 5 (by decide) (hts _ gm_248) (fun _ h9 => h9) rfl dX6_init_119 ?_
  refine lv_iload hx hb dX6_init_122 (lv_at hl 0 rfl) ?_
  refine va_new (ci := 1) (fs := [.null, .null, .null]) (C := RX1) (T := TX1) (N := 3) hx hb hts inX1 tyX1 tyX1_ok hown (hts _ gm_239) (hts _ gm_114) (hts _ gm_7) hK hP hD hS hA rfl dfX1 (Nat.le_of_ble_eq_true rfl) (Nat.le_of_ble_eq_true rfl) dX6_init_124 (fun q_19 H hP hD hS => ?_)
  have hP : va_P G vwCl [(h0, .inr (6, [.ref h1, .ref h2, .ref h3, .ref h4, .int 0, .ref q_1, .ref q_2, .ref q_4, .ref q_6, .ref q_8, .int 0, .int 0, .ref q_9, .int 0, .int 0])), (q_1, .inl (cy 4, 15, .inr (.inr (.inr (.inr f_18))))), (q_19, .inr (1, [.null, .null, .null]))] H := hP
  have hD : va_D A [(h0, .inr (6, [.ref h1, .ref h2, .ref h3, .ref h4, .int 0, .ref q_1, .ref q_2, .ref q_4, .ref q_6, .ref q_8, .int 0, .int 0, .ref q_9, .int 0, .int 0])), (q_1, .inl (cy 4, 15, .inr (.inr (.inr (.inr f_18))))), (q_19, .inr (1, [.null, .null, .null]))] := hD
  refine W.widen (k := 64) (n := 418) (Nat.le_of_ble_eq_true rfl) (Nat.le_of_ble_eq_true rfl) ?_
  refine lv_dup hx hb dX6_init_127 rfl ?_
  refine gz_aftv (va_runI (As := []) (rest := [.ref q_19, .int 3, .ref q_1]) ⟨hx, hb, hml, hown, hts⟩ (c_X1_init l G cy H.size q_19 ) ⟨(gz_cb (n := 0) hts gm_242 gm_7 gm_117 ⟨by decide +kernel, by decide +kernel, by decide +kernel⟩ ⟨Nat.le_of_ble_eq_true rfl, Nat.le_of_ble_eq_true rfl⟩), rfl, hts _ gm_116⟩ (gz_preS hK hov hP hD [2] (by decide) rfl) rfl rfl hl.1 rfl (lv_room (Nat.le_of_ble_eq_true rfl)) dX6_init_128 ⟨Nat.le_of_ble_eq_true rfl, Nat.le_of_ble_eq_true rfl⟩) hP hD hS hA [2] [0, 1] rfl rfl (by decide) (by decide) (fun u_20 H locs hw_20 hP hD hS => ?_)
  have hP : va_P G vwCl [(h0, .inr (6, [.ref h1, .ref h2, .ref h3, .ref h4, .int 0, .ref q_1, .ref q_2, .ref q_4, .ref q_6, .ref q_8, .int 0, .int 0, .ref q_9, .int 0, .int 0])), (q_1, .inl (cy 4, 15, .inr (.inr (.inr (.inr f_18))))), (q_19, .inr (1, [.ref (u_20 0), .ref (u_20 1), .ref (u_20 2)])), ((u_20 0), .inl (cy 0, 6, .inl (fun _ => 0))), ((u_20 1), .inl (cy 0, 6, .inl (fun _ => (-1)))), ((u_20 2), .inl (cy 0, 6, .inl (fun _ => (-1))))] H := hP
  have hD : va_D A [(h0, .inr (6, [.ref h1, .ref h2, .ref h3, .ref h4, .int 0, .ref q_1, .ref q_2, .ref q_4, .ref q_6, .ref q_8, .int 0, .int 0, .ref q_9, .int 0, .int 0])), (q_1, .inl (cy 4, 15, .inr (.inr (.inr (.inr f_18))))), (q_19, .inr (1, [.ref (u_20 0), .ref (u_20 1), .ref (u_20 2)])), ((u_20 0), .inl (cy 0, 6, .inl (fun _ => 0))), ((u_20 1), .inl (cy 0, 6, .inl (fun _ => (-1)))), ((u_20 2), .inl (cy 0, 6, .inl (fun _ => (-1))))] := hD
  refine W.widen (k := 67) (n := 436) (Nat.le_of_ble_eq_true rfl) (Nat.le_of_ble_eq_true rfl) ?_
  refine va_astq hx hb hK hP hD hS 1 4 2 1 rfl rfl rfl rfl (vp_in_iff.mpr (by decide)) dX6_init_131 (fun H locs hP hD hS => ?_)
  obtain ⟨f_21, ef_21⟩ : ∃ g : Nat → Option Nat, g = va_up f_18 (3 : Int32).toNatClampNeg (some q_19) := ⟨_, rfl⟩
  have hP : va_P G vwCl [(h0, .inr (6, [.ref h1, .ref h2, .ref h3, .ref h4, .int 0, .ref q_1, .ref q_2, .ref q_4, .ref q_6, .ref q_8, .int 0, .int 0, .ref q_9, .int 0, .int 0])), (q_1, .inl (cy 4, 15, .inr (.inr (.inr (.inr f_21))))), (q_19, .inr (1, [.ref (u_20 0), .ref (u_20 1), .ref (u_20 2)])), ((u_20 0), .inl (cy 0, 6, .inl (fun _ => 0))), ((u_20 1), .inl (cy 0, 6, .inl (fun _ => (-1)))), ((u_20 2), .inl (cy 0, 6, .inl (fun _ => (-1))))] H := ef_21 ▸ hP
  have hD : va_D A [(h0, .inr (6, [.ref h1, .ref h2, .ref h3, .ref h4, .int 0, .ref q_1, .ref q_2, .ref q_4, .ref q_6, .ref q_8, .int 0, .int 0, .ref q_9, .int 0, .int 0])), (q_1, .inl (cy 4, 15, .inr (.inr (.inr (.inr f_21))))), (q_19, .inr (1, [.ref (u_20 0), .ref (u_20 1), .ref (u_20 2)])), ((u_20 0), .inl (cy 0, 6, .inl (fun _ => 0))), ((u_20 1), .inl (cy 0, 6, .inl (fun _ => (-1)))), ((u_20 2), .inl (cy 0, 6, .inl (fun _ => (-1))))] := ef_21 ▸ hD
  have hP : va_P G vwCl [(h0, .inr (6, [.ref h1, .ref h2, .ref h3, .ref h4, .int 0, .ref q_1, .ref q_2, .ref q_4, .ref q_6, .ref q_8, .int 0, .int 0, .ref q_9, .int 0, .int 0])), (q_1, .inl (cy 4, 15, .inr (.inr (.inr (.inr f_21)))))] H := hP.sub [0, 1] rfl
  have hD : va_D A [(h0, .inr (6, [.ref h1, .ref h2, .ref h3, .ref h4, .int 0, .ref q_1, .ref q_2, .ref q_4, .ref q_6, .ref q_8, .int 0, .int 0, .ref q_9, .int 0, .int 0])), (q_1, .inl (cy 4, 15, .inr (.inr (.inr (.inr f_21)))))] := hD.sub [0, 1] (by decide) rfl
  refine lv_iinc (v := (4)) (lv' := [(5, .int 4), (0, .ref h0), (1, .ref h1), (2, .ref h2), (3, .ref h3), (4, .ref h4)]) hx hb dX6_init_132 hl (k := 0) rfl (by decide) (by decide) rfl (fun ls hl => ?_)
  refine lv_goto (tgt := 111) hx hb dX6_init_135 (by decide) ?_
  refine lv_iload hx hb dX6_init_111 (lv_at hl 0 rfl) ?_
  refine lv_bipush (v := 14) hx hb dX6_init_113 (by decide) ?_
  refine lv_icmp_gt (tgt := 138) hx hb dX6_init_115 (by decide) (fun h9 => absurd h9 (by decide)) (fun _ => ?_)
  refine lv_aload_n hx hb dX6_init_118 rfl (lv_at hl 1 rfl) ?_
  refine va_get (ci := 6) (v := .ref q_1) (C := RX6) (T := TX6) (N := 15) hx hb hts inX6 hown hK hP 0 rfl rfl 5 (by decide) (hts _ gm_248) (fun _ h9 => h9) rfl dX6_init_119 ?_
  refine lv_iload hx hb dX6_init_122 (lv_at hl 0 rfl) ?_
  refine va_new (ci := 1) (fs := [.null, .null, .null]) (C := RX1) (T := TX1) (N := 3) hx hb hts inX1 tyX1 tyX1_ok hown (hts _ gm_239) (hts _ gm_114) (hts _ gm_7) hK hP hD hS hA rfl dfX1 (Nat.le_of_ble_eq_true rfl) (Nat.le_of_ble_eq_true rfl) dX6_init_124 (fun q_22 H hP hD hS => ?_)
  have hP : va_P G vwCl [(h0, .inr (6, [.ref h1, .ref h2, .ref h3, .ref h4, .int 0, .ref q_1, .ref q_2, .ref q_4, .ref q_6, .ref q_8, .int 0, .int 0, .ref q_9, .int 0, .int 0])), (q_1, .inl (cy 4, 15, .inr (.inr (.inr (.inr f_21))))), (q_22, .inr (1, [.null, .null, .null]))] H := hP
  have hD : va_D A [(h0, .inr (6, [.ref h1, .ref h2, .ref h3, .ref h4, .int 0, .ref q_1, .ref q_2, .ref q_4, .ref q_6, .ref q_8, .int 0, .int 0, .ref q_9, .int 0, .int 0])), (q_1, .inl (cy 4, 15, .inr (.inr (.inr (.inr f_21))))), (q_22, .inr (1, [.null, .null, .null]))] := hD
  refine W.widen (k := 68) (n := 439) (Nat.le_of_ble_eq_true rfl) (Nat.le_of_ble_eq_true rfl) ?_
  refine lv_dup hx hb dX6_init_127 rfl ?_
  refine gz_aftv (va_runI (As := []) (rest := [.ref q_22, .int 4, .ref q_1]) ⟨hx, hb, hml, hown, hts⟩ (c_X1_init l G cy H.size q_22 ) ⟨(gz_cb (n := 0) hts gm_242 gm_7 gm_117 ⟨by decide +kernel, by decide +kernel, by decide +kernel⟩ ⟨Nat.le_of_ble_eq_true rfl, Nat.le_of_ble_eq_true rfl⟩), rfl, hts _ gm_116⟩ (gz_preS hK hov hP hD [2] (by decide) rfl) rfl rfl hl.1 rfl (lv_room (Nat.le_of_ble_eq_true rfl)) dX6_init_128 ⟨Nat.le_of_ble_eq_true rfl, Nat.le_of_ble_eq_true rfl⟩) hP hD hS hA [2] [0, 1] rfl rfl (by decide) (by decide) (fun u_23 H locs hw_23 hP hD hS => ?_)
  have hP : va_P G vwCl [(h0, .inr (6, [.ref h1, .ref h2, .ref h3, .ref h4, .int 0, .ref q_1, .ref q_2, .ref q_4, .ref q_6, .ref q_8, .int 0, .int 0, .ref q_9, .int 0, .int 0])), (q_1, .inl (cy 4, 15, .inr (.inr (.inr (.inr f_21))))), (q_22, .inr (1, [.ref (u_23 0), .ref (u_23 1), .ref (u_23 2)])), ((u_23 0), .inl (cy 0, 6, .inl (fun _ => 0))), ((u_23 1), .inl (cy 0, 6, .inl (fun _ => (-1)))), ((u_23 2), .inl (cy 0, 6, .inl (fun _ => (-1))))] H := hP
  have hD : va_D A [(h0, .inr (6, [.ref h1, .ref h2, .ref h3, .ref h4, .int 0, .ref q_1, .ref q_2, .ref q_4, .ref q_6, .ref q_8, .int 0, .int 0, .ref q_9, .int 0, .int 0])), (q_1, .inl (cy 4, 15, .inr (.inr (.inr (.inr f_21))))), (q_22, .inr (1, [.ref (u_23 0), .ref (u_23 1), .ref (u_23 2)])), ((u_23 0), .inl (cy 0, 6, .inl (fun _ => 0))), ((u_23 1), .inl (cy 0, 6, .inl (fun _ => (-1)))), ((u_23 2), .inl (cy 0, 6, .inl (fun _ => (-1))))] := hD
  refine W.widen (k := 71) (n := 457) (Nat.le_of_ble_eq_true rfl) (Nat.le_of_ble_eq_true rfl) ?_
  refine va_astq hx hb hK hP hD hS 1 4 2 1 rfl rfl rfl rfl (vp_in_iff.mpr (by decide)) dX6_init_131 (fun H locs hP hD hS => ?_)
  obtain ⟨f_24, ef_24⟩ : ∃ g : Nat → Option Nat, g = va_up f_21 (4 : Int32).toNatClampNeg (some q_22) := ⟨_, rfl⟩
  have hP : va_P G vwCl [(h0, .inr (6, [.ref h1, .ref h2, .ref h3, .ref h4, .int 0, .ref q_1, .ref q_2, .ref q_4, .ref q_6, .ref q_8, .int 0, .int 0, .ref q_9, .int 0, .int 0])), (q_1, .inl (cy 4, 15, .inr (.inr (.inr (.inr f_24))))), (q_22, .inr (1, [.ref (u_23 0), .ref (u_23 1), .ref (u_23 2)])), ((u_23 0), .inl (cy 0, 6, .inl (fun _ => 0))), ((u_23 1), .inl (cy 0, 6, .inl (fun _ => (-1)))), ((u_23 2), .inl (cy 0, 6, .inl (fun _ => (-1))))] H := ef_24 ▸ hP
  have hD : va_D A [(h0, .inr (6, [.ref h1, .ref h2, .ref h3, .ref h4, .int 0, .ref q_1, .ref q_2, .ref q_4, .ref q_6, .ref q_8, .int 0, .int 0, .ref q_9, .int 0, .int 0])), (q_1, .inl (cy 4, 15, .inr (.inr (.inr (.inr f_24))))), (q_22, .inr (1, [.ref (u_23 0), .ref (u_23 1), .ref (u_23 2)])), ((u_23 0), .inl (cy 0, 6, .inl (fun _ => 0))), ((u_23 1), .inl (cy 0, 6, .inl (fun _ => (-1)))), ((u_23 2), .inl (cy 0, 6, .inl (fun _ => (-1))))] := ef_24 ▸ hD
  have hP : va_P G vwCl [(h0, .inr (6, [.ref h1, .ref h2, .ref h3, .ref h4, .int 0, .ref q_1, .ref q_2, .ref q_4, .ref q_6, .ref q_8, .int 0, .int 0, .ref q_9, .int 0, .int 0])), (q_1, .inl (cy 4, 15, .inr (.inr (.inr (.inr f_24)))))] H := hP.sub [0, 1] rfl
  have hD : va_D A [(h0, .inr (6, [.ref h1, .ref h2, .ref h3, .ref h4, .int 0, .ref q_1, .ref q_2, .ref q_4, .ref q_6, .ref q_8, .int 0, .int 0, .ref q_9, .int 0, .int 0])), (q_1, .inl (cy 4, 15, .inr (.inr (.inr (.inr f_24)))))] := hD.sub [0, 1] (by decide) rfl
  refine lv_iinc (v := (5)) (lv' := [(5, .int 5), (0, .ref h0), (1, .ref h1), (2, .ref h2), (3, .ref h3), (4, .ref h4)]) hx hb dX6_init_132 hl (k := 0) rfl (by decide) (by decide) rfl (fun ls hl => ?_)
  refine lv_goto (tgt := 111) hx hb dX6_init_135 (by decide) ?_
  refine lv_iload hx hb dX6_init_111 (lv_at hl 0 rfl) ?_
  refine lv_bipush (v := 14) hx hb dX6_init_113 (by decide) ?_
  refine lv_icmp_gt (tgt := 138) hx hb dX6_init_115 (by decide) (fun h9 => absurd h9 (by decide)) (fun _ => ?_)
  refine lv_aload_n hx hb dX6_init_118 rfl (lv_at hl 1 rfl) ?_
  refine va_get (ci := 6) (v := .ref q_1) (C := RX6) (T := TX6) (N := 15) hx hb hts inX6 hown hK hP 0 rfl rfl 5 (by decide) (hts _ gm_248) (fun _ h9 => h9) rfl dX6_init_119 ?_
  refine lv_iload hx hb dX6_init_122 (lv_at hl 0 rfl) ?_
  refine va_new (ci := 1) (fs := [.null, .null, .null]) (C := RX1) (T := TX1) (N := 3) hx hb hts inX1 tyX1 tyX1_ok hown (hts _ gm_239) (hts _ gm_114) (hts _ gm_7) hK hP hD hS hA rfl dfX1 (Nat.le_of_ble_eq_true rfl) (Nat.le_of_ble_eq_true rfl) dX6_init_124 (fun q_25 H hP hD hS => ?_)
  have hP : va_P G vwCl [(h0, .inr (6, [.ref h1, .ref h2, .ref h3, .ref h4, .int 0, .ref q_1, .ref q_2, .ref q_4, .ref q_6, .ref q_8, .int 0, .int 0, .ref q_9, .int 0, .int 0])), (q_1, .inl (cy 4, 15, .inr (.inr (.inr (.inr f_24))))), (q_25, .inr (1, [.null, .null, .null]))] H := hP
  have hD : va_D A [(h0, .inr (6, [.ref h1, .ref h2, .ref h3, .ref h4, .int 0, .ref q_1, .ref q_2, .ref q_4, .ref q_6, .ref q_8, .int 0, .int 0, .ref q_9, .int 0, .int 0])), (q_1, .inl (cy 4, 15, .inr (.inr (.inr (.inr f_24))))), (q_25, .inr (1, [.null, .null, .null]))] := hD
  refine W.widen (k := 72) (n := 460) (Nat.le_of_ble_eq_true rfl) (Nat.le_of_ble_eq_true rfl) ?_
  refine lv_dup hx hb dX6_init_127 rfl ?_
  refine gz_aftv (va_runI (As := []) (rest := [.ref q_25, .int 5, .ref q_1]) ⟨hx, hb, hml, hown, hts⟩ (c_X1_init l G cy H.size q_25 ) ⟨(gz_cb (n := 0) hts gm_242 gm_7 gm_117 ⟨by decide +kernel, by decide +kernel, by decide +kernel⟩ ⟨Nat.le_of_ble_eq_true rfl, Nat.le_of_ble_eq_true rfl⟩), rfl, hts _ gm_116⟩ (gz_preS hK hov hP hD [2] (by decide) rfl) rfl rfl hl.1 rfl (lv_room (Nat.le_of_ble_eq_true rfl)) dX6_init_128 ⟨Nat.le_of_ble_eq_true rfl, Nat.le_of_ble_eq_true rfl⟩) hP hD hS hA [2] [0, 1] rfl rfl (by decide) (by decide) (fun u_26 H locs hw_26 hP hD hS => ?_)
  have hP : va_P G vwCl [(h0, .inr (6, [.ref h1, .ref h2, .ref h3, .ref h4, .int 0, .ref q_1, .ref q_2, .ref q_4, .ref q_6, .ref q_8, .int 0, .int 0, .ref q_9, .int 0, .int 0])), (q_1, .inl (cy 4, 15, .inr (.inr (.inr (.inr f_24))))), (q_25, .inr (1, [.ref (u_26 0), .ref (u_26 1), .ref (u_26 2)])), ((u_26 0), .inl (cy 0, 6, .inl (fun _ => 0))), ((u_26 1), .inl (cy 0, 6, .inl (fun _ => (-1)))), ((u_26 2), .inl (cy 0, 6, .inl (fun _ => (-1))))] H := hP
  have hD : va_D A [(h0, .inr (6, [.ref h1, .ref h2, .ref h3, .ref h4, .int 0, .ref q_1, .ref q_2, .ref q_4, .ref q_6, .ref q_8, .int 0, .int 0, .ref q_9, .int 0, .int 0])), (q_1, .inl (cy 4, 15, .inr (.inr (.inr (.inr f_24))))), (q_25, .inr (1, [.ref (u_26 0), .ref (u_26 1), .ref (u_26 2)])), ((u_26 0), .inl (cy 0, 6, .inl (fun _ => 0))), ((u_26 1), .inl (cy 0, 6, .inl (fun _ => (-1)))), ((u_26 2), .inl (cy 0, 6, .inl (fun _ => (-1))))] := hD
  refine W.widen (k := 75) (n := 478) (Nat.le_of_ble_eq_true rfl) (Nat.le_of_ble_eq_true rfl) ?_
  refine va_astq hx hb hK hP hD hS 1 4 2 1 rfl rfl rfl rfl (vp_in_iff.mpr (by decide)) dX6_init_131 (fun H locs hP hD hS => ?_)
  obtain ⟨f_27, ef_27⟩ : ∃ g : Nat → Option Nat, g = va_up f_24 (5 : Int32).toNatClampNeg (some q_25) := ⟨_, rfl⟩
  have hP : va_P G vwCl [(h0, .inr (6, [.ref h1, .ref h2, .ref h3, .ref h4, .int 0, .ref q_1, .ref q_2, .ref q_4, .ref q_6, .ref q_8, .int 0, .int 0, .ref q_9, .int 0, .int 0])), (q_1, .inl (cy 4, 15, .inr (.inr (.inr (.inr f_27))))), (q_25, .inr (1, [.ref (u_26 0), .ref (u_26 1), .ref (u_26 2)])), ((u_26 0), .inl (cy 0, 6, .inl (fun _ => 0))), ((u_26 1), .inl (cy 0, 6, .inl (fun _ => (-1)))), ((u_26 2), .inl (cy 0, 6, .inl (fun _ => (-1))))] H := ef_27 ▸ hP
  have hD : va_D A [(h0, .inr (6, [.ref h1, .ref h2, .ref h3, .ref h4, .int 0, .ref q_1, .ref q_2, .ref q_4, .ref q_6, .ref q_8, .int 0, .int 0, .ref q_9, .int 0, .int 0])), (q_1, .inl (cy 4, 15, .inr (.inr (.inr (.inr f_27))))), (q_25, .inr (1, [.ref (u_26 0), .ref (u_26 1), .ref (u_26 2)])), ((u_26 0), .inl (cy 0, 6, .inl (fun _ => 0))), ((u_26 1), .inl (cy 0, 6, .inl (fun _ => (-1)))), ((u_26 2), .inl (cy 0, 6, .inl (fun _ => (-1))))] := ef_27 ▸ hD
  have hP : va_P G vwCl [(h0, .inr (6, [.ref h1, .ref h2, .ref h3, .ref h4, .int 0, .ref q_1, .ref q_2, .ref q_4, .ref q_6, .ref q_8, .int 0, .int 0, .ref q_9, .int 0, .int 0])), (q_1, .inl (cy 4, 15, .inr (.inr (.inr (.inr f_27)))))] H := hP.sub [0, 1] rfl
  have hD : va_D A [(h0, .inr (6, [.ref h1, .ref h2, .ref h3, .ref h4, .int 0, .ref q_1, .ref q_2, .ref q_4, .ref q_6, .ref q_8, .int 0, .int 0, .ref q_9, .int 0, .int 0])), (q_1, .inl (cy 4, 15, .inr (.inr (.inr (.inr f_27)))))] := hD.sub [0, 1] (by decide) rfl
  refine lv_iinc (v := (6)) (lv' := [(5, .int 6), (0, .ref h0), (1, .ref h1), (2, .ref h2), (3, .ref h3), (4, .ref h4)]) hx hb dX6_init_132 hl (k := 0) rfl (by decide) (by decide) rfl (fun ls hl => ?_)
  refine lv_goto (tgt := 111) hx hb dX6_init_135 (by decide) ?_
  refine lv_iload hx hb dX6_init_111 (lv_at hl 0 rfl) ?_
  refine lv_bipush (v := 14) hx hb dX6_init_113 (by decide) ?_
  refine lv_icmp_gt (tgt := 138) hx hb dX6_init_115 (by decide) (fun h9 => absurd h9 (by decide)) (fun _ => ?_)
  refine lv_aload_n hx hb dX6_init_118 rfl (lv_at hl 1 rfl) ?_
  refine va_get (ci := 6) (v := .ref q_1) (C := RX6) (T := TX6) (N := 15) hx hb hts inX6 hown hK hP 0 rfl rfl 5 (by decide) (hts _ gm_248) (fun _ h9 => h9) rfl dX6_init_119 ?_
  refine lv_iload hx hb dX6_init_122 (lv_at hl 0 rfl) ?_
  refine va_new (ci := 1) (fs := [.null, .null, .null]) (C := RX1) (T := TX1) (N := 3) hx hb hts inX1 tyX1 tyX1_ok hown (hts _ gm_239) (hts _ gm_114) (hts _ gm_7) hK hP hD hS hA rfl dfX1 (Nat.le_of_ble_eq_true rfl) (Nat.le_of_ble_eq_true rfl) dX6_init_124 (fun q_28 H hP hD hS => ?_)
  have hP : va_P G vwCl [(h0, .inr (6, [.ref h1, .ref h2, .ref h3, .ref h4, .int 0, .ref q_1, .ref q_2, .ref q_4, .ref q_6, .ref q_8, .int 0, .int 0, .ref q_9, .int 0, .int 0])), (q_1, .inl (cy 4, 15, .inr (.inr (.inr (.inr f_27))))), (q_28, .inr (1, [.null, .null, .null]))] H := hP
  have hD : va_D A [(h0, .inr (6, [.ref h1, .ref h2, .ref h3, .ref h4, .int 0, .ref q_1, .ref q_2, .ref q_4, .ref q_6, .ref q_8, .int 0, .int 0, .ref q_9, .int 0, .int 0])), (q_1, .inl (cy 4, 15, .inr (.inr (.inr (.inr f_27))))), (q_28, .inr (1, [.null, .null, .null]))] := hD
  refine W.widen (k := 76) (n := 481) (Nat.le_of_ble_eq_true rfl) (Nat.le_of_ble_eq_true rfl) ?_
  refine lv_dup hx hb dX6_init_127 rfl ?_
  refine gz_aftv (va_runI (As := []) (rest := [.ref q_28, .int 6, .ref q_1]) ⟨hx, hb, hml, hown, hts⟩ (c_X1_init l G cy H.size q_28 ) ⟨(gz_cb (n := 0) hts gm_242 gm_7 gm_117 ⟨by decide +kernel, by decide +kernel, by decide +kernel⟩ ⟨Nat.le_of_ble_eq_true rfl, Nat.le_of_ble_eq_true rfl⟩), rfl, hts _ gm_116⟩ (gz_preS hK hov hP hD [2] (by decide) rfl) rfl rfl hl.1 rfl (lv_room (Nat.le_of_ble_eq_true rfl)) dX6_init_128 ⟨Nat.le_of_ble_eq_true rfl, Nat.le_of_ble_eq_true rfl⟩) hP hD hS hA [2] [0, 1] rfl rfl (by decide) (by decide) (fun u_29 H locs hw_29 hP hD hS => ?_)
  have hP : va_P G vwCl [(h0, .inr (6, [.ref h1, .ref h2, .ref h3, .ref h4, .int 0, .ref q_1, .ref q_2, .ref q_4, .ref q_6, .ref q_8, .int 0, .int 0, .ref q_9, .int 0, .int 0])), (q_1, .inl (cy 4, 15, .inr (.inr (.inr (.inr f_27))))), (q_28, .inr (1, [.ref (u_29 0), .ref (u_29 1), .ref (u_29 2)])), ((u_29 0), .inl (cy 0, 6, .inl (fun _ => 0))), ((u_29 1), .inl (cy 0, 6, .inl (fun _ => (-1)))), ((u_29 2), .inl (cy 0, 6, .inl (fun _ => (-1))))] H := hP
  have hD : va_D A [(h0, .inr (6, [.ref h1, .ref h2, .ref h3, .ref h4, .int 0, .ref q_1, .ref q_2, .ref q_4, .ref q_6, .ref q_8, .int 0, .int 0, .ref q_9, .int 0, .int 0])), (q_1, .inl (cy 4, 15, .inr (.inr (.inr (.inr f_27))))), (q_28, .inr (1, [.ref (u_29 0), .ref (u_29 1), .ref (u_29 2)])), ((u_29 0), .inl (cy 0, 6, .inl (fun _ => 0))), ((u_29 1), .inl (cy 0, 6, .inl (fun _ => (-1)))), ((u_29 2), .inl (cy 0, 6, .inl (fun _ => (-1))))] := hD
  refine W.widen (k := 79) (n := 499) (Nat.le_of_ble_eq_true rfl) (Nat.le_of_ble_eq_true rfl) ?_
  refine va_astq hx hb hK hP hD hS 1 4 2 1 rfl rfl rfl rfl (vp_in_iff.mpr (by decide)) dX6_init_131 (fun H locs hP hD hS => ?_)
  obtain ⟨f_30, ef_30⟩ : ∃ g : Nat → Option Nat, g = va_up f_27 (6 : Int32).toNatClampNeg (some q_28) := ⟨_, rfl⟩
  have hP : va_P G vwCl [(h0, .inr (6, [.ref h1, .ref h2, .ref h3, .ref h4, .int 0, .ref q_1, .ref q_2, .ref q_4, .ref q_6, .ref q_8, .int 0, .int 0, .ref q_9, .int 0, .int 0])), (q_1, .inl (cy 4, 15, .inr (.inr (.inr (.inr f_30))))), (q_28, .inr (1, [.ref (u_29 0), .ref (u_29 1), .ref (u_29 2)])), ((u_29 0), .inl (cy 0, 6, .inl (fun _ => 0))), ((u_29 1), .inl (cy 0, 6, .inl (fun _ => (-1)))), ((u_29 2), .inl (cy 0, 6, .inl (fun _ => (-1))))] H := ef_30 ▸ hP
  have hD : va_D A [(h0, .inr (6, [.ref h1, .ref h2, .ref h3, .ref h4, .int 0, .ref q_1, .ref q_2, .ref q_4, .ref q_6, .ref q_8, .int 0, .int 0, .ref q_9, .int 0, .int 0])), (q_1, .inl (cy 4, 15, .inr (.inr (.inr (.inr f_30))))), (q_28, .inr (1, [.ref (u_29 0), .ref (u_29 1), .ref (u_29 2)])), ((u_29 0), .inl (cy 0, 6, .inl (fun _ => 0))), ((u_29 1), .inl (cy 0, 6, .inl (fun _ => (-1)))), ((u_29 2), .inl (cy 0, 6, .inl (fun _ => (-1))))] := ef_30 ▸ hD
  have hP : va_P G vwCl [(h0, .inr (6, [.ref h1, .ref h2, .ref h3, .ref h4, .int 0, .ref q_1, .ref q_2, .ref q_4, .ref q_6, .ref q_8, .int 0, .int 0, .ref q_9, .int 0, .int 0])), (q_1, .inl (cy 4, 15, .inr (.inr (.inr (.inr f_30)))))] H := hP.sub [0, 1] rfl
  have hD : va_D A [(h0, .inr (6, [.ref h1, .ref h2, .ref h3, .ref h4, .int 0, .ref q_1, .ref q_2, .ref q_4, .ref q_6, .ref q_8, .int 0, .int 0, .ref q_9, .int 0, .int 0])), (q_1, .inl (cy 4, 15, .inr (.inr (.inr (.inr f_30)))))] := hD.sub [0, 1] (by decide) rfl
  refine lv_iinc (v := (7)) (lv' := [(5, .int 7), (0, .ref h0), (1, .ref h1), (2, .ref h2), (3, .ref h3), (4, .ref h4)]) hx hb dX6_init_132 hl (k := 0) rfl (by decide) (by decide) rfl (fun ls hl => ?_)
  refine lv_goto (tgt := 111) hx hb dX6_init_135 (by decide) ?_
  refine lv_iload hx hb dX6_init_111 (lv_at hl 0 rfl) ?_
  refine lv_bipush (v := 14) hx hb dX6_init_113 (by decide) ?_
  refine lv_icmp_gt (tgt := 138) hx hb dX6_init_115 (by decide) (fun h9 => absurd h9 (by decide)) (fun _ => ?_)
  refine lv_aload_n hx hb dX6_init_118 rfl (lv_at hl 1 rfl) ?_
  refine va_get (ci := 6) (v := .ref q_1) (C := RX6) (T := TX6) (N := 15) hx hb hts inX6 hown hK hP 0 rfl rfl 5 (by decide) (hts _ gm_248) (fun _ h9 => h9) rfl dX6_init_119 ?_
  refine lv_iload hx hb dX6_init_122 (lv_at hl 0 rfl) ?_
  refine va_new (ci := 1) (fs := [.null, .null, .null]) (C := RX1) (T := TX1) (N := 3) hx hb hts inX1 tyX1 tyX1_ok hown (hts _ gm_239) (hts _ gm_114) (hts _ gm_7) hK hP hD hS hA rfl dfX1 (Nat.le_of_ble_eq_true rfl) (Nat.le_of_ble_eq_true rfl) dX6_init_124 (fun q_31 H hP hD hS => ?_)
  have hP : va_P G vwCl [(h0, .inr (6, [.ref h1, .ref h2, .ref h3, .ref h4, .int 0, .ref q_1, .ref q_2, .ref q_4, .ref q_6, .ref q_8, .int 0, .int 0, .ref q_9, .int 0, .int 0])), (q_1, .inl (cy 4, 15, .inr (.inr (.inr (.inr f_30))))), (q_31, .inr (1, [.null, .null, .null]))] H := hP
  have hD : va_D A [(h0, .inr (6, [.ref h1, .ref h2, .ref h3, .ref h4, .int 0, .ref q_1, .ref q_2, .ref q_4, .ref q_6, .ref q_8, .int 0, .int 0, .ref q_9, .int 0, .int 0])), (q_1, .inl (cy 4, 15, .inr (.inr (.inr (.inr f_30))))), (q_31, .inr (1, [.null, .null, .null]))] := hD
  refine W.widen (k := 80) (n := 502) (Nat.le_of_ble_eq_true rfl) (Nat.le_of_ble_eq_true rfl) ?_
  refine lv_dup hx hb dX6_init_127 rfl ?_
  refine gz_aftv (va_runI (As := []) (rest := [.ref q_31, .int 7, .ref q_1]) ⟨hx, hb, hml, hown, hts⟩ (c_X1_init l G cy H.size q_31 ) ⟨(gz_cb (n := 0) hts gm_242 gm_7 gm_117 ⟨by decide +kernel, by decide +kernel, by decide +kernel⟩ ⟨Nat.le_of_ble_eq_true rfl, Nat.le_of_ble_eq_true rfl⟩), rfl, hts _ gm_116⟩ (gz_preS hK hov hP hD [2] (by decide) rfl) rfl rfl hl.1 rfl (lv_room (Nat.le_of_ble_eq_true rfl)) dX6_init_128 ⟨Nat.le_of_ble_eq_true rfl, Nat.le_of_ble_eq_true rfl⟩) hP hD hS hA [2] [0, 1] rfl rfl (by decide) (by decide) (fun u_32 H locs hw_32 hP hD hS => ?_)
  have hP : va_P G vwCl [(h0, .inr (6, [.ref h1, .ref h2, .ref h3, .ref h4, .int 0, .ref q_1, .ref q_2, .ref q_4, .ref q_6, .ref q_8, .int 0, .int 0, .ref q_9, .int 0, .int 0])), (q_1, .inl (cy 4, 15, .inr (.inr (.inr (.inr f_30))))), (q_31, .inr (1, [.ref (u_32 0), .ref (u_32 1), .ref (u_32 2)])), ((u_32 0), .inl (cy 0, 6, .inl (fun _ => 0))), ((u_32 1), .inl (cy 0, 6, .inl (fun _ => (-1)))), ((u_32 2), .inl (cy 0, 6, .inl (fun _ => (-1))))] H := hP
  have hD : va_D A [(h0, .inr (6, [.ref h1, .ref h2, .ref h3, .ref h4, .int 0, .ref q_1, .ref q_2, .ref q_4, .ref q_6, .ref q_8, .int 0, .int 0, .ref q_9, .int 0, .int 0])), (q_1, .inl (cy 4, 15, .inr (.inr (.inr (.inr f_30))))), (q_31, .inr (1, [.ref (u_32 0), .ref (u_32 1), .ref (u_32 2)])), ((u_32 0), .inl (cy 0, 6, .inl (fun _ => 0))), ((u_32 1), .inl (cy 0, 6, .inl (fun _ => (-1)))), ((u_32 2), .inl (cy 0, 6, .inl (fun _ => (-1))))] := hD
  refine W.widen (k := 83) (n := 520) (Nat.le_of_ble_eq_true rfl) (Nat.le_of_ble_eq_true rfl) ?_
  refine va_astq hx hb hK hP hD hS 1 4 2 1 rfl rfl rfl rfl (vp_in_iff.mpr (by decide)) dX6_init_131 (fun H locs hP hD hS => ?_)
  obtain ⟨f_33, ef_33⟩ : ∃ g : Nat → Option Nat, g = va_up f_30 (7 : Int32).toNatClampNeg (some q_31) := ⟨_, rfl⟩
  have hP : va_P G vwCl [(h0, .inr (6, [.ref h1, .ref h2, .ref h3, .ref h4, .int 0, .ref q_1, .ref q_2, .ref q_4, .ref q_6, .ref q_8, .int 0, .int 0, .ref q_9, .int 0, .int 0])), (q_1, .inl (cy 4, 15, .inr (.inr (.inr (.inr f_33))))), (q_31, .inr (1, [.ref (u_32 0), .ref (u_32 1), .ref (u_32 2)])), ((u_32 0), .inl (cy 0, 6, .inl (fun _ => 0))), ((u_32 1), .inl (cy 0, 6, .inl (fun _ => (-1)))), ((u_32 2), .inl (cy 0, 6, .inl (fun _ => (-1))))] H := ef_33 ▸ hP
  have hD : va_D A [(h0, .inr (6, [.ref h1, .ref h2, .ref h3, .ref h4, .int 0, .ref q_1, .ref q_2, .ref q_4, .ref q_6, .ref q_8, .int 0, .int 0, .ref q_9, .int 0, .int 0])), (q_1, .inl (cy 4, 15, .inr (.inr (.inr (.inr f_33))))), (q_31, .inr (1, [.ref (u_32 0), .ref (u_32 1), .ref (u_32 2)])), ((u_32 0), .inl (cy 0, 6, .inl (fun _ => 0))), ((u_32 1), .inl (cy 0, 6, .inl (fun _ => (-1)))), ((u_32 2), .inl (cy 0, 6, .inl (fun _ => (-1))))] := ef_33 ▸ hD
  have hP : va_P G vwCl [(h0, .inr (6, [.ref h1, .ref h2, .ref h3, .ref h4, .int 0, .ref q_1, .ref q_2, .ref q_4, .ref q_6, .ref q_8, .int 0, .int 0, .ref q_9, .int 0, .int 0])), (q_1, .inl (cy 4, 15, .inr (.inr (.inr (.inr f_33)))))] H := hP.sub [0, 1] rfl
  have hD : va_D A [(h0, .inr (6, [.ref h1, .ref h2, .ref h3, .ref h4, .int 0, .ref q_1, .ref q_2, .ref q_4, .ref q_6, .ref q_8, .int 0, .int 0, .ref q_9, .int 0, .int 0])), (q_1, .inl (cy 4, 15, .inr (.inr (.inr (.inr f_33)))))] := hD.sub [0, 1] (by decide) rfl
  refine lv_iinc (v := (8)) (lv' := [(5, .int 8), (0, .ref h0), (1, .ref h1), (2, .ref h2), (3, .ref h3), (4, .ref h4)]) hx hb dX6_init_132 hl (k := 0) rfl (by decide) (by decide) rfl (fun ls hl => ?_)
  refine lv_goto (tgt := 111) hx hb dX6_init_135 (by decide) ?_
  refine lv_iload hx hb dX6_init_111 (lv_at hl 0 rfl) ?_
  refine lv_bipush (v := 14) hx hb dX6_init_113 (by decide) ?_
  refine lv_icmp_gt (tgt := 138) hx hb dX6_init_115 (by decide) (fun h9 => absurd h9 (by decide)) (fun _ => ?_)
  refine lv_aload_n hx hb dX6_init_118 rfl (lv_at hl 1 rfl) ?_
  refine va_get (ci := 6) (v := .ref q_1) (C := RX6) (T := TX6) (N := 15) hx hb hts inX6 hown hK hP 0 rfl rfl 5 (by decide) (hts _ gm_248) (fun _ h9 => h9) rfl dX6_init_119 ?_
  refine lv_iload hx hb dX6_init_122 (lv_at hl 0 rfl) ?_
  refine va_new (ci := 1) (fs := [.null, .null, .null]) (C := RX1) (T := TX1) (N := 3) hx hb hts inX1 tyX1 tyX1_ok hown (hts _ gm_239) (hts _ gm_114) (hts _ gm_7) hK hP hD hS hA rfl dfX1 (Nat.le_of_ble_eq_true rfl) (Nat.le_of_ble_eq_true rfl) dX6_init_124 (fun q_34 H hP hD hS => ?_)
  have hP : va_P G vwCl [(h0, .inr (6, [.ref h1, .ref h2, .ref h3, .ref h4, .int 0, .ref q_1, .ref q_2, .ref q_4, .ref q_6, .ref q_8, .int 0, .int 0, .ref q_9, .int 0, .int 0])), (q_1, .inl (cy 4, 15, .inr (.inr (.inr (.inr f_33))))), (q_34, .inr (1, [.null, .null, .null]))] H := hP
  have hD : va_D A [(h0, .inr (6, [.ref h1, .ref h2, .ref h3, .ref h4, .int 0, .ref q_1, .ref q_2, .ref q_4, .ref q_6, .ref q_8, .int 0, .int 0, .ref q_9, .int 0, .int 0])), (q_1, .inl (cy 4, 15, .inr (.inr (.inr (.inr f_33))))), (q_34, .inr (1, [.null, .null, .null]))] := hD
  refine W.widen (k := 84) (n := 523) (Nat.le_of_ble_eq_true rfl) (Nat.le_of_ble_eq_true rfl) ?_
  refine lv_dup hx hb dX6_init_127 rfl ?_
  refine gz_aftv (va_runI (As := []) (rest := [.ref q_34, .int 8, .ref q_1]) ⟨hx, hb, hml, hown, hts⟩ (c_X1_init l G cy H.size q_34 ) ⟨(gz_cb (n := 0) hts gm_242 gm_7 gm_117 ⟨by decide +kernel, by decide +kernel, by decide +kernel⟩ ⟨Nat.le_of_ble_eq_true rfl, Nat.le_of_ble_eq_true rfl⟩), rfl, hts _ gm_116⟩ (gz_preS hK hov hP hD [2] (by decide) rfl) rfl rfl hl.1 rfl (lv_room (Nat.le_of_ble_eq_true rfl)) dX6_init_128 ⟨Nat.le_of_ble_eq_true rfl, Nat.le_of_ble_eq_true rfl⟩) hP hD hS hA [2] [0, 1] rfl rfl (by decide) (by decide) (fun u_35 H locs hw_35 hP hD hS => ?_)
  have hP : va_P G vwCl [(h0, .inr (6, [.ref h1, .ref h2, .ref h3, .ref h4, .int 0, .ref q_1, .ref q_2, .ref q_4, .ref q_6, .ref q_8, .int 0, .int 0, .ref q_9, .int 0, .int 0])), (q_1, .inl (cy 4, 15, .inr (.inr (.inr (.inr f_33))))), (q_34, .inr (1, [.ref (u_35 0), .ref (u_35 1), .ref (u_35 2)])), ((u_35 0), .inl (cy 0, 6, .inl (fun _ => 0))), ((u_35 1), .inl (cy 0, 6, .inl (fun _ => (-1)))), ((u_35 2), .inl (cy 0, 6, .inl (fun _ => (-1))))] H := hP
  have hD : va_D A [(h0, .inr (6, [.ref h1, .ref h2, .ref h3, .ref h4, .int 0, .ref q_1, .ref q_2, .ref q_4, .ref q_6, .ref q_8, .int 0, .int 0, .ref q_9, .int 0, .int 0])), (q_1, .inl (cy 4, 15, .inr (.inr (.inr (.inr f_33))))), (q_34, .inr (1, [.ref (u_35 0), .ref (u_35 1), .ref (u_35 2)])), ((u_35 0), .inl (cy 0, 6, .inl (fun _ => 0))), ((u_35 1), .inl (cy 0, 6, .inl (fun _ => (-1)))), ((u_35 2), .inl (cy 0, 6, .inl (fun _ => (-1))))] := hD
  refine W.widen (k := 87) (n := 541) (Nat.le_of_ble_eq_true rfl) (Nat.le_of_ble_eq_true rfl) ?_
  refine va_astq hx hb hK hP hD hS 1 4 2 1 rfl rfl rfl rfl (vp_in_iff.mpr (by decide)) dX6_init_131 (fun H locs hP hD hS => ?_)
  obtain ⟨f_36, ef_36⟩ : ∃ g : Nat → Option Nat, g = va_up f_33 (8 : Int32).toNatClampNeg (some q_34) := ⟨_, rfl⟩
  have hP : va_P G vwCl [(h0, .inr (6, [.ref h1, .ref h2, .ref h3, .ref h4, .int 0, .ref q_1, .ref q_2, .ref q_4, .ref q_6, .ref q_8, .int 0, .int 0, .ref q_9, .int 0, .int 0])), (q_1, .inl (cy 4, 15, .inr (.inr (.inr (.inr f_36))))), (q_34, .inr (1, [.ref (u_35 0), .ref (u_35 1), .ref (u_35 2)])), ((u_35 0), .inl (cy 0, 6, .inl (fun _ => 0))), ((u_35 1), .inl (cy 0, 6, .inl (fun _ => (-1)))), ((u_35 2), .inl (cy 0, 6, .inl (fun _ => (-1))))] H := ef_36 ▸ hP
  have hD : va_D A [(h0, .inr (6, [.ref h1, .ref h2, .ref h3, .ref h4, .int 0, .ref q_1, .ref q_2, .ref q_4, .ref q_6, .ref q_8, .int 0, .int 0, .ref q_9, .int 0, .int 0])), (q_1, .inl (cy 4, 15, .inr (.inr (.inr (.inr f_36))))), (q_34, .inr (1, [.ref (u_35 0), .ref (u_35 1), .ref (u_35 2)])), ((u_35 0), .inl (cy 0, 6, .inl (fun _ => 0))), ((u_35 1), .inl (cy 0, 6, .inl (fun _ => (-1)))), ((u_35 2), .inl (cy 0, 6, .inl (fun _ => (-1))))] := ef_36 ▸ hD
  have hP : va_P G vwCl [(h0, .inr (6, [.ref h1, .ref h2, .ref h3, .ref h4, .int 0, .ref q_1, .ref q_2, .ref q_4, .ref q_6, .ref q_8, .int 0, .int 0, .ref q_9, .int 0, .int 0])), (q_1, .inl (cy 4, 15, .inr (.inr (.inr (.inr f_36)))))] H := hP.sub [0, 1] rfl
  have hD : va_D A [(h0, .inr (6, [.ref h1, .ref h2, .ref h3, .ref h4, .int 0, .ref q_1, .ref q_2, .ref q_4, .ref q_6, .ref q_8, .int 0, .int 0, .ref q_9, .int 0, .int 0])), (q_1, .inl (cy 4, 15, .inr (.inr (.inr (.inr f_36)))))] := hD.sub [0, 1] (by decide) rfl
  refine lv_iinc (v := (9)) (lv' := [(5, .int 9), (0, .ref h0), (1, .ref h1), (2, .ref h2), (3, .ref h3), (4, .ref h4)]) hx hb dX6_init_132 hl (k := 0) rfl (by decide) (by decide) rfl (fun ls hl => ?_)
  refine lv_goto (tgt := 111) hx hb dX6_init_135 (by decide) ?_
  refine lv_iload hx hb dX6_init_111 (lv_at hl 0 rfl) ?_
  refine lv_bipush (v := 14) hx hb dX6_init_113 (by decide) ?_
  refine lv_icmp_gt (tgt := 138) hx hb dX6_init_115 (by decide) (fun h9 => absurd h9 (by decide)) (fun _ => ?_)
  refine lv_aload_n hx hb dX6_init_118 rfl (lv_at hl 1 rfl) ?_
  refine va_get (ci := 6) (v := .ref q_1) (C := RX6) (T := TX6) (N := 15) hx hb hts inX6 hown hK hP 0 rfl rfl 5 (by decide) (hts _ gm_248) (fun _ h9 => h9) rfl dX6_init_119 ?_
  refine lv_iload hx hb dX6_init_122 (lv_at hl 0 rfl) ?_
  refine va_new (ci := 1) (fs := [.null, .null, .null]) (C := RX1) (T := TX1) (N := 3) hx hb hts inX1 tyX1 tyX1_ok hown (hts _ gm_239) (hts _ gm_114) (hts _ gm_7) hK hP hD hS hA rfl dfX1 (Nat.le_of_ble_eq_true rfl) (Nat.le_of_ble_eq_true rfl) dX6_init_124 (fun q_37 H hP hD hS => ?_)
  have hP : va_P G vwCl [(h0, .inr (6, [.ref h1, .ref h2, .ref h3, .ref h4, .int 0, .ref q_1, .ref q_2, .ref q_4, .ref q_6, .ref q_8, .int 0, .int 0, .ref q_9, .int 0, .int 0])), (q_1, .inl (cy 4, 15, .inr (.inr (.inr (.inr f_36))))), (q_37, .inr (1, [.null, .null, .null]))] H := hP
  have hD : va_D A [(h0, .inr (6, [.ref h1, .ref h2, .ref h3, .ref h4, .int 0, .ref q_1, .ref q_2, .ref q_4, .ref q_6, .ref q_8, .int 0, .int 0, .ref q_9, .int 0, .int 0])), (q_1, .inl (cy 4, 15, .inr (.inr (.inr (.inr f_36))))), (q_37, .inr (1, [.null, .null, .null]))] := hD
  refine W.widen (k := 88) (n := 544) (Nat.le_of_ble_eq_true rfl) (Nat.le_of_ble_eq_true rfl) ?_
  refine lv_dup hx hb dX6_init_127 rfl ?_
  refine gz_aftv (va_runI (As := []) (rest := [.ref q_37, .int 9, .ref q_1]) ⟨hx, hb, hml, hown, hts⟩ (c_X1_init l G cy H.size q_37 ) ⟨(gz_cb (n := 0) hts gm_242 gm_7 gm_117 ⟨by decide +kernel, by decide +kernel, by decide +kernel⟩ ⟨Nat.le_of_ble_eq_true rfl, Nat.le_of_ble_eq_true rfl⟩), rfl, hts _ gm_116⟩ (gz_preS hK hov hP hD [2] (by decide) rfl) rfl rfl hl.1 rfl (lv_room (Nat.le_of_ble_eq_true rfl)) dX6_init_128 ⟨Nat.le_of_ble_eq_true rfl, Nat.le_of_ble_eq_true rfl⟩) hP hD hS hA [2] [0, 1] rfl rfl (by decide) (by decide) (fun u_38 H locs hw_38 hP hD hS => ?_)
  have hP : va_P G vwCl [(h0, .inr (6, [.ref h1, .ref h2, .ref h3, .ref h4, .int 0, .ref q_1, .ref q_2, .ref q_4, .ref q_6, .ref q_8, .int 0, .int 0, .ref q_9, .int 0, .int 0])), (q_1, .inl (cy 4, 15, .inr (.inr (.inr (.inr f_36))))), (q_37, .inr (1, [.ref (u_38 0), .ref (u_38 1), .ref (u_38 2)])), ((u_38 0), .inl (cy 0, 6, .inl (fun _ => 0))), ((u_38 1), .inl (cy 0, 6, .inl (fun _ => (-1)))), ((u_38 2), .inl (cy 0, 6, .inl (fun _ => (-1))))] H := hP
  have hD : va_D A [(h0, .inr (6, [.ref h1, .ref h2, .ref h3, .ref h4, .int 0, .ref q_1, .ref q_2, .ref q_4, .ref q_6, .ref q_8, .int 0, .int 0, .ref q_9, .int 0, .int 0])), (q_1, .inl (cy 4, 15, .inr (.inr (.inr (.inr f_36))))), (q_37, .inr (1, [.ref (u_38 0), .ref (u_38 1), .ref (u_38 2)])), ((u_38 0), .inl (cy 0, 6, .inl (fun _ => 0))), ((u_38 1), .inl (cy 0, 6, .inl (fun _ => (-1)))), ((u_38 2), .inl (cy 0, 6, .inl (fun _ => (-1))))] := hD
  refine W.widen (k := 91) (n := 562) (Nat.le_of_ble_eq_true rfl) (Nat.le_of_ble_eq_true rfl) ?_
  refine va_astq hx hb hK hP hD hS 1 4 2 1 rfl rfl rfl rfl (vp_in_iff.mpr (by decide)) dX6_init_131 (fun H locs hP hD hS => ?_)
  obtain ⟨f_39, ef_39⟩ : ∃ g : Nat → Option Nat, g = va_up f_36 (9 : Int32).toNatClampNeg (some q_37) := ⟨_, rfl⟩
  have hP : va_P G vwCl [(h0, .inr (6, [.ref h1, .ref h2, .ref h3, .ref h4, .int 0, .ref q_1, .ref q_2, .ref q_4, .ref q_6, .ref q_8, .int 0, .int 0, .ref q_9, .int 0, .int 0])), (q_1, .inl (cy 4, 15, .inr (.inr (.inr (.inr f_39))))), (q_37, .inr (1, [.ref (u_38 0), .ref (u_38 1), .ref (u_38 2)])), ((u_38 0), .inl (cy 0, 6, .inl (fun _ => 0))), ((u_38 1), .inl (cy 0, 6, .inl (fun _ => (-1)))), ((u_38 2), .inl (cy 0, 6, .inl (fun _ => (-1))))] H := ef_39 ▸ hP
  have hD : va_D A [(h0, .inr (6, [.ref h1, .ref h2, .ref h3, .ref h4, .int 0, .ref q_1, .ref q_2, .ref q_4, .ref q_6, .ref q_8, .int 0, .int 0, .ref q_9, .int 0, .int 0])), (q_1, .inl (cy 4, 15, .inr (.inr (.inr (.inr f_39))))), (q_37, .inr (1, [.ref (u_38 0), .ref (u_38 1), .ref (u_38 2)])), ((u_38 0), .inl (cy 0, 6, .inl (fun _ => 0))), ((u_38 1), .inl (cy 0, 6, .inl (fun _ => (-1)))), ((u_38 2), .inl (cy 0, 6, .inl (fun _ => (-1))))] := ef_39 ▸ hD
  have hP : va_P G vwCl [(h0, .inr (6, [.ref h1, .ref h2, .ref h3, .ref h4, .int 0, .ref q_1, .ref q_2, .ref q_4, .ref q_6, .ref q_8, .int 0, .int 0, .ref q_9, .int 0, .int 0])), (q_1, .inl (cy 4, 15, .inr (.inr (.inr (.inr f_39)))))] H := hP.sub [0, 1] rfl
  have hD : va_D A [(h0, .inr (6, [.ref h1, .ref h2, .ref h3, .ref h4, .int 0, .ref q_1, .ref q_2, .ref q_4, .ref q_6, .ref q_8, .int 0, .int 0, .ref q_9, .int 0, .int 0])), (q_1, .inl (cy 4, 15, .inr (.inr (.inr (.inr f_39)))))] := hD.sub [0, 1] (by decide) rfl
  refine lv_iinc (v := (10)) (lv' := [(5, .int 10), (0, .ref h0), (1, .ref h1), (2, .ref h2), (3, .ref h3), (4, .ref h4)]) hx hb dX6_init_132 hl (k := 0) rfl (by decide) (by decide) rfl (fun ls hl => ?_)
  refine lv_goto (tgt := 111) hx hb dX6_init_135 (by decide) ?_
  refine lv_iload hx hb dX6_init_111 (lv_at hl 0 rfl) ?_
  refine lv_bipush (v := 14) hx hb dX6_init_113 (by decide) ?_
  refine lv_icmp_gt (tgt := 138) hx hb dX6_init_115 (by decide) (fun h9 => absurd h9 (by decide)) (fun _ => ?_)
  refine lv_aload_n hx hb dX6_init_118 rfl (lv_at hl 1 rfl) ?_
  refine va_get (ci := 6) (v := .ref q_1) (C := RX6) (T := TX6) (N := 15) hx hb hts inX6 hown hK hP 0 rfl rfl 5 (by decide) (hts _ gm_248) (fun _ h9 => h9) rfl dX6_init_119 ?_
  refine lv_iload hx hb dX6_init_122 (lv_at hl 0 rfl) ?_
  refine va_new (ci := 1) (fs := [.null, .null, .null]) (C := RX1) (T := TX1) (N := 3) hx hb hts inX1 tyX1 tyX1_ok hown (hts _ gm_239) (hts _ gm_114) (hts _ gm_7) hK hP hD hS hA rfl dfX1 (Nat.le_of_ble_eq_true rfl) (Nat.le_of_ble_eq_true rfl) dX6_init_124 (fun q_40 H hP hD hS => ?_)
  have hP : va_P G vwCl [(h0, .inr (6, [.ref h1, .ref h2, .ref h3, .ref h4, .int 0, .ref q_1, .ref q_2, .ref q_4, .ref q_6, .ref q_8, .int 0, .int 0, .ref q_9, .int 0, .int 0])), (q_1, .inl (cy 4, 15, .inr (.inr (.inr (.inr f_39))))), (q_40, .inr (1, [.null, .null, .null]))] H := hP
  have hD : va_D A [(h0, .inr (6, [.ref h1, .ref h2, .ref h3, .ref h4, .int 0, .ref q_1, .ref q_2, .ref q_4, .ref q_6, .ref q_8, .int 0, .int 0, .ref q_9, .int 0, .int 0])), (q_1, .inl (cy 4, 15, .inr (.inr (.inr (.inr f_39))))), (q_40, .inr (1, [.null, .null, .null]))] := hD
  refine W.widen (k := 92) (n := 565) (Nat.le_of_ble_eq_true rfl) (Nat.le_of_ble_eq_true rfl) ?_
  refine lv_dup hx hb dX6_init_127 rfl ?_
  refine gz_aftv (va_runI (As := []) (rest := [.ref q_40, .int 10, .ref q_1]) ⟨hx, hb, hml, hown, hts⟩ (c_X1_init l G cy H.size q_40 ) ⟨(gz_cb (n := 0) hts gm_242 gm_7 gm_117 ⟨by decide +kernel, by decide +kernel, by decide +kernel⟩ ⟨Nat.le_of_ble_eq_true rfl, Nat.le_of_ble_eq_true rfl⟩), rfl, hts _ gm_116⟩ (gz_preS hK hov hP hD [2] (by decide) rfl) rfl rfl hl.1 rfl (lv_room (Nat.le_of_ble_eq_true rfl)) dX6_init_128 ⟨Nat.le_of_ble_eq_true rfl, Nat.le_of_ble_eq_true rfl⟩) hP hD hS hA [2] [0, 1] rfl rfl (by decide) (by decide) (fun u_41 H locs hw_41 hP hD hS => ?_)
  have hP : va_P G vwCl [(h0, .inr (6, [.ref h1, .ref h2, .ref h3, .ref h4, .int 0, .ref q_1, .ref q_2, .ref q_4, .ref q_6, .ref q_8, .int 0, .int 0, .ref q_9, .int 0, .int 0])), (q_1, .inl (cy 4, 15, .inr (.inr (.inr (.inr f_39))))), (q_40, .inr (1, [.ref (u_41 0), .ref (u_41 1), .ref (u_41 2)])), ((u_41 0), .inl (cy 0, 6, .inl (fun _ => 0))), ((u_41 1), .inl (cy 0, 6, .inl (fun _ => (-1)))), ((u_41 2), .inl (cy 0, 6, .inl (fun _ => (-1))))] H := hP
  have hD : va_D A [(h0, .inr (6, [.ref h1, .ref h2, .ref h3, .ref h4, .int 0, .ref q_1, .ref q_2, .ref q_4, .ref q_6, .ref q_8, .int 0, .int 0, .ref q_9, .int 0, .int 0])), (q_1, .inl (cy 4, 15, .inr (.inr (.inr (.inr f_39))))), (q_40, .inr (1, [.ref (u_41 0), .ref (u_41 1), .ref (u_41 2)])), ((u_41 0), .inl (cy 0, 6, .inl (fun _ => 0))), ((u_41 1), .inl (cy 0, 6, .inl (fun _ => (-1)))), ((u_41 2), .inl (cy 0, 6, .inl (fun _ => (-1))))] := hD
  refine W.widen (k := 95) (n := 583) (Nat.le_of_ble_eq_true rfl) (Nat.le_of_ble_eq_true rfl) ?_
  refine va_astq hx hb hK hP hD hS 1 4 2 1 rfl rfl rfl rfl (vp_in_iff.mpr (by decide)) dX6_init_131 (fun H locs hP hD hS => ?_)
  obtain ⟨f_42, ef_42⟩ : ∃ g : Nat → Option Nat, g = va_up f_39 (10 : Int32).toNatClampNeg (some q_40) := ⟨_, rfl⟩
  have hP : va_P G vwCl [(h0, .inr (6, [.ref h1, .ref h2, .ref h3, .ref h4, .int 0, .ref q_1, .ref q_2, .ref q_4, .ref q_6, .ref q_8, .int 0, .int 0, .ref q_9, .int 0, .int 0])), (q_1, .inl (cy 4, 15, .inr (.inr (.inr (.inr f_42))))), (q_40, .inr (1, [.ref (u_41 0), .ref (u_41 1), .ref (u_41 2)])), ((u_41 0), .inl (cy 0, 6, .inl (fun _ => 0))), ((u_41 1), .inl (cy 0, 6, .inl (fun _ => (-1)))), ((u_41 2), .inl (cy 0, 6, .inl (fun _ => (-1))))] H := ef_42 ▸ hP
  have hD : va_D A [(h0, .inr (6, [.ref h1, .ref h2, .ref h3, .ref h4, .int 0, .ref q_1, .ref q_2, .ref q_4, .ref q_6, .ref q_8, .int 0, .int 0, .ref q_9, .int 0, .int 0])), (q_1, .inl (cy 4, 15, .inr (.inr (.inr (.inr f_42))))), (q_40, .inr (1, [.ref (u_41 0), .ref (u_41 1), .ref (u_41 2)])), ((u_41 0), .inl (cy 0, 6, .inl (fun _ => 0))), ((u_41 1), .inl (cy 0, 6, .inl (fun _ => (-1)))), ((u_41 2), .inl (cy 0, 6, .inl (fun _ => (-1))))] := ef_42 ▸ hD
  have hP : va_P G vwCl [(h0, .inr (6, [.ref h1, .ref h2, .ref h3, .ref h4, .int 0, .ref q_1, .ref q_2, .ref q_4, .ref q_6, .ref q_8, .int 0, .int 0, .ref q_9, .int 0, .int 0])), (q_1, .inl (cy 4, 15, .inr (.inr (.inr (.inr f_42)))))] H := hP.sub [0, 1] rfl
  have hD : va_D A [(h0, .inr (6, [.ref h1, .ref h2, .ref h3, .ref h4, .int 0, .ref q_1, .ref q_2, .ref q_4, .ref q_6, .ref q_8, .int 0, .int 0, .ref q_9, .int 0, .int 0])), (q_1, .inl (cy 4, 15, .inr (.inr (.inr (.inr f_42)))))] := hD.sub [0, 1] (by decide) rfl
  refine lv_iinc (v := (11)) (lv' := [(5, .int 11), (0, .ref h0), (1, .ref h1), (2, .ref h2), (3, .ref h3), (4, .ref h4)]) hx hb dX6_init_132 hl (k := 0) rfl (by decide) (by decide) rfl (fun ls hl => ?_)
  refine lv_goto (tgt := 111) hx hb dX6_init_135 (by decide) ?_
  refine lv_iload hx hb dX6_init_111 (lv_at hl 0 rfl) ?_
  refine lv_bipush (v := 14) hx hb dX6_init_113 (by decide) ?_
  refine lv_icmp_gt (tgt := 138) hx hb dX6_init_115 (by decide) (fun h9 => absurd h9 (by decide)) (fun _ => ?_)
  refine lv_aload_n hx hb dX6_init_118 rfl (lv_at hl 1 rfl) ?_
  refine va_get (ci := 6) (v := .ref q_1) (C := RX6) (T := TX6) (N := 15) hx hb hts inX6 hown hK hP 0 rfl rfl 5 (by decide) (hts _ gm_248) (fun _ h9 => h9) rfl dX6_init_119 ?_
  refine lv_iload hx hb dX6_init_122 (lv_at hl 0 rfl) ?_
  refine va_new (ci := 1) (fs := [.null, .null, .null]) (C := RX1) (T := TX1) (N := 3) hx hb hts inX1 tyX1 tyX1_ok hown (hts _ gm_239) (hts _ gm_114) (hts _ gm_7) hK hP hD hS hA rfl dfX1 (Nat.le_of_ble_eq_true rfl) (Nat.le_of_ble_eq_true rfl) dX6_init_124 (fun q_43 H hP hD hS => ?_)
  have hP : va_P G vwCl [(h0, .inr (6, [.ref h1, .ref h2, .ref h3, .ref h4, .int 0, .ref q_1, .ref q_2, .ref q_4, .ref q_6, .ref q_8, .int 0, .int 0, .ref q_9, .int 0, .int 0])), (q_1, .inl (cy 4, 15, .inr (.inr (.inr (.inr f_42))))), (q_43, .inr (1, [.null, .null, .null]))] H := hP
  have hD : va_D A [(h0, .inr (6, [.ref h1, .ref h2, .ref h3, .ref h4, .int 0, .ref q_1, .ref q_2, .ref q_4, .ref q_6, .ref q_8, .int 0, .int 0, .ref q_9, .int 0, .int 0])), (q_1, .inl (cy 4, 15, .inr (.inr (.inr (.inr f_42))))), (q_43, .inr (1, [.null, .null, .null]))] := hD
  refine W.widen (k := 96) (n := 586) (Nat.le_of_ble_eq_true rfl) (Nat.le_of_ble_eq_true rfl) ?_
  refine lv_dup hx hb dX6_init_127 rfl ?_
  refine gz_aftv (va_runI (As := []) (rest := [.ref q_43, .int 11, .ref q_1]) ⟨hx, hb, hml, hown, hts⟩ (c_X1_init l G cy H.size q_43 ) ⟨(gz_cb (n := 0) hts gm_242 gm_7 gm_117 ⟨by decide +kernel, by decide +kernel, by decide +kernel⟩ ⟨Nat.le_of_ble_eq_true rfl, Nat.le_of_ble_eq_true rfl⟩), rfl, hts _ gm_116⟩ (gz_preS hK hov hP hD [2] (by decide) rfl) rfl rfl hl.1 rfl (lv_room (Nat.le_of_ble_eq_true rfl)) dX6_init_128 ⟨Nat.le_of_ble_eq_true rfl, Nat.le_of_ble_eq_true rfl⟩) hP hD hS hA [2] [0, 1] rfl rfl (by decide) (by decide) (fun u_44 H locs hw_44 hP hD hS => ?_)
  have hP : va_P G vwCl [(h0, .inr (6, [.ref h1, .ref h2, .ref h3, .ref h4, .int 0, .ref q_1, .ref q_2, .ref q_4, .ref q_6, .ref q_8, .int 0, .int 0, .ref q_9, .int 0, .int 0])), (q_1, .inl (cy 4, 15, .inr (.inr (.inr (.inr f_42))))), (q_43, .inr (1, [.ref (u_44 0), .ref (u_44 1), .ref (u_44 2)])), ((u_44 0), .inl (cy 0, 6, .inl (fun _ => 0))), ((u_44 1), .inl (cy 0, 6, .inl (fun _ => (-1)))), ((u_44 2), .inl (cy 0, 6, .inl (fun _ => (-1))))] H := hP
  have hD : va_D A [(h0, .inr (6, [.ref h1, .ref h2, .ref h3, .ref h4, .int 0, .ref q_1, .ref q_2, .ref q_4, .ref q_6, .ref q_8, .int 0, .int 0, .ref q_9, .int 0, .int 0])), (q_1, .inl (cy 4, 15, .inr (.inr (.inr (.inr f_42))))), (q_43, .inr (1, [.ref (u_44 0), .ref (u_44 1), .ref (u_44 2)])), ((u_44 0), .inl (cy 0, 6, .inl (fun _ => 0))), ((u_44 1), .inl (cy 0, 6, .inl (fun _ => (-1)))), ((u_44 2), .inl (cy 0, 6, .inl (fun _ => (-1))))] := hD
  refine W.widen (k := 99) (n := 604) (Nat.le_of_ble_eq_true rfl) (Nat.le_of_ble_eq_true rfl) ?_
  refine va_astq hx hb hK hP hD hS 1 4 2 1 rfl rfl rfl rfl (vp_in_iff.mpr (by decide)) dX6_init_131 (fun H locs hP hD hS => ?_)
  obtain ⟨f_45, ef_45⟩ : ∃ g : Nat → Option Nat, g = va_up f_42 (11 : Int32).toNatClampNeg (some q_43) := ⟨_, rfl⟩
  have hP : va_P G vwCl [(h0, .inr (6, [.ref h1, .ref h2, .ref h3, .ref h4, .int 0, .ref q_1, .ref q_2, .ref q_4, .ref q_6, .ref q_8, .int 0, .int 0, .ref q_9, .int 0, .int 0])), (q_1, .inl (cy 4, 15, .inr (.inr (.inr (.inr f_45))))), (q_43, .inr (1, [.ref (u_44 0), .ref (u_44 1), .ref (u_44 2)])), ((u_44 0), .inl (cy 0, 6, .inl (fun _ => 0))), ((u_44 1), .inl (cy 0, 6, .inl (fun _ => (-1)))), ((u_44 2), .inl (cy 0, 6, .inl (fun _ => (-1))))] H := ef_45 ▸ hP
  have hD : va_D A [(h0, .inr (6, [.ref h1, .ref h2, .ref h3, .ref h4, .int 0, .ref q_1, .ref q_2, .ref q_4, .ref q_6, .ref q_8, .int 0, .int 0, .ref q_9, .int 0, .int 0])), (q_1, .inl (cy 4, 15, .inr (.inr (.inr (.inr f_45))))), (q_43, .inr (1, [.ref (u_44 0), .ref (u_44 1), .ref (u_44 2)])), ((u_44 0), .inl (cy 0, 6, .inl (fun _ => 0))), ((u_44 1), .inl (cy 0, 6, .inl (fun _ => (-1)))), ((u_44 2), .inl (cy 0, 6, .inl (fun _ => (-1))))] := ef_45 ▸ hD
  have hP : va_P G vwCl [(h0, .inr (6, [.ref h1, .ref h2, .ref h3, .ref h4, .int 0, .ref q_1, .ref q_2, .ref q_4, .ref q_6, .ref q_8, .int 0, .int 0, .ref q_9, .int 0, .int 0])), (q_1, .inl (cy 4, 15, .inr (.inr (.inr (.inr f_45)))))] H := hP.sub [0, 1] rfl
  have hD : va_D A [(h0, .inr (6, [.ref h1, .ref h2, .ref h3, .ref h4, .int 0, .ref q_1, .ref q_2, .ref q_4, .ref q_6, .ref q_8, .int 0, .int 0, .ref q_9, .int 0, .int 0])), (q_1, .inl (cy 4, 15, .inr (.inr (.inr (.inr f_45)))))] := hD.sub [0, 1] (by decide) rfl
  refine lv_iinc (v := (12)) (lv' := [(5, .int 12), (0, .ref h0), (1, .ref h1), (2, .ref h2), (3, .ref h3), (4, .ref h4)]) hx hb dX6_init_132 hl (k := 0) rfl (by decide) (by decide) rfl (fun ls hl => ?_)
  refine lv_goto (tgt := 111) hx hb dX6_init_135 (by decide) ?_
  refine lv_iload hx hb dX6_init_111 (lv_at hl 0 rfl) ?_
  refine lv_bipush (v := 14) hx hb dX6_init_113 (by decide) ?_
  refine lv_icmp_gt (tgt := 138) hx hb dX6_init_115 (by decide) (fun h9 => absurd h9 (by decide)) (fun _ => ?_)
  refine lv_aload_n hx hb dX6_init_118 rfl (lv_at hl 1 rfl) ?_
  refine va_get (ci := 6) (v := .ref q_1) (C := RX6) (T := TX6) (N := 15) hx hb hts inX6 hown hK hP 0 rfl rfl 5 (by decide) (hts _ gm_248) (fun _ h9 => h9) rfl dX6_init_119 ?_
  refine lv_iload hx hb dX6_init_122 (lv_at hl 0 rfl) ?_
  refine va_new (ci := 1) (fs := [.null, .null, .null]) (C := RX1) (T := TX1) (N := 3) hx hb hts inX1 tyX1 tyX1_ok hown (hts _ gm_239) (hts _ gm_114) (hts _ gm_7) hK hP hD hS hA rfl dfX1 (Nat.le_of_ble_eq_true rfl) (Nat.le_of_ble_eq_true rfl) dX6_init_124 (fun q_46 H hP hD hS => ?_)
  have hP : va_P G vwCl [(h0, .inr (6, [.ref h1, .ref h2, .ref h3, .ref h4, .int 0, .ref q_1, .ref q_2, .ref q_4, .ref q_6, .ref q_8, .int 0, .int 0, .ref q_9, .int 0, .int 0])), (q_1, .inl (cy 4, 15, .inr (.inr (.inr (.inr f_45))))), (q_46, .inr (1, [.null, .null, .null]))] H := hP
  have hD : va_D A [(h0, .inr (6, [.ref h1, .ref h2, .ref h3, .ref h4, .int 0, .ref q_1, .ref q_2, .ref q_4, .ref q_6, .ref q_8, .int 0, .int 0, .ref q_9, .int 0, .int 0])), (q_1, .inl (cy 4, 15, .inr (.inr (.inr (.inr f_45))))), (q_46, .inr (1, [.null, .null, .null]))] := hD
  refine W.widen (k := 100) (n := 607) (Nat.le_of_ble_eq_true rfl) (Nat.le_of_ble_eq_true rfl) ?_
  refine lv_dup hx hb dX6_init_127 rfl ?_
  refine gz_aftv (va_runI (As := []) (rest := [.ref q_46, .int 12, .ref q_1]) ⟨hx, hb, hml, hown, hts⟩ (c_X1_init l G cy H.size q_46 ) ⟨(gz_cb (n := 0) hts gm_242 gm_7 gm_117 ⟨by decide +kernel, by decide +kernel, by decide +kernel⟩ ⟨Nat.le_of_ble_eq_true rfl, Nat.le_of_ble_eq_true rfl⟩), rfl, hts _ gm_116⟩ (gz_preS hK hov hP hD [2] (by decide) rfl) rfl rfl hl.1 rfl (lv_room (Nat.le_of_ble_eq_true rfl)) dX6_init_128 ⟨Nat.le_of_ble_eq_true rfl, Nat.le_of_ble_eq_true rfl⟩) hP hD hS hA [2] [0, 1] rfl rfl (by decide) (by decide) (fun u_47 H locs hw_47 hP hD hS => ?_)
  have hP : va_P G vwCl [(h0, .inr (6, [.ref h1, .ref h2, .ref h3, .ref h4, .int 0, .ref q_1, .ref q_2, .ref q_4, .ref q_6, .ref q_8, .int 0, .int 0, .ref q_9, .int 0, .int 0])), (q_1, .inl (cy 4, 15, .inr (.inr (.inr (.inr f_45))))), (q_46, .inr (1, [.ref (u_47 0), .ref (u_47 1), .ref (u_47 2)])), ((u_47 0), .inl (cy 0, 6, .inl (fun _ => 0))), ((u_47 1), .inl (cy 0, 6, .inl (fun _ => (-1)))), ((u_47 2), .inl (cy 0, 6, .inl (fun _ => (-1))))] H := hP
  have hD : va_D A [(h0, .inr (6, [.ref h1, .ref h2, .ref h3, .ref h4, .int 0, .ref q_1, .ref q_2, .ref q_4, .ref q_6, .ref q_8, .int 0, .int 0, .ref q_9, .int 0, .int 0])), (q_1, .inl (cy 4, 15, .inr (.inr (.inr (.inr f_45))))), (q_46, .inr (1, [.ref (u_47 0), .ref (u_47 1), .ref (u_47 2)])), ((u_47 0), .inl (cy 0, 6, .inl (fun _ => 0))), ((u_47 1), .inl (cy 0, 6, .inl (fun _ => (-1)))), ((u_47 2), .inl (cy 0, 6, .inl (fun _ => (-1))))] := hD
  refine W.widen (k := 103) (n := 625) (Nat.le_of_ble_eq_true rfl) (Nat.le_of_ble_eq_true rfl) ?_
  refine va_astq hx hb hK hP hD hS 1 4 2 1 rfl rfl rfl rfl (vp_in_iff.mpr (by decide)) dX6_init_131 (fun H locs hP hD hS => ?_)
  obtain ⟨f_48, ef_48⟩ : ∃ g : Nat → Option Nat, g = va_up f_45 (12 : Int32).toNatClampNeg (some q_46) := ⟨_, rfl⟩
  have hP : va_P G vwCl [(h0, .inr (6, [.ref h1, .ref h2, .ref h3, .ref h4, .int 0, .ref q_1, .ref q_2, .ref q_4, .ref q_6, .ref q_8, .int 0, .int 0, .ref q_9, .int 0, .int 0])), (q_1, .inl (cy 4, 15, .inr (.inr (.inr (.inr f_48))))), (q_46, .inr (1, [.ref (u_47 0), .ref (u_47 1), .ref (u_47 2)])), ((u_47 0), .inl (cy 0, 6, .inl (fun _ => 0))), ((u_47 1), .inl (cy 0, 6, .inl (fun _ => (-1)))), ((u_47 2), .inl (cy 0, 6, .inl (fun _ => (-1))))] H := ef_48 ▸ hP
  have hD : va_D A [(h0, .inr (6, [.ref h1, .ref h2, .ref h3, .ref h4, .int 0, .ref q_1, .ref q_2, .ref q_4, .ref q_6, .ref q_8, .int 0, .int 0, .ref q_9, .int 0, .int 0])), (q_1, .inl (cy 4, 15, .inr (.inr (.inr (.inr f_48))))), (q_46, .inr (1, [.ref (u_47 0), .ref (u_47 1), .ref (u_47 2)])), ((u_47 0), .inl (cy 0, 6, .inl (fun _ => 0))), ((u_47 1), .inl (cy 0, 6, .inl (fun _ => (-1)))), ((u_47 2), .inl (cy 0, 6, .inl (fun _ => (-1))))] := ef_48 ▸ hD
  have hP : va_P G vwCl [(h0, .inr (6, [.ref h1, .ref h2, .ref h3, .ref h4, .int 0, .ref q_1, .ref q_2, .ref q_4, .ref q_6, .ref q_8, .int 0, .int 0, .ref q_9, .int 0, .int 0])), (q_1, .inl (cy 4, 15, .inr (.inr (.inr (.inr f_48)))))] H := hP.sub [0, 1] rfl
  have hD : va_D A [(h0, .inr (6, [.ref h1, .ref h2, .ref h3, .ref h4, .int 0, .ref q_1, .ref q_2, .ref q_4, .ref q_6, .ref q_8, .int 0, .int 0, .ref q_9, .int 0, .int 0])), (q_1, .inl (cy 4, 15, .inr (.inr (.inr (.inr f_48)))))] := hD.sub [0, 1] (by decide) rfl
  refine lv_iinc (v := (13)) (lv' := [(5, .int 13), (0, .ref h0), (1, .ref h1), (2, .ref h2), (3, .ref h3), (4, .ref h4)]) hx hb dX6_init_132 hl (k := 0) rfl (by decide) (by decide) rfl (fun ls hl => ?_)
  refine lv_goto (tgt := 111) hx hb dX6_init_135 (by decide) ?_
  refine lv_iload hx hb dX6_init_111 (lv_at hl 0 rfl) ?_
  refine lv_bipush (v := 14) hx hb dX6_init_113 (by decide) ?_
  refine lv_icmp_gt (tgt := 138) hx hb dX6_init_115 (by decide) (fun h9 => absurd h9 (by decide)) (fun _ => ?_)
  refine lv_aload_n hx hb dX6_init_118 rfl (lv_at hl 1 rfl) ?_
  refine va_get (ci := 6) (v := .ref q_1) (C := RX6) (T := TX6) (N := 15) hx hb hts inX6 hown hK hP 0 rfl rfl 5 (by decide) (hts _ gm_248) (fun _ h9 => h9) rfl dX6_init_119 ?_
  refine lv_iload hx hb dX6_init_122 (lv_at hl 0 rfl) ?_
  refine va_new (ci := 1) (fs := [.null, .null, .null]) (C := RX1) (T := TX1) (N := 3) hx hb hts inX1 tyX1 tyX1_ok hown (hts _ gm_239) (hts _ gm_114) (hts _ gm_7) hK hP hD hS hA rfl dfX1 (Nat.le_of_ble_eq_true rfl) (Nat.le_of_ble_eq_true rfl) dX6_init_124 (fun q_49 H hP hD hS => ?_)
  have hP : va_P G vwCl [(h0, .inr (6, [.ref h1, .ref h2, .ref h3, .ref h4, .int 0, .ref q_1, .ref q_2, .ref q_4, .ref q_6, .ref q_8, .int 0, .int 0, .ref q_9, .int 0, .int 0])), (q_1, .inl (cy 4, 15, .inr (.inr (.inr (.inr f_48))))), (q_49, .inr (1, [.null, .null, .null]))] H := hP
  have hD : va_D A [(h0, .inr (6, [.ref h1, .ref h2, .ref h3, .ref h4, .int 0, .ref q_1, .ref q_2, .ref q_4, .ref q_6, .ref q_8, .int 0, .int 0, .ref q_9, .int 0, .int 0])), (q_1, .inl (cy 4, 15, .inr (.inr (.inr (.inr f_48))))), (q_49, .inr (1, [.null, .null, .null]))] := hD
  refine W.widen (k := 104) (n := 628) (Nat.le_of_ble_eq_true rfl) (Nat.le_of_ble_eq_true rfl) ?_
  refine lv_dup hx hb dX6_init_127 rfl ?_
  refine gz_aftv (va_runI (As := []) (rest := [.ref q_49, .int 13, .ref q_1]) ⟨hx, hb, hml, hown, hts⟩ (c_X1_init l G cy H.size q_49 ) ⟨(gz_cb (n := 0) hts gm_242 gm_7 gm_117 ⟨by decide +kernel, by decide +kernel, by decide +kernel⟩ ⟨Nat.le_of_ble_eq_true rfl, Nat.le_of_ble_eq_true rfl⟩), rfl, hts _ gm_116⟩ (gz_preS hK hov hP hD [2] (by decide) rfl) rfl rfl hl.1 rfl (lv_room (Nat.le_of_ble_eq_true rfl)) dX6_init_128 ⟨Nat.le_of_ble_eq_true rfl, Nat.le_of_ble_eq_true rfl⟩) hP hD hS hA [2] [0, 1] rfl rfl (by decide) (by decide) (fun u_50 H locs hw_50 hP hD hS => ?_)
  have hP : va_P G vwCl [(h0, .inr (6, [.ref h1, .ref h2, .ref h3, .ref h4, .int 0, .ref q_1, .ref q_2, .ref q_4, .ref q_6, .ref q_8, .int 0, .int 0, .ref q_9, .int 0, .int 0])), (q_1, .inl (cy 4, 15, .inr (.inr (.inr (.inr f_48))))), (q_49, .inr (1, [.ref (u_50 0), .ref (u_50 1), .ref (u_50 2)])), ((u_50 0), .inl (cy 0, 6, .inl (fun _ => 0))), ((u_50 1), .inl (cy 0, 6, .inl (fun _ => (-1)))), ((u_50 2), .inl (cy 0, 6, .inl (fun _ => (-1))))] H := hP
  have hD : va_D A [(h0, .inr (6, [.ref h1, .ref h2, .ref h3, .ref h4, .int 0, .ref q_1, .ref q_2, .ref q_4, .ref q_6, .ref q_8, .int 0, .int 0, .ref q_9, .int 0, .int 0])), (q_1, .inl (cy 4, 15, .inr (.inr (.inr (.inr f_48))))), (q_49, .inr (1, [.ref (u_50 0), .ref (u_50 1), .ref (u_50 2)])), ((u_50 0), .inl (cy 0, 6, .inl (fun _ => 0))), ((u_50 1), .inl (cy 0, 6, .inl (fun _ => (-1)))), ((u_50 2), .inl (cy 0, 6, .inl (fun _ => (-1))))] := hD
  refine W.widen (k := 107) (n := 646) (Nat.le_of_ble_eq_true rfl) (Nat.le_of_ble_eq_true rfl) ?_
  refine va_astq hx hb hK hP hD hS 1 4 2 1 rfl rfl rfl rfl (vp_in_iff.mpr (by decide)) dX6_init_131 (fun H locs hP hD hS => ?_)
  obtain ⟨f_51, ef_51⟩ : ∃ g : Nat → Option Nat, g = va_up f_48 (13 : Int32).toNatClampNeg (some q_49) := ⟨_, rfl⟩
  have hP : va_P G vwCl [(h0, .inr (6, [.ref h1, .ref h2, .ref h3, .ref h4, .int 0, .ref q_1, .ref q_2, .ref q_4, .ref q_6, .ref q_8, .int 0, .int 0, .ref q_9, .int 0, .int 0])), (q_1, .inl (cy 4, 15, .inr (.inr (.inr (.inr f_51))))), (q_49, .inr (1, [.ref (u_50 0), .ref (u_50 1), .ref (u_50 2)])), ((u_50 0), .inl (cy 0, 6, .inl (fun _ => 0))), ((u_50 1), .inl (cy 0, 6, .inl (fun _ => (-1)))), ((u_50 2), .inl (cy 0, 6, .inl (fun _ => (-1))))] H := ef_51 ▸ hP
  have hD : va_D A [(h0, .inr (6, [.ref h1, .ref h2, .ref h3, .ref h4, .int 0, .ref q_1, .ref q_2, .ref q_4, .ref q_6, .ref q_8, .int 0, .int 0, .ref q_9, .int 0, .int 0])), (q_1, .inl (cy 4, 15, .inr (.inr (.inr (.inr f_51))))), (q_49, .inr (1, [.ref (u_50 0), .ref (u_50 1), .ref (u_50 2)])), ((u_50 0), .inl (cy 0, 6, .inl (fun _ => 0))), ((u_50 1), .inl (cy 0, 6, .inl (fun _ => (-1)))), ((u_50 2), .inl (cy 0, 6, .inl (fun _ => (-1))))] := ef_51 ▸ hD
  have hP : va_P G vwCl [(h0, .inr (6, [.ref h1, .ref h2, .ref h3, .ref h4, .int 0, .ref q_1, .ref q_2, .ref q_4, .ref q_6, .ref q_8, .int 0, .int 0, .ref q_9, .int 0, .int 0])), (q_1, .inl (cy 4, 15, .inr (.inr (.inr (.inr f_51)))))] H := hP.sub [0, 1] rfl
  have hD : va_D A [(h0, .inr (6, [.ref h1, .ref h2, .ref h3, .ref h4, .int 0, .ref q_1, .ref q_2, .ref q_4, .ref q_6, .ref q_8, .int 0, .int 0, .ref q_9, .int 0, .int 0])), (q_1, .inl (cy 4, 15, .inr (.inr (.inr (.inr f_51)))))] := hD.sub [0, 1] (by decide) rfl
  refine lv_iinc (v := (14)) (lv' := [(5, .int 14), (0, .ref h0), (1, .ref h1), (2, .ref h2), (3, .ref h3), (4, .ref h4)]) hx hb dX6_init_132 hl (k := 0) rfl (by decide) (by decide) rfl (fun ls hl => ?_)
  refine lv_goto (tgt := 111) hx hb dX6_init_135 (by decide) ?_
  refine lv_iload hx hb dX6_init_111 (lv_at hl 0 rfl) ?_
  refine lv_bipush (v := 14) hx hb dX6_init_113 (by decide) ?_
  refine lv_icmp_gt (tgt := 138) hx hb dX6_init_115 (by decide) (fun h9 => absurd h9 (by decide)) (fun _ => ?_)
  refine lv_aload_n hx hb dX6_init_118 rfl (lv_at hl 1 rfl) ?_
  refine va_get (ci := 6) (v := .ref q_1) (C := RX6) (T := TX6) (N := 15) hx hb hts inX6 hown hK hP 0 rfl rfl 5 (by decide) (hts _ gm_248) (fun _ h9 => h9) rfl dX6_init_119 ?_
  refine lv_iload hx hb dX6_init_122 (lv_at hl 0 rfl) ?_
  refine va_new (ci := 1) (fs := [.null, .null, .null]) (C := RX1) (T := TX1) (N := 3) hx hb hts inX1 tyX1 tyX1_ok hown (hts _ gm_239) (hts _ gm_114) (hts _ gm_7) hK hP hD hS hA rfl dfX1 (Nat.le_of_ble_eq_true rfl) (Nat.le_of_ble_eq_true rfl) dX6_init_124 (fun q_52 H hP hD hS => ?_)
  have hP : va_P G vwCl [(h0, .inr (6, [.ref h1, .ref h2, .ref h3, .ref h4, .int 0, .ref q_1, .ref q_2, .ref q_4, .ref q_6, .ref q_8, .int 0, .int 0, .ref q_9, .int 0, .int 0])), (q_1, .inl (cy 4, 15, .inr (.inr (.inr (.inr f_51))))), (q_52, .inr (1, [.null, .null, .null]))] H := hP
  have hD : va_D A [(h0, .inr (6, [.ref h1, .ref h2, .ref h3, .ref h4, .int 0, .ref q_1, .ref q_2, .ref q_4, .ref q_6, .ref q_8, .int 0, .int 0, .ref q_9, .int 0, .int 0])), (q_1, .inl (cy 4, 15, .inr (.inr (.inr (.inr f_51))))), (q_52, .inr (1, [.null, .null, .null]))] := hD
  refine W.widen (k := 108) (n := 649) (Nat.le_of_ble_eq_true rfl) (Nat.le_of_ble_eq_true rfl) ?_
  refine lv_dup hx hb dX6_init_127 rfl ?_
  refine gz_aftv (va_runI (As := []) (rest := [.ref q_52, .int 14, .ref q_1]) ⟨hx, hb, hml, hown, hts⟩ (c_X1_init l G cy H.size q_52 ) ⟨(gz_cb (n := 0) hts gm_242 gm_7 gm_117 ⟨by decide +kernel, by decide +kernel, by decide +kernel⟩ ⟨Nat.le_of_ble_eq_true rfl, Nat.le_of_ble_eq_true rfl⟩), rfl, hts _ gm_116⟩ (gz_preS hK hov hP hD [2] (by decide) rfl) rfl rfl hl.1 rfl (lv_room (Nat.le_of_ble_eq_true rfl)) dX6_init_128 ⟨Nat.le_of_ble_eq_true rfl, Nat.le_of_ble_eq_true rfl⟩) hP hD hS hA [2] [0, 1] rfl rfl (by decide) (by decide) (fun u_53 H locs hw_53 hP hD hS => ?_)
  have hP : va_P G vwCl [(h0, .inr (6, [.ref h1, .ref h2, .ref h3, .ref h4, .int 0, .ref q_1, .ref q_2, .ref q_4, .ref q_6, .ref q_8, .int 0, .int 0, .ref q_9, .int 0, .int 0])), (q_1, .inl (cy 4, 15, .inr (.inr (.inr (.inr f_51))))), (q_52, .inr (1, [.ref (u_53 0), .ref (u_53 1), .ref (u_53 2)])), ((u_53 0), .inl (cy 0, 6, .inl (fun _ => 0))), ((u_53 1), .inl (cy 0, 6, .inl (fun _ => (-1)))), ((u_53 2), .inl (cy 0, 6, .inl (fun _ => (-1))))] H := hP
  have hD : va_D A [(h0, .inr (6, [.ref h1, .ref h2, .ref h3, .ref h4, .int 0, .ref q_1, .ref q_2, .ref q_4, .ref q_6, .ref q_8, .int 0, .int 0, .ref q_9, .int 0, .int 0])), (q_1, .inl (cy 4, 15, .inr (.inr (.inr (.inr f_51))))), (q_52, .inr (1, [.ref (u_53 0), .ref (u_53 1), .ref (u_53 2)])), ((u_53 0), .inl (cy 0, 6, .inl (fun _ => 0))), ((u_53 1), .inl (cy 0, 6, .inl (fun _ => (-1)))), ((u_53 2), .inl (cy 0, 6, .inl (fun _ => (-1))))] := hD
  refine W.widen (k := 111) (n := 667) (Nat.le_of_ble_eq_true rfl) (Nat.le_of_ble_eq_true rfl) ?_
  refine va_astq hx hb hK hP hD hS 1 4 2 1 rfl rfl rfl rfl (vp_in_iff.mpr (by decide)) dX6_init_131 (fun H locs hP hD hS => ?_)
  obtain ⟨f_54, ef_54⟩ : ∃ g : Nat → Option Nat, g = va_up f_51 (14 : Int32).toNatClampNeg (some q_52) := ⟨_, rfl⟩
  have hP : va_P G vwCl [(h0, .inr (6, [.ref h1, .ref h2, .ref h3, .ref h4, .int 0, .ref q_1, .ref q_2, .ref q_4, .ref q_6, .ref q_8, .int 0, .int 0, .ref q_9, .int 0, .int 0])), (q_1, .inl (cy 4, 15, .inr (.inr (.inr (.inr f_54))))), (q_52, .inr (1, [.ref (u_53 0), .ref (u_53 1), .ref (u_53 2)])), ((u_53 0), .inl (cy 0, 6, .inl (fun _ => 0))), ((u_53 1), .inl (cy 0, 6, .inl (fun _ => (-1)))), ((u_53 2), .inl (cy 0, 6, .inl (fun _ => (-1))))] H := ef_54 ▸ hP
  have hD : va_D A [(h0, .inr (6, [.ref h1, .ref h2, .ref h3, .ref h4, .int 0, .ref q_1, .ref q_2, .ref q_4, .ref q_6, .ref q_8, .int 0, .int 0, .ref q_9, .int 0, .int 0])), (q_1, .inl (cy 4, 15, .inr (.inr (.inr (.inr f_54))))), (q_52, .inr (1, [.ref (u_53 0), .ref (u_53 1), .ref (u_53 2)])), ((u_53 0), .inl (cy 0, 6, .inl (fun _ => 0))), ((u_53 1), .inl (cy 0, 6, .inl (fun _ => (-1)))), ((u_53 2), .inl (cy 0, 6, .inl (fun _ => (-1))))] := ef_54 ▸ hD
  have hP : va_P G vwCl [(h0, .inr (6, [.ref h1, .ref h2, .ref h3, .ref h4, .int 0, .ref q_1, .ref q_2, .ref q_4, .ref q_6, .ref q_8, .int 0, .int 0, .ref q_9, .int 0, .int 0])), (q_1, .inl (cy 4, 15, .inr (.inr (.inr (.inr f_54)))))] H := hP.sub [0, 1] rfl
  have hD : va_D A [(h0, .inr (6, [.ref h1, .ref h2, .ref h3, .ref h4, .int 0, .ref q_1, .ref q_2, .ref q_4, .ref q_6, .ref q_8, .int 0, .int 0, .ref q_9, .int 0, .int 0])), (q_1, .inl (cy 4, 15, .inr (.inr (.inr (.inr f_54)))))] := hD.sub [0, 1] (by decide) rfl
  refine lv_iinc (v := (15)) (lv' := [(5, .int 15), (0, .ref h0), (1, .ref h1), (2, .ref h2), (3, .ref h3), (4, .ref h4)]) hx hb dX6_init_132 hl (k := 0) rfl (by decide) (by decide) rfl (fun ls hl => ?_)
  refine lv_goto (tgt := 111) hx hb dX6_init_135 (by decide) ?_
  refine lv_iload hx hb dX6_init_111 (lv_at hl 0 rfl) ?_
  refine lv_bipush (v := 14) hx hb dX6_init_113 (by decide) ?_
  refine lv_icmp_gt (tgt := 138) hx hb dX6_init_115 (by decide) (fun _ => ?_) (fun h9 => absurd (by decide) h9)
  exact gz_vret (cf := (fun (u : (Nat → Nat)) => [(h0, .inr (6, [.ref h1, .ref h2, .ref h3, .ref h4, .int 0, .ref (u 0), .ref (u 1), .ref (u 2), .ref (u 3), .ref (u 4), .int 0, .int 0, .ref (u 5), .int 0, .int 0]))])) (post := (fun (u : (Nat → Nat)) => True)) hx hb hr hlocks hK hP hD hS (fun k => match k with | 0 => q_1 | 1 => q_2 | 2 => q_4 | 3 => q_6 | 4 => q_8 | 5 => q_9 | _ => 0) [0] trivial (by decide) rfl (Nat.le_of_ble_eq_true rfl) (Nat.le_of_ble_eq_true rfl) dX6_init_138
