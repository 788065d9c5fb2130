theorem gm_6 : (Jvm.Cond.initialized "java/util/Arrays") ∈ gz_T := gz_at 6 (by decide +kernel) rfl
theorem gm_107 : (Jvm.Cond.static ({ cls := "java/util/Arrays", name := "fill", desc := "([II)V" } : Jvm.MethodName)) ∈ gz_T := gz_at 107 (by decide +kernel) rfl
theorem gm_108 : (Jvm.Cond.code ({ cls := "java/util/Arrays", name := "fill", desc := "([II)V" } : Jvm.MethodName) prog_22_method_103_code (4 : Nat) (Option.none : Option Jvm.ClassFile.FieldType)) ∈ gz_T := gz_at 108 (by decide +kernel) rfl
theorem gm_188 : (Jvm.Cond.fieldLink "WellCourt$Law" (9 : Nat) "WellCourt$Law" "rules" "I") ∈ gz_T := gz_at 188 (by decide +kernel) rfl
theorem gm_191 : (Jvm.Cond.fieldLink "WellCourt$Law" (17 : Nat) "WellCourt$Law" "round" "[[I") ∈ gz_T := gz_at 191 (by decide +kernel) rfl
theorem gm_192 : (Jvm.Cond.fieldLink "WellCourt$Law" (20 : Nat) "WellCourt$Law" "roundDays" "[I") ∈ gz_T := gz_at 192 (by decide +kernel) rfl
theorem gm_193 : (Jvm.Cond.fieldLink "WellCourt$Law" (24 : Nat) "WellCourt$Law" "kin" "[I") ∈ gz_T := gz_at 193 (by decide +kernel) rfl
theorem gm_194 : (Jvm.Cond.fieldLink "WellCourt$Law" (27 : Nat) "WellCourt$Law" "dryFrom" "[I") ∈ gz_T := gz_at 194 (by decide +kernel) rfl
theorem gm_195 : (Jvm.Cond.fieldLink "WellCourt$Law" (30 : Nat) "WellCourt$Law" "droughts" "I") ∈ gz_T := gz_at 195 (by decide +kernel) rfl
theorem gm_196 : (Jvm.Cond.fieldLink "WellCourt$Law" (33 : Nat) "WellCourt$Law" "droughtWell" "[I") ∈ gz_T := gz_at 196 (by decide +kernel) rfl
theorem gm_197 : (Jvm.Cond.fieldLink "WellCourt$Law" (36 : Nat) "WellCourt$Law" "droughtBelow" "[I") ∈ gz_T := gz_at 197 (by decide +kernel) rfl
theorem gm_198 : (Jvm.Cond.fieldLink "WellCourt$Law" (39 : Nat) "WellCourt$Law" "droughtClan" "[I") ∈ gz_T := gz_at 198 (by decide +kernel) rfl
theorem gm_199 : (Jvm.Cond.fieldLink "WellCourt$Law" (42 : Nat) "WellCourt$Law" "guests" "I") ∈ gz_T := gz_at 199 (by decide +kernel) rfl
theorem gm_200 : (Jvm.Cond.fieldLink "WellCourt$Law" (45 : Nat) "WellCourt$Law" "guestClan" "[I") ∈ gz_T := gz_at 200 (by decide +kernel) rfl
theorem gm_201 : (Jvm.Cond.fieldLink "WellCourt$Law" (48 : Nat) "WellCourt$Law" "guestWell" "[I") ∈ gz_T := gz_at 201 (by decide +kernel) rfl
theorem gm_202 : (Jvm.Cond.fieldLink "WellCourt$Law" (51 : Nat) "WellCourt$Law" "guestHost" "[I") ∈ gz_T := gz_at 202 (by decide +kernel) rfl
theorem gm_203 : (Jvm.Cond.fieldLink "WellCourt$Law" (54 : Nat) "WellCourt$Law" "guestMany" "[I") ∈ gz_T := gz_at 203 (by decide +kernel) rfl
theorem gm_362 : (Jvm.Cond.methodLink "WellCourt$Law" (57 : Nat) ({ cls := "java/util/Arrays", name := "fill", desc := "([II)V" } : Jvm.MethodName)) ∈ gz_T := gz_at 362 (by decide +kernel) rfl
theorem inX4 : ∀ w ∈ u_ws RX4 TX4 14, w ∈ gz_T := gz_inX [204, 206, 208, 210, 212, 214, 216, 218, 220, 222, 224, 226, 228, 230] (by decide +kernel) (by decide +kernel)
theorem dX4_addDrought_0 : decode cX4_addDrought 0 = .ok (.aload_n 0, 1) := by decide +kernel
theorem dX4_addDrought_1 : decode cX4_addDrought 1 = .ok (.getfield 30, 3) := by decide +kernel
theorem dX4_addDrought_4 : decode cX4_addDrought 4 = .ok (.bipush 20, 2) := by decide +kernel
theorem dX4_addDrought_6 : decode cX4_addDrought 6 = .ok (.if_icmp .ge 43, 3) := by decide +kernel
theorem dX4_addDrought_9 : decode cX4_addDrought 9 = .ok (.aload_n 0, 1) := by decide +kernel
theorem dX4_addDrought_10 : decode cX4_addDrought 10 = .ok (.getfield 33, 3) := by decide +kernel
theorem dX4_addDrought_13 : decode cX4_addDrought 13 = .ok (.aload_n 0, 1) := by decide +kernel
theorem dX4_addDrought_14 : decode cX4_addDrought 14 = .ok (.getfield 30, 3) := by decide +kernel
theorem dX4_addDrought_17 : decode cX4_addDrought 17 = .ok (.iload_n 1, 1) := by decide +kernel
theorem dX4_addDrought_18 : decode cX4_addDrought 18 = .ok (.iastore, 1) := by decide +kernel
theorem dX4_addDrought_19 : decode cX4_addDrought 19 = .ok (.aload_n 0, 1) := by decide +kernel
theorem dX4_addDrought_20 : decode cX4_addDrought 20 = .ok (.getfield 36, 3) := by decide +kernel
theorem dX4_addDrought_23 : decode cX4_addDrought 23 = .ok (.aload_n 0, 1) := by decide +kernel
theorem dX4_addDrought_24 : decode cX4_addDrought 24 = .ok (.getfield 30, 3) := by decide +kernel
theorem dX4_addDrought_27 : decode cX4_addDrought 27 = .ok (.iload_n 2, 1) := by decide +kernel
theorem dX4_addDrought_28 : decode cX4_addDrought 28 = .ok (.iastore, 1) := by decide +kernel
theorem dX4_addDrought_29 : decode cX4_addDrought 29 = .ok (.aload_n 0, 1) := by decide +kernel
theorem dX4_addDrought_30 : decode cX4_addDrought 30 = .ok (.getfield 39, 3) := by decide +kernel
theorem dX4_addDrought_33 : decode cX4_addDrought 33 = .ok (.aload_n 0, 1) := by decide +kernel
theorem dX4_addDrought_34 : decode cX4_addDrought 34 = .ok (.getfield 30, 3) := by decide +kernel
theorem dX4_addDrought_37 : decode cX4_addDrought 37 = .ok (.iload_n 3, 1) := by decide +kernel
theorem dX4_addDrought_38 : decode cX4_addDrought 38 = .ok (.iastore, 1) := by decide +kernel
theorem dX4_addDrought_39 : decode cX4_addDrought 39 = .ok (.aload_n 0, 1) := by decide +kernel
theorem dX4_addDrought_40 : decode cX4_addDrought 40 = .ok (.dup, 1) := by decide +kernel
theorem dX4_addDrought_41 : decode cX4_addDrought 41 = .ok (.getfield 30, 3) := by decide +kernel
theorem dX4_addDrought_44 : decode cX4_addDrought 44 = .ok (.iconst 1, 1) := by decide +kernel
theorem dX4_addDrought_45 : decode cX4_addDrought 45 = .ok (.iadd, 1) := by decide +kernel
theorem dX4_addDrought_46 : decode cX4_addDrought 46 = .ok (.putfield 30, 3) := by decide +kernel
theorem dX4_addDrought_49 : decode cX4_addDrought 49 = .ok (.return_, 1) := by decide +kernel
theorem dX4_addDry_0 : decode cX4_addDry 0 = .ok (.aload_n 0, 1) := by decide +kernel
theorem dX4_addDry_1 : decode cX4_addDry 1 = .ok (.getfield 27, 3) := by decide +kernel
theorem dX4_addDry_4 : decode cX4_addDry 4 = .ok (.iload_n 2, 1) := by decide +kernel
theorem dX4_addDry_5 : decode cX4_addDry 5 = .ok (.dup2, 1) := by decide +kernel
theorem dX4_addDry_6 : decode cX4_addDry 6 = .ok (.iaload, 1) := by decide +kernel
theorem dX4_addDry_7 : decode cX4_addDry 7 = .ok (.iconst 1, 1) := by decide +kernel
theorem dX4_addDry_8 : decode cX4_addDry 8 = .ok (.iload_n 1, 1) := by decide +kernel
theorem dX4_addDry_9 : decode cX4_addDry 9 = .ok (.ishl, 1) := by decide +kernel
theorem dX4_addDry_10 : decode cX4_addDry 10 = .ok (.ior, 1) := by decide +kernel
theorem dX4_addDry_11 : decode cX4_addDry 11 = .ok (.iastore, 1) := by decide +kernel
theorem dX4_addDry_12 : decode cX4_addDry 12 = .ok (.return_, 1) := by decide +kernel
theorem dX4_addGuest_0 : decode cX4_addGuest 0 = .ok (.aload_n 0, 1) := by decide +kernel
theorem dX4_addGuest_1 : decode cX4_addGuest 1 = .ok (.getfield 42, 3) := by decide +kernel
theorem dX4_addGuest_4 : decode cX4_addGuest 4 = .ok (.bipush 20, 2) := by decide +kernel
theorem dX4_addGuest_6 : decode cX4_addGuest 6 = .ok (.if_icmp .ge 54, 3) := by decide +kernel
theorem dX4_addGuest_9 : decode cX4_addGuest 9 = .ok (.aload_n 0, 1) := by decide +kernel
theorem dX4_addGuest_10 : decode cX4_addGuest 10 = .ok (.getfield 45, 3) := by decide +kernel
theorem dX4_addGuest_13 : decode cX4_addGuest 13 = .ok (.aload_n 0, 1) := by decide +kernel
theorem dX4_addGuest_14 : decode cX4_addGuest 14 = .ok (.getfield 42, 3) := by decide +kernel
theorem dX4_addGuest_17 : decode cX4_addGuest 17 = .ok (.iload_n 1, 1) := by decide +kernel
theorem dX4_addGuest_18 : decode cX4_addGuest 18 = .ok (.iastore, 1) := by decide +kernel
theorem dX4_addGuest_19 : decode cX4_addGuest 19 = .ok (.aload_n 0, 1) := by decide +kernel
theorem dX4_addGuest_20 : decode cX4_addGuest 20 = .ok (.getfield 48, 3) := by decide +kernel
theorem dX4_addGuest_23 : decode cX4_addGuest 23 = .ok (.aload_n 0, 1) := by decide +kernel
theorem dX4_addGuest_24 : decode cX4_addGuest 24 = .ok (.getfield 42, 3) := by decide +kernel
theorem dX4_addGuest_27 : decode cX4_addGuest 27 = .ok (.iload_n 2, 1) := by decide +kernel
theorem dX4_addGuest_28 : decode cX4_addGuest 28 = .ok (.iastore, 1) := by decide +kernel
theorem dX4_addGuest_29 : decode cX4_addGuest 29 = .ok (.aload_n 0, 1) := by decide +kernel
theorem dX4_addGuest_30 : decode cX4_addGuest 30 = .ok (.getfield 51, 3) := by decide +kernel
theorem dX4_addGuest_33 : decode cX4_addGuest 33 = .ok (.aload_n 0, 1) := by decide +kernel
theorem dX4_addGuest_34 : decode cX4_addGuest 34 = .ok (.getfield 42, 3) := by decide +kernel
theorem dX4_addGuest_37 : decode cX4_addGuest 37 = .ok (.iload_n 3, 1) := by decide +kernel
theorem dX4_addGuest_38 : decode cX4_addGuest 38 = .ok (.iastore, 1) := by decide +kernel
theorem dX4_addGuest_39 : decode cX4_addGuest 39 = .ok (.aload_n 0, 1) := by decide +kernel
theorem dX4_addGuest_40 : decode cX4_addGuest 40 = .ok (.getfield 54, 3) := by decide +kernel
theorem dX4_addGuest_43 : decode cX4_addGuest 43 = .ok (.aload_n 0, 1) := by decide +kernel
theorem dX4_addGuest_44 : decode cX4_addGuest 44 = .ok (.getfield 42, 3) := by decide +kernel
theorem dX4_addGuest_47 : decode cX4_addGuest 47 = .ok (.iload 4, 2) := by decide +kernel
theorem dX4_addGuest_49 : decode cX4_addGuest 49 = .ok (.iastore, 1) := by decide +kernel
theorem dX4_addGuest_50 : decode cX4_addGuest 50 = .ok (.aload_n 0, 1) := by decide +kernel
theorem dX4_addGuest_51 : decode cX4_addGuest 51 = .ok (.dup, 1) := by decide +kernel
theorem dX4_addGuest_52 : decode cX4_addGuest 52 = .ok (.getfield 42, 3) := by decide +kernel
theorem dX4_addGuest_55 : decode cX4_addGuest 55 = .ok (.iconst 1, 1) := by decide +kernel
theorem dX4_addGuest_56 : decode cX4_addGuest 56 = .ok (.iadd, 1) := by decide +kernel
theorem dX4_addGuest_57 : decode cX4_addGuest 57 = .ok (.putfield 42, 3) := by decide +kernel
theorem dX4_addGuest_60 : decode cX4_addGuest 60 = .ok (.return_, 1) := by decide +kernel
theorem dX4_addTurn_0 : decode cX4_addTurn 0 = .ok (.iconst 0, 1) := by decide +kernel
theorem dX4_addTurn_1 : decode cX4_addTurn 1 = .ok (.istore 4, 2) := by decide +kernel
theorem dX4_addTurn_3 : decode cX4_addTurn 3 = .ok (.iload 4, 2) := by decide +kernel
theorem dX4_addTurn_5 : decode cX4_addTurn 5 = .ok (.iload_n 3, 1) := by decide +kernel
theorem dX4_addTurn_6 : decode cX4_addTurn 6 = .ok (.if_icmp .ge 49, 3) := by decide +kernel
theorem dX4_addTurn_9 : decode cX4_addTurn 9 = .ok (.aload_n 0, 1) := by decide +kernel
theorem dX4_addTurn_10 : decode cX4_addTurn 10 = .ok (.getfield 20, 3) := by decide +kernel
theorem dX4_addTurn_13 : decode cX4_addTurn 13 = .ok (.iload_n 1, 1) := by decide +kernel
theorem dX4_addTurn_14 : decode cX4_addTurn 14 = .ok (.iaload, 1) := by decide +kernel
theorem dX4_addTurn_15 : decode cX4_addTurn 15 = .ok (.aload_n 0, 1) := by decide +kernel
theorem dX4_addTurn_16 : decode cX4_addTurn 16 = .ok (.getfield 17, 3) := by decide +kernel
theorem dX4_addTurn_19 : decode cX4_addTurn 19 = .ok (.iload_n 1, 1) := by decide +kernel
theorem dX4_addTurn_20 : decode cX4_addTurn 20 = .ok (.aaload, 1) := by decide +kernel
theorem dX4_addTurn_21 : decode cX4_addTurn 21 = .ok (.arraylength, 1) := by decide +kernel
theorem dX4_addTurn_22 : decode cX4_addTurn 22 = .ok (.if_icmp .ge 33, 3) := by decide +kernel
theorem dX4_addTurn_25 : decode cX4_addTurn 25 = .ok (.aload_n 0, 1) := by decide +kernel
theorem dX4_addTurn_26 : decode cX4_addTurn 26 = .ok (.getfield 17, 3) := by decide +kernel
theorem dX4_addTurn_29 : decode cX4_addTurn 29 = .ok (.iload_n 1, 1) := by decide +kernel
theorem dX4_addTurn_30 : decode cX4_addTurn 30 = .ok (.aaload, 1) := by decide +kernel
theorem dX4_addTurn_31 : decode cX4_addTurn 31 = .ok (.aload_n 0, 1) := by decide +kernel
theorem dX4_addTurn_32 : decode cX4_addTurn 32 = .ok (.getfield 20, 3) := by decide +kernel
theorem dX4_addTurn_35 : decode cX4_addTurn 35 = .ok (.iload_n 1, 1) := by decide +kernel
theorem dX4_addTurn_36 : decode cX4_addTurn 36 = .ok (.iaload, 1) := by decide +kernel
theorem dX4_addTurn_37 : decode cX4_addTurn 37 = .ok (.iload_n 2, 1) := by decide +kernel
theorem dX4_addTurn_38 : decode cX4_addTurn 38 = .ok (.iastore, 1) := by decide +kernel
theorem dX4_addTurn_39 : decode cX4_addTurn 39 = .ok (.aload_n 0, 1) := by decide +kernel
theorem dX4_addTurn_40 : decode cX4_addTurn 40 = .ok (.getfield 20, 3) := by decide +kernel
theorem dX4_addTurn_43 : decode cX4_addTurn 43 = .ok (.iload_n 1, 1) := by decide +kernel
theorem dX4_addTurn_44 : decode cX4_addTurn 44 = .ok (.dup2, 1) := by decide +kernel
theorem dX4_addTurn_45 : decode cX4_addTurn 45 = .ok (.iaload, 1) := by decide +kernel
theorem dX4_addTurn_46 : decode cX4_addTurn 46 = .ok (.iconst 1, 1) := by decide +kernel
theorem dX4_addTurn_47 : decode cX4_addTurn 47 = .ok (.iadd, 1) := by decide +kernel
theorem dX4_addTurn_48 : decode cX4_addTurn 48 = .ok (.iastore, 1) := by decide +kernel
theorem dX4_addTurn_49 : decode cX4_addTurn 49 = .ok (.iinc 4 1, 3) := by decide +kernel
theorem dX4_addTurn_52 : decode cX4_addTurn 52 = .ok (.goto (-49), 3) := by decide +kernel
theorem dX4_addTurn_55 : decode cX4_addTurn 55 = .ok (.return_, 1) := by decide +kernel
theorem dX4_addWed_0 : decode cX4_addWed 0 = .ok (.aload_n 0, 1) := by decide +kernel
theorem dX4_addWed_1 : decode cX4_addWed 1 = .ok (.getfield 24, 3) := by decide +kernel
theorem dX4_addWed_4 : decode cX4_addWed 4 = .ok (.iload_n 1, 1) := by decide +kernel
theorem dX4_addWed_5 : decode cX4_addWed 5 = .ok (.dup2, 1) := by decide +kernel
theorem dX4_addWed_6 : decode cX4_addWed 6 = .ok (.iaload, 1) := by decide +kernel
theorem dX4_addWed_7 : decode cX4_addWed 7 = .ok (.iconst 1, 1) := by decide +kernel
theorem dX4_addWed_8 : decode cX4_addWed 8 = .ok (.iload_n 2, 1) := by decide +kernel
theorem dX4_addWed_9 : decode cX4_addWed 9 = .ok (.ishl, 1) := by decide +kernel
theorem dX4_addWed_10 : decode cX4_addWed 10 = .ok (.ior, 1) := by decide +kernel
theorem dX4_addWed_11 : decode cX4_addWed 11 = .ok (.iastore, 1) := by decide +kernel
theorem dX4_addWed_12 : decode cX4_addWed 12 = .ok (.aload_n 0, 1) := by decide +kernel
theorem dX4_addWed_13 : decode cX4_addWed 13 = .ok (.getfield 24, 3) := by decide +kernel
theorem dX4_addWed_16 : decode cX4_addWed 16 = .ok (.iload_n 2, 1) := by decide +kernel
theorem dX4_addWed_17 : decode cX4_addWed 17 = .ok (.dup2, 1) := by decide +kernel
theorem dX4_addWed_18 : decode cX4_addWed 18 = .ok (.iaload, 1) := by decide +kernel
theorem dX4_addWed_19 : decode cX4_addWed 19 = .ok (.iconst 1, 1) := by decide +kernel
theorem dX4_addWed_20 : decode cX4_addWed 20 = .ok (.iload_n 1, 1) := by decide +kernel
theorem dX4_addWed_21 : decode cX4_addWed 21 = .ok (.ishl, 1) := by decide +kernel
theorem dX4_addWed_22 : decode cX4_addWed 22 = .ok (.ior, 1) := by decide +kernel
theorem dX4_addWed_23 : decode cX4_addWed 23 = .ok (.iastore, 1) := by decide +kernel
theorem dX4_addWed_24 : decode cX4_addWed 24 = .ok (.return_, 1) := by decide +kernel
theorem dX4_clear_0 : decode cX4_clear 0 = .ok (.aload_n 0, 1) := by decide +kernel
theorem dX4_clear_1 : decode cX4_clear 1 = .ok (.iconst 0, 1) := by decide +kernel
theorem dX4_clear_2 : decode cX4_clear 2 = .ok (.putfield 9, 3) := by decide +kernel
theorem dX4_clear_5 : decode cX4_clear 5 = .ok (.aload_n 0, 1) := by decide +kernel
theorem dX4_clear_6 : decode cX4_clear 6 = .ok (.iconst 0, 1) := by decide +kernel
theorem dX4_clear_7 : decode cX4_clear 7 = .ok (.putfield 30, 3) := by decide +kernel
theorem dX4_clear_10 : decode cX4_clear 10 = .ok (.aload_n 0, 1) := by decide +kernel
theorem dX4_clear_11 : decode cX4_clear 11 = .ok (.iconst 0, 1) := by decide +kernel
theorem dX4_clear_12 : decode cX4_clear 12 = .ok (.putfield 42, 3) := by decide +kernel
theorem dX4_clear_15 : decode cX4_clear 15 = .ok (.aload_n 0, 1) := by decide +kernel
theorem dX4_clear_16 : decode cX4_clear 16 = .ok (.getfield 20, 3) := by decide +kernel
theorem dX4_clear_19 : decode cX4_clear 19 = .ok (.iconst 0, 1) := by decide +kernel
theorem dX4_clear_20 : decode cX4_clear 20 = .ok (.invokestatic 57, 3) := by decide +kernel
theorem dX4_clear_23 : decode cX4_clear 23 = .ok (.aload_n 0, 1) := by decide +kernel
theorem dX4_clear_24 : decode cX4_clear 24 = .ok (.getfield 24, 3) := by decide +kernel
theorem dX4_clear_27 : decode cX4_clear 27 = .ok (.iconst 0, 1) := by decide +kernel
theorem dX4_clear_28 : decode cX4_clear 28 = .ok (.invokestatic 57, 3) := by decide +kernel
theorem dX4_clear_31 : decode cX4_clear 31 = .ok (.aload_n 0, 1) := by decide +kernel
theorem dX4_clear_32 : decode cX4_clear 32 = .ok (.getfield 27, 3) := by decide +kernel
theorem dX4_clear_35 : decode cX4_clear 35 = .ok (.iconst 0, 1) := by decide +kernel
theorem dX4_clear_36 : decode cX4_clear 36 = .ok (.invokestatic 57, 3) := by decide +kernel
theorem dX4_clear_39 : decode cX4_clear 39 = .ok (.return_, 1) := by decide +kernel
theorem dX4_hasTurns_0 : decode cX4_hasTurns 0 = .ok (.aload_n 0, 1) := by decide +kernel
theorem dX4_hasTurns_1 : decode cX4_hasTurns 1 = .ok (.getfield 20, 3) := by decide +kernel
theorem dX4_hasTurns_4 : decode cX4_hasTurns 4 = .ok (.iload_n 1, 1) := by decide +kernel
theorem dX4_hasTurns_5 : decode cX4_hasTurns 5 = .ok (.iaload, 1) := by decide +kernel
theorem dX4_hasTurns_6 : decode cX4_hasTurns 6 = .ok (.ifCond .le 7, 3) := by decide +kernel
theorem dX4_hasTurns_9 : decode cX4_hasTurns 9 = .ok (.iconst 1, 1) := by decide +kernel
theorem dX4_hasTurns_10 : decode cX4_hasTurns 10 = .ok (.goto 4, 3) := by decide +kernel
theorem dX4_hasTurns_13 : decode cX4_hasTurns 13 = .ok (.iconst 0, 1) := by decide +kernel
theorem dX4_hasTurns_14 : decode cX4_hasTurns 14 = .ok (.ireturn, 1) := by decide +kernel
set_option maxHeartbeats 4000000 in
set_option maxRecDepth 100000 in
/-- WellCourt$Law.clear -/
theorem s_X4_clear (l : Launch) (G : va_G) (cy : Nat → ClassId) (sK sV : Nat → Nat) (ad : Nat → Nat → Nat) (sz : Nat) (st : gS) (hB : gBd bX st) (z : Int32) (hz_z : (0 : Int) ≤ z.toInt ∧ z.toInt ≤ (1 : Int)) : gsMv l yX4_clear cX4_clear 1 ({ frames := 1, cells := 0, slots := 0, locals := 23 } : Room) G cy sK sV (shX cy ad) cnX ad sz [.ref (ad 25 z.toNatClampNeg)] st (fun (u : gS) => gBN bX kX [2500, 2505, 2509, 2800, 2900, 3000] st u ∧ ((LXa [] u z.toNatClampNeg) ∧ (lO z.toNatClampNeg st u))) := by
  refine gs_start (fun A => gsQv G (shX cy ad) cnX ad _ A) (by decide) (Nat.le_of_ble_eq_true rfl) ?_
  intro p e s m below meth c A ls H hx hb hr hml hlocks hown hts hK hov hE hI hM hm hS hA hl
  have hl : lv_has ls 1 [(0, .ref (ad 25 z.toNatClampNeg))] := hl
  have hB_st : gBN bX kX [2500, 2505, 2509, 2800, 2900, 3000] st st := gBN.rf hB
  refine lv_aload_n hx hb dX4_clear_0 rfl (lv_at hl 0 rfl) ?_
  refine lv_iconst (v := 0) hx hb dX4_clear_1 (by decide) ?_
  refine gs_put (C := RX4) (T := TX4) (N := 14) (ty := .int) (val := .int 0) hx hb hts inX4 tyX4 tyX4_ok nmX4 hown hK hI hm hM hS 25 z.toNatClampNeg 0 (gs_sel hz_z) rfl rfl (by decide) (hts _ gm_188) (fun _ h9 => h9) rfl (0 : Int32) rfl (by decide +kernel) rfl rfl (Nat.le_of_ble_eq_true rfl) dX4_clear_2 (fun st_1 H locs est_1 hM hS => ?_)
  have hB_st_1 : gBN bX kX [2500, 2505, 2509, 2800, 2900, 3000] st st_1 := by rw [est_1]; exact hB_st.up (show (2500 : Nat) ∈ _ from by decide) (gi_lo _) (gi_hi _)
  refine lv_aload_n hx hb dX4_clear_5 rfl (lv_at hl 0 rfl) ?_
  refine lv_iconst (v := 0) hx hb dX4_clear_6 (by decide) ?_
  refine gs_put (C := RX4) (T := TX4) (N := 14) (ty := .int) (val := .int 0) hx hb hts inX4 tyX4 tyX4_ok nmX4 hown hK hI hm hM hS 25 z.toNatClampNeg 5 (gs_sel hz_z) rfl rfl (by decide) (hts _ gm_195) (fun _ h9 => h9) rfl (0 : Int32) rfl (by decide +kernel) rfl rfl (Nat.le_of_ble_eq_true rfl) dX4_clear_7 (fun st_2 H locs est_2 hM hS => ?_)
  have hB_st_2 : gBN bX kX [2500, 2505, 2509, 2800, 2900, 3000] st st_2 := by rw [est_2]; exact hB_st_1.up (show (2505 : Nat) ∈ _ from by decide) (show (0 : Int) ≤ ((0 : Int32)).toInt from by decide) (show ((0 : Int32)).toInt ≤ (20 : Int) from by decide)
  refine lv_aload_n hx hb dX4_clear_10 rfl (lv_at hl 0 rfl) ?_
  refine lv_iconst (v := 0) hx hb dX4_clear_11 (by decide) ?_
  refine gs_put (C := RX4) (T := TX4) (N := 14) (ty := .int) (val := .int 0) hx hb hts inX4 tyX4 tyX4_ok nmX4 hown hK hI hm hM hS 25 z.toNatClampNeg 9 (gs_sel hz_z) rfl rfl (by decide) (hts _ gm_199) (fun _ h9 => h9) rfl (0 : Int32) rfl (by decide +kernel) rfl rfl (Nat.le_of_ble_eq_true rfl) dX4_clear_12 (fun st_3 H locs est_3 hM hS => ?_)
  have hB_st_3 : gBN bX kX [2500, 2505, 2509, 2800, 2900, 3000] st st_3 := by rw [est_3]; exact hB_st_2.up (show (2509 : Nat) ∈ _ from by decide) (show (0 : Int) ≤ ((0 : Int32)).toInt from by decide) (show ((0 : Int32)).toInt ≤ (20 : Int) from by decide)
  refine lv_aload_n hx hb dX4_clear_15 rfl (lv_at hl 0 rfl) ?_
  refine gs_get (C := RX4) (T := TX4) (N := 14) hx hb hts inX4 hown hK hM 25 z.toNatClampNeg 2 (gs_sel hz_z) rfl rfl (by decide) (hts _ gm_192) (fun _ h9 => h9) rfl dX4_clear_16 ?_
  refine lv_iconst (v := 0) hx hb dX4_clear_19 (by decide) ?_
  refine gs_callv (va_runS (As := [.ref (ad 28 z.toNatClampNeg), .int 0]) (rest := []) ⟨hx, hb, hml, hown, hts⟩ (s_fill l G cy sK sV ad H.size st_3 hB_st_3.1 28 z.toNatClampNeg 6 2800 (0 : Int32) (gs_sel hz_z) (fun _ => rfl) (fun _ => rfl) (fun _ => ⟨(show (0 : Int) ≤ (0 : Int32).toInt from by decide), (show (0 : Int32).toInt ≤ (72 : Int) from by decide)⟩) (by decide)) ⟨(gz_cb (n := 2) hts gm_362 gm_6 gm_108 ⟨by decide +kernel, by decide +kernel, by decide +kernel⟩ ⟨Nat.le_of_ble_eq_true rfl, Nat.le_of_ble_eq_true rfl⟩), hts _ gm_107⟩ (gs_preS hK hov hE hI hM hm hS hA) rfl rfl hl.1 rfl (lv_room (Nat.le_of_ble_eq_true rfl)) dX4_clear_20 ⟨Nat.le_of_ble_eq_true rfl, Nat.le_of_ble_eq_true rfl⟩) hm hS hA (fun st_4 H locs hw_4 hM hS => ?_)
  obtain ⟨n_4, hw_4⟩ := hw_4
  have hB_st_4 : gBN bX kX [2500, 2505, 2509, 2800, 2900, 3000] st st_4 := hB_st_3.call n_4 (by decide)
  obtain ⟨hw_4_0, hw_4_1⟩ := hw_4
  refine lv_aload_n hx hb dX4_clear_23 rfl (lv_at hl 0 rfl) ?_
  refine gs_get (C := RX4) (T := TX4) (N := 14) hx hb hts inX4 hown hK hM 25 z.toNatClampNeg 3 (gs_sel hz_z) rfl rfl (by decide) (hts _ gm_193) (fun _ h9 => h9) rfl dX4_clear_24 ?_
  refine lv_iconst (v := 0) hx hb dX4_clear_27 (by decide) ?_
  refine gs_callv (va_runS (As := [.ref (ad 29 z.toNatClampNeg), .int 0]) (rest := []) ⟨hx, hb, hml, hown, hts⟩ (s_fill l G cy sK sV ad H.size st_4 hB_st_4.1 29 z.toNatClampNeg 6 2900 (0 : Int32) (gs_sel hz_z) (fun _ => rfl) (fun _ => rfl) (fun _ => ⟨gi_lo _, gi_hi _⟩) (by decide)) ⟨(gz_cb (n := 2) hts gm_362 gm_6 gm_108 ⟨by decide +kernel, by decide +kernel, by decide +kernel⟩ ⟨Nat.le_of_ble_eq_true rfl, Nat.le_of_ble_eq_true rfl⟩), hts _ gm_107⟩ (gs_preS hK hov hE hI hM hm hS hA) rfl rfl hl.1 rfl (lv_room (Nat.le_of_ble_eq_true rfl)) dX4_clear_28 ⟨Nat.le_of_ble_eq_true rfl, Nat.le_of_ble_eq_true rfl⟩) hm hS hA (fun st_5 H locs hw_5 hM hS => ?_)
  obtain ⟨n_5, hw_5⟩ := hw_5
  have hB_st_5 : gBN bX kX [2500, 2505, 2509, 2800, 2900, 3000] st st_5 := hB_st_4.call n_5 (by decide)
  obtain ⟨hw_5_0, hw_5_1⟩ := hw_5
  refine lv_aload_n hx hb dX4_clear_31 rfl (lv_at hl 0 rfl) ?_
  refine gs_get (C := RX4) (T := TX4) (N := 14) hx hb hts inX4 hown hK hM 25 z.toNatClampNeg 4 (gs_sel hz_z) rfl rfl (by decide) (hts _ gm_194) (fun _ h9 => h9) rfl dX4_clear_32 ?_
  refine lv_iconst (v := 0) hx hb dX4_clear_35 (by decide) ?_
  refine gs_callv (va_runS (As := [.ref (ad 30 z.toNatClampNeg), .int 0]) (rest := []) ⟨hx, hb, hml, hown, hts⟩ (s_fill l G cy sK sV ad H.size st_5 hB_st_5.1 30 z.toNatClampNeg 6 3000 (0 : Int32) (gs_sel hz_z) (fun _ => rfl) (fun _ => rfl) (fun _ => ⟨gi_lo _, gi_hi _⟩) (by decide)) ⟨(gz_cb (n := 2) hts gm_362 gm_6 gm_108 ⟨by decide +kernel, by decide +kernel, by decide +kernel⟩ ⟨Nat.le_of_ble_eq_true rfl, Nat.le_of_ble_eq_true rfl⟩), hts _ gm_107⟩ (gs_preS hK hov hE hI hM hm hS hA) rfl rfl hl.1 rfl (lv_room (Nat.le_of_ble_eq_true rfl)) dX4_clear_36 ⟨Nat.le_of_ble_eq_true rfl, Nat.le_of_ble_eq_true rfl⟩) hm hS hA (fun st_6 H locs hw_6 hM hS => ?_)
  obtain ⟨n_6, hw_6⟩ := hw_6
  have hB_st_6 : gBN bX kX [2500, 2505, 2509, 2800, 2900, 3000] st st_6 := hB_st_5.call n_6 (by decide)
  obtain ⟨hw_6_0, hw_6_1⟩ := hw_6
  exact gs_vret hx hb hr hlocks hM hS ⟨hB_st_6, LXa.nil (fun j9 h9 => ((fun i9 j9 => (n_6.2 28 i9 j9 (show (2800 : Nat) ∉ _ from by decide)).trans ((fun i9 j9 => (n_5.2 28 i9 j9 (show (2800 : Nat) ∉ _ from by decide)).trans ((fun _ _ => rfl) i9 j9)) i9 j9)) _ j9).trans (hw_4_0 j9 h9)) (fun j9 h9 => ((fun i9 j9 => (n_6.2 29 i9 j9 (show (2900 : Nat) ∉ _ from by decide)).trans ((fun _ _ => rfl) i9 j9)) _ j9).trans (hw_5_0 j9 h9)) (fun j9 h9 => ((fun _ _ => rfl) _ j9).trans (hw_6_0 j9 h9)) ((congrArg Int32.toInt (((n_6.2 25 z.toNatClampNeg 5 (show (2505 : Nat) ∉ _ from by decide)).trans ((n_5.2 25 z.toNatClampNeg 5 (show (2505 : Nat) ∉ _ from by decide)).trans ((n_4.2 25 z.toNatClampNeg 5 (show (2505 : Nat) ∉ _ from by decide)).trans (((congrFun (congrFun (congrFun est_3 25) z.toNatClampNeg) 5).trans (gU_other (by decide))).trans ((congrFun (congrFun (congrFun est_2 25) z.toNatClampNeg) 5).trans (gU_same _ _ _ _ _)))))))).trans (by decide)) ((congrArg Int32.toInt (((n_6.2 25 z.toNatClampNeg 9 (show (2509 : Nat) ∉ _ from by decide)).trans ((n_5.2 25 z.toNatClampNeg 9 (show (2509 : Nat) ∉ _ from by decide)).trans ((n_4.2 25 z.toNatClampNeg 9 (show (2509 : Nat) ∉ _ from by decide)).trans ((congrFun (congrFun (congrFun est_3 25) z.toNatClampNeg) 9).trans (gU_same _ _ _ _ _))))))).trans (by decide)), (lO.trans (lO.trans (lO.trans (by rw [est_3]; exact lO.up (by rw [est_2]; exact lO.up (by rw [est_1]; exact lO.up lO.rf (by first | rfl | (rw [if_pos rfl]; omega))) (by first | rfl | (rw [if_pos rfl]; omega))) (by first | rfl | (rw [if_pos rfl]; omega))) (lO.fill hw_4_1 (by first | rfl | (rw [if_pos rfl]; omega)))) (lO.fill hw_5_1 (by first | rfl | (rw [if_pos rfl]; omega)))) (lO.fill hw_6_1 (by first | rfl | (rw [if_pos rfl]; omega))))⟩ (by exact Nat.le_refl _) (by exact Nat.le_refl _) dX4_clear_39

set_option maxHeartbeats 4000000 in
set_option maxRecDepth 100000 in
/-- WellCourt$Law.hasTurns -/
theorem s_X4_hasTurns (l : Launch) (G : va_G) (cy : Nat → ClassId) (sK sV : Nat → Nat) (ad : Nat → Nat → Nat) (sz : Nat) (st : gS) (hB : gBd bX st) (z : Int32) (x : Int32) (Xx : Int) (kx : x.toInt = Xx) (hz_z : (0 : Int) ≤ z.toInt ∧ z.toInt ≤ (1 : Int)) (hx0 : 0 ≤ Xx) (hx1 : Xx < 6) : gsMi l yX4_hasTurns cX4_hasTurns 2 (some .boolean) ({ frames := 0, cells := 0, slots := 0, locals := 0 } : Room) G cy sK sV (shX cy ad) cnX ad sz [.ref (ad 25 z.toNatClampNeg), .int x] st (fun (r : Int32) (u : gS) => gBN bX kX [] st u ∧ ((r = 1 ∧ (0 < (st 28 z.toNatClampNeg x.toNatClampNeg).toInt)) ∨ (r = 0 ∧ ((st 28 z.toNatClampNeg x.toNatClampNeg).toInt ≤ 0)))) := by
  refine gs_start (fun A => gsQi G (shX cy ad) cnX ad _ A) (by decide) (Nat.le_of_ble_eq_true rfl) ?_
  intro p e s m below meth c A ls H hx hb hr hml hlocks hown hts hK hov hE hI hM hm hS hA hl
  have hl : lv_has ls 2 [(0, .ref (ad 25 z.toNatClampNeg)), (1, .int x)] := hl
  have hB_st : gBN bX kX [] st st := gBN.rf hB
  refine lv_aload_n hx hb dX4_hasTurns_0 rfl (lv_at hl 0 rfl) ?_
  refine gs_get (C := RX4) (T := TX4) (N := 14) hx hb hts inX4 hown hK hM 25 z.toNatClampNeg 2 (gs_sel hz_z) rfl rfl (by decide) (hts _ gm_192) (fun _ h9 => h9) rfl dX4_hasTurns_1 ?_
  refine lv_iload_n hx hb dX4_hasTurns_4 rfl (lv_at hl 1 rfl) ?_
  refine gs_iald hx hb hK hM 28 z.toNatClampNeg (gs_sel hz_z) rfl (vp_in_iff.mpr ⟨by omega, by omega⟩) dX4_hasTurns_5 ?_
  refine lv_topi (fun x_1 ex_1 => ?_)
  have qx_1 : x_1.toInt = (st 28 z.toNatClampNeg (x.toNatClampNeg)).toInt := congrArg Int32.toInt ex_1
  have bx_1 : (0 : Int) ≤ x_1.toInt ∧ x_1.toInt ≤ (72 : Int) := by rw [qx_1]; exact hB_st.1 28 z.toNatClampNeg (x.toNatClampNeg)
  refine lv_if_le (tgt := 13) hx hb dX4_hasTurns_6 (by decide) (fun c_2 => ?_) (fun c_2 => ?_)
  · have ic_2 := gz_le (rfl : x_1.toInt = x_1.toInt) (by decide : (0 : Int32).toInt = 0) c_2
    refine lv_iconst (v := 0) hx hb dX4_hasTurns_13 (by decide) ?_
    exact gs_iret hx hb hr hlocks hM hS (by decide) ⟨hB_st, (Or.inr (⟨rfl, (by have hl0 : (0 : Int32).toInt = 0 := (by decide); omega)⟩))⟩ (by exact Nat.le_refl _) (by exact Nat.le_refl _) dX4_hasTurns_14
  · have ic_2 := gz_nle (rfl : x_1.toInt = x_1.toInt) (by decide : (0 : Int32).toInt = 0) c_2
    refine lv_iconst (v := 1) hx hb dX4_hasTurns_9 (by decide) ?_
    refine lv_goto (tgt := 14) hx hb dX4_hasTurns_10 (by decide) ?_
    exact gs_iret hx hb hr hlocks hM hS (by decide) ⟨hB_st, (Or.inl (⟨rfl, (by have hl0 : (1 : Int32).toInt = 1 := (by decide); omega)⟩))⟩ (by exact Nat.le_refl _) (by exact Nat.le_refl _) dX4_hasTurns_14

set_option maxHeartbeats 4000000 in
set_option maxRecDepth 100000 in
/-- WellCourt$Law.addTurn -/
theorem s_X4_addTurn (l : Launch) (G : va_G) (cy : Nat → ClassId) (sK sV : Nat → Nat) (ad : Nat → Nat → Nat) (sz : Nat) (st : gS) (hB : gBd bX st) (z : Int32) (x : Int32) (y : Int32) (w : Int32) (Xx : Int) (Xy : Int) (Xw : Int) (kx : x.toInt = Xx) (ky : y.toInt = Xy) (kw : w.toInt = Xw) (hz_z : (0 : Int) ≤ z.toInt ∧ z.toInt ≤ (1 : Int)) (hx0 : 0 ≤ Xx) (hx1 : Xx < 6) (hw0 : 0 ≤ Xw) (hfit : (st 28 z.toNatClampNeg x.toNatClampNeg).toInt + Xw ≤ 72) : gsMv l yX4_addTurn cX4_addTurn 5 ({ frames := 0, cells := 0, slots := 0, locals := 0 } : Room) G cy sK sV (shX cy ad) cnX ad sz [.ref (ad 25 z.toNatClampNeg), .int x, .int y, .int w] st (fun (u : gS) => gBN bX kX [2700, 2800] st u ∧ ((∀ j9 : Nat, (u 28 z.toNatClampNeg j9).toInt = (st 28 z.toNatClampNeg j9).toInt + (if j9 = x.toNatClampNeg then Xw else 0)) ∧ (∀ j9 i9 : Nat, j9 < 6 → u 27 (6 * z.toNatClampNeg + j9) i9 = if j9 = x.toNatClampNeg ∧ (st 28 z.toNatClampNeg x.toNatClampNeg).toInt ≤ (i9 : Int) ∧ (i9 : Int) < (st 28 z.toNatClampNeg x.toNatClampNeg).toInt + Xw then y else st 27 (6 * z.toNatClampNeg + j9) i9) ∧ (lO z.toNatClampNeg st u))) := by
  refine gs_start (fun A => gsQv G (shX cy ad) cnX ad _ A) (by decide) (Nat.le_of_ble_eq_true rfl) ?_
  intro p e s m below meth c A ls H hx hb hr hml hlocks hown hts hK hov hE hI hM hm hS hA hl
  have hl : lv_has ls 5 [(0, .ref (ad 25 z.toNatClampNeg)), (1, .int x), (2, .int y), (3, .int w)] := hl
  have hB_st : gBN bX kX [2700, 2800] st st := gBN.rf hB
  have lh_w : (-2147483648 : Int) ≤ w.toInt ∧ w.toInt ≤ (2147483647 : Int) := ⟨gi_lo _, gi_hi _⟩
  generalize hQe : MQ below _ _ s _ _ A = Q
  refine lv_iconst (v := 0) hx hb dX4_addTurn_0 (by decide) ?_
  refine lv_istore (lv' := [(4, .int 0), (0, .ref (ad 25 z.toNatClampNeg)), (1, .int x), (2, .int y), (3, .int w)]) hx hb dX4_addTurn_1 hl (by decide) rfl (fun ls hl => ?_)
  have lp1 : ∀ (n1 : Nat) (sv1 : gS) (y1_0 : Int32) (H : Heap) (locs : List Loc) (ls : Array Slot), (Xw - y1_0.toInt).toNat < n1 → gBN bX kX [2700, 2800] st sv1 → (0 ≤ y1_0.toInt) → (y1_0.toInt ≤ Xw) → (∀ j9 : Nat, (sv1 28 z.toNatClampNeg j9).toInt = (st 28 z.toNatClampNeg j9).toInt + (if j9 = x.toNatClampNeg then y1_0.toInt else 0)) → (∀ j9 i9 : Nat, j9 < 6 → sv1 27 (6 * z.toNatClampNeg + j9) i9 = if j9 = x.toNatClampNeg ∧ (st 28 z.toNatClampNeg x.toNatClampNeg).toInt ≤ (i9 : Int) ∧ (i9 : Int) < (st 28 z.toNatClampNeg x.toNatClampNeg).toInt + y1_0.toInt then y else st 27 (6 * z.toNatClampNeg + j9) i9) → (lO z.toNatClampNeg st sv1) → gM G (shX cy ad) cnX ad sv1 H → va_S A s.heap H locs → lv_has ls 5 [(4, .int y1_0), (0, .ref (ad 25 z.toNatClampNeg)), (1, .int x), (2, .int y), (3, .int w)] → W p l e ({ frames := 0, cells := 0, slots := 0, locals := 0 } : Room) s m [.ref (ad 25 z.toNatClampNeg), .int x, .int y, .int w].toArray below meth c H locs 0 0 Q (F0 m 3 ls []) := by
    intro n1
    induction n1 with
    | zero => intro sv1 y1_0 H locs ls h9; exact absurd h9 (Nat.not_lt_zero _)
    | succ n1 ih_1 =>
      intro sv1 y1_0 H locs ls hme1 hB_sv1 hv1_0 hv1_1 hv1_2 hv1_3 hv1_4 hM hS hl
      refine lv_iload hx hb dX4_addTurn_3 (lv_at hl 0 rfl) ?_
      refine lv_iload_n hx hb dX4_addTurn_5 rfl (lv_at hl 4 rfl) ?_
      refine lv_icmp_ge (tgt := 55) hx hb dX4_addTurn_6 (by decide) (fun c_2 => ?_) (fun c_2 => ?_)
      · have ic_2 := gz_le (rfl : w.toInt = w.toInt) (rfl : y1_0.toInt = y1_0.toInt) c_2
        rw [← hQe]
        exact gs_vret hx hb hr hlocks hM hS ⟨hB_sv1, (by have h7 := hv1_2 x.toNatClampNeg; rw [if_pos rfl] at h7; have h9 : y1_0.toInt = Xw := (by omega); have h8 := hv1_2; rw [h9] at h8; exact h8), (by have h7 := hv1_2 x.toNatClampNeg; rw [if_pos rfl] at h7; have h9 : y1_0.toInt = Xw := (by omega); have h8 := hv1_3; rw [h9] at h8; exact h8), hv1_4⟩ (by exact Nat.le_refl _) (by exact Nat.le_refl _) dX4_addTurn_55
      · have ic_2 := gz_nle (rfl : w.toInt = w.toInt) (rfl : y1_0.toInt = y1_0.toInt) c_2
        have lc_2 := gi_hi w
        refine lv_aload_n hx hb dX4_addTurn_9 rfl (lv_at hl 1 rfl) ?_
        refine gs_get (C := RX4) (T := TX4) (N := 14) hx hb hts inX4 hown hK hM 25 z.toNatClampNeg 2 (gs_sel hz_z) rfl rfl (by decide) (hts _ gm_192) (fun _ h9 => h9) rfl dX4_addTurn_10 ?_
        refine lv_iload_n hx hb dX4_addTurn_13 rfl (lv_at hl 2 rfl) ?_
        refine gs_iald hx hb hK hM 28 z.toNatClampNeg (gs_sel hz_z) rfl (vp_in_iff.mpr ⟨by omega, by omega⟩) dX4_addTurn_14 ?_
        refine lv_topi (fun x_3 ex_3 => ?_)
        have qx_3 : x_3.toInt = (sv1 28 z.toNatClampNeg (x.toNatClampNeg)).toInt := congrArg Int32.toInt ex_3
        have bx_3 : (0 : Int) ≤ x_3.toInt ∧ x_3.toInt ≤ (72 : Int) := by rw [qx_3]; exact hB_sv1.1 28 z.toNatClampNeg (x.toNatClampNeg)
        refine lv_aload_n hx hb dX4_addTurn_15 rfl (lv_at hl 1 rfl) ?_
        refine gs_get (C := RX4) (T := TX4) (N := 14) hx hb hts inX4 hown hK hM 25 z.toNatClampNeg 1 (gs_sel hz_z) rfl rfl (by decide) (hts _ gm_191) (fun _ h9 => h9) rfl dX4_addTurn_16 ?_
        refine lv_iload_n hx hb dX4_addTurn_19 rfl (lv_at hl 2 rfl) ?_
        have h_4 : x.toNatClampNeg < 6 := gs_lt (vp_in_iff.mpr ⟨by omega, by omega⟩)
        refine gs_alda hx hb hK hM 26 z.toNatClampNeg (gs_sel hz_z) rfl (vp_in_iff.mpr ⟨by omega, by omega⟩) (a := ad 27 (6 * z.toNatClampNeg + x.toNatClampNeg)) (if_pos h_4) dX4_addTurn_20 ?_
        refine gs_alen (v := 72) hx hb hK hM 27 (6 * z.toNatClampNeg + x.toNatClampNeg) (by show _ < 12; have h91 := h_4; have h92 : z.toNatClampNeg < 2 := (gs_sel hz_z); omega) rfl rfl dX4_addTurn_21 ?_
        refine lv_icmp_ge (tgt := 55) hx hb dX4_addTurn_22 (by decide) (fun c_5 => ?_) (fun c_5 => ?_)
        · have ic_5 := gz_le (by decide : (72 : Int32).toInt = 72) (rfl : x_3.toInt = x_3.toInt) c_5
          rw [← hQe]
          exact gs_vret hx hb hr hlocks hM hS ⟨hB_sv1, (by have h7 := hv1_2 x.toNatClampNeg; rw [if_pos rfl] at h7; have h9 : y1_0.toInt = Xw := (by omega); have h8 := hv1_2; rw [h9] at h8; exact h8), (by have h7 := hv1_2 x.toNatClampNeg; rw [if_pos rfl] at h7; have h9 : y1_0.toInt = Xw := (by omega); have h8 := hv1_3; rw [h9] at h8; exact h8), hv1_4⟩ (by exact Nat.le_refl _) (by exact Nat.le_refl _) dX4_addTurn_55
        · have ic_5 := gz_nle (by decide : (72 : Int32).toInt = 72) (rfl : x_3.toInt = x_3.toInt) c_5
          refine lv_aload_n hx hb dX4_addTurn_25 rfl (lv_at hl 1 rfl) ?_
          refine gs_get (C := RX4) (T := TX4) (N := 14) hx hb hts inX4 hown hK hM 25 z.toNatClampNeg 1 (gs_sel hz_z) rfl rfl (by decide) (hts _ gm_191) (fun _ h9 => h9) rfl dX4_addTurn_26 ?_
          refine lv_iload_n hx hb dX4_addTurn_29 rfl (lv_at hl 2 rfl) ?_
          have h_6 : x.toNatClampNeg < 6 := gs_lt (vp_in_iff.mpr ⟨by omega, by omega⟩)
          refine gs_alda hx hb hK hM 26 z.toNatClampNeg (gs_sel hz_z) rfl (vp_in_iff.mpr ⟨by omega, by omega⟩) (a := ad 27 (6 * z.toNatClampNeg + x.toNatClampNeg)) (if_pos h_6) dX4_addTurn_30 ?_
          refine lv_aload_n hx hb dX4_addTurn_31 rfl (lv_at hl 1 rfl) ?_
          refine gs_get (C := RX4) (T := TX4) (N := 14) hx hb hts inX4 hown hK hM 25 z.toNatClampNeg 2 (gs_sel hz_z) rfl rfl (by decide) (hts _ gm_192) (fun _ h9 => h9) rfl dX4_addTurn_32 ?_
          refine lv_iload_n hx hb dX4_addTurn_35 rfl (lv_at hl 2 rfl) ?_
          refine gs_iald hx hb hK hM 28 z.toNatClampNeg (gs_sel hz_z) rfl (vp_in_iff.mpr ⟨by omega, by omega⟩) dX4_addTurn_36 ?_
          refine lv_topi (fun x_7 ex_7 => ?_)
          have qx_7 : x_7.toInt = (sv1 28 z.toNatClampNeg (x.toNatClampNeg)).toInt := congrArg Int32.toInt ex_7
          have bx_7 : (0 : Int) ≤ x_7.toInt ∧ x_7.toInt ≤ (72 : Int) := by rw [qx_7]; exact hB_sv1.1 28 z.toNatClampNeg (x.toNatClampNeg)
          refine lv_iload_n hx hb dX4_addTurn_37 rfl (lv_at hl 3 rfl) ?_
          refine gs_iast hx hb hK hI hm hM hS 27 (6 * z.toNatClampNeg + x.toNatClampNeg) (by show _ < 12; have h91 := h_6; have h92 : z.toNatClampNeg < 2 := (gs_sel hz_z); omega) (fun _ => rfl) (vp_in_iff.mpr ⟨by omega, by omega⟩) dX4_addTurn_38 (fun st_8 H locs est_8 hM hS => ?_)
          have hB_st_8 : gBN bX kX [2700, 2800] st st_8 := by rw [est_8]; exact hB_sv1.up (show (2700 : Nat) ∈ _ from by decide) (gi_lo _) (gi_hi _)
          refine lv_aload_n hx hb dX4_addTurn_39 rfl (lv_at hl 1 rfl) ?_
          refine gs_get (C := RX4) (T := TX4) (N := 14) hx hb hts inX4 hown hK hM 25 z.toNatClampNeg 2 (gs_sel hz_z) rfl rfl (by decide) (hts _ gm_192) (fun _ h9 => h9) rfl dX4_addTurn_40 ?_
          refine lv_iload_n hx hb dX4_addTurn_43 rfl (lv_at hl 2 rfl) ?_
          refine lv_dup2_11 hx hb dX4_addTurn_44 rfl rfl ?_
          refine gs_iald hx hb hK hM 28 z.toNatClampNeg (gs_sel hz_z) rfl (vp_in_iff.mpr ⟨by omega, by omega⟩) dX4_addTurn_45 ?_
          refine lv_topi (fun x_9 ex_9 => ?_)
          have qx_9 : x_9.toInt = (st_8 28 z.toNatClampNeg (x.toNatClampNeg)).toInt := congrArg Int32.toInt ex_9
          have bx_9 : (0 : Int) ≤ x_9.toInt ∧ x_9.toInt ≤ (72 : Int) := by rw [qx_9]; exact hB_st_8.1 28 z.toNatClampNeg (x.toNatClampNeg)
          have rx_9 : x_9.toInt = ((sv1 28 z.toNatClampNeg (x.toNatClampNeg)) : Int32).toInt := by rw [ex_9]; exact congrArg Int32.toInt (((congrFun (congrFun (congrFun est_8 28) z.toNatClampNeg) (x.toNatClampNeg)).trans (congrFun (congrFun (gU_k (by decide)) z.toNatClampNeg) (x.toNatClampNeg))))
          refine lv_iconst (v := 1) hx hb dX4_addTurn_46 (by decide) ?_
          refine lv_iadd hx hb dX4_addTurn_47 ?_
          refine lv_topi (fun x_10 ex_10 => ?_)
          try have tx_10 : x_10.toInt = x_9.toInt + 1 := by rw [ex_10]; exact gz_addP (x := x_9.toInt) (y := 1) rfl (by decide) (by omega) (by omega)
          refine gs_iast hx hb hK hI hm hM hS 28 z.toNatClampNeg (gs_sel hz_z) (fun _ => rfl) (vp_in_iff.mpr ⟨by omega, by omega⟩) dX4_addTurn_48 (fun st_11 H locs est_11 hM hS => ?_)
          have hB_st_11 : gBN bX kX [2700, 2800] st st_11 := by rw [est_11]; exact hB_st_8.up (show (2800 : Nat) ∈ _ from by decide) (show (0 : Int) ≤ x_10.toInt from by omega) (show x_10.toInt ≤ (72 : Int) from by omega)
          obtain ⟨x_12, ex_12⟩ : ∃ y : Int32, y = y1_0 + 1 := ⟨_, rfl⟩
          try have tx_12 : x_12.toInt = y1_0.toInt + 1 := by rw [ex_12]; exact gz_addP (x := y1_0.toInt) (y := 1) rfl (by decide) (by omega) (by omega)
          refine lv_iinc (v := (x_12)) (lv' := [(4, .int x_12), (0, .ref (ad 25 z.toNatClampNeg)), (1, .int x), (2, .int y), (3, .int w)]) hx hb dX4_addTurn_49 hl (k := 0) rfl (by rw [ex_12]; rfl) (by decide) rfl (fun ls hl => ?_)
          refine lv_goto (tgt := 3) hx hb dX4_addTurn_52 (by decide) ?_
          exact ih_1 st_11 (x_12 : Int32) H _ ls (by omega) hB_st_11 (by omega) (by omega) (fun j9 => by have h7 := hv1_2 x.toNatClampNeg; rw [if_pos rfl] at h7; have h6 := hv1_2 j9; rw [est_11]; by_cases h8 : j9 = x.toNatClampNeg; rw [h8, gU_same, if_pos rfl]; omega; rw [gU_other h8, est_8, gU_k (by decide), if_neg h8]; rw [if_neg h8] at h6; exact h6) (fun j9 i9 h9 => by have h7 := hv1_2 x.toNatClampNeg; rw [if_pos rfl] at h7; have h6 := hv1_3 j9 i9 h9; rw [est_11, gU_k (by decide), est_8]; have c9 := gs_cl (x := x) (by omega); have d9 := gs_cl (x := x_7) (by omega); by_cases h8 : j9 = x.toNatClampNeg; rw [h8] at h6 ⊢; by_cases h5 : i9 = (x_7.toNatClampNeg); rw [h5, gU_same, if_pos ⟨rfl, by omega, by omega⟩]; rw [gU_other h5, h6]; split; (next g9 => rw [if_pos ⟨g9.1, g9.2.1, by omega⟩]); (next g9 => rw [if_neg (by omega)]); rw [gU_ne (fun g9 => h8 (by omega)), h6, if_neg (fun g9 => h8 g9.1), if_neg (fun g9 => h8 g9.1)]) (by rw [est_11]; exact lO.up (by rw [est_8]; exact lO.up hv1_4 (by first | rfl | (rw [if_pos rfl]; omega))) (by first | rfl | (rw [if_pos rfl]; omega))) hM hS (lv_sub hl [0, 1, 2, 3, 4] rfl)
  exact lp1 ((Xw - ((0 : Int32) : Int32).toInt).toNat + 1) st ((0 : Int32) : Int32) H _ ls (Nat.lt_succ_self _) hB_st (by have hl0 : (0 : Int32).toInt = 0 := (by decide); omega) (by have hl0 : (0 : Int32).toInt = 0 := (by decide); omega) (fun j9 => by have h8 : (0 : Int32).toInt = 0 := (by decide); rw [h8]; split <;> omega) (fun j9 i9 h9 => by have h8 : (0 : Int32).toInt = 0 := (by decide); rw [h8, if_neg (by omega)]) lO.rf hM hS (lv_sub hl [0, 1, 2, 3, 4] rfl)

set_option maxHeartbeats 4000000 in
set_option maxRecDepth 100000 in
/-- WellCourt$Law.addWed -/
theorem s_X4_addWed (l : Launch) (G : va_G) (cy : Nat → ClassId) (sK sV : Nat → Nat) (ad : Nat → Nat → Nat) (sz : Nat) (st : gS) (hB : gBd bX st) (z : Int32) (x : Int32) (y : Int32) (Xx : Int) (Xy : Int) (kx : x.toInt = Xx) (ky : y.toInt = Xy) (hz_z : (0 : Int) ≤ z.toInt ∧ z.toInt ≤ (1 : Int)) (hx0 : 0 ≤ Xx) (hx1 : Xx < 6) (hy0 : 0 ≤ Xy) (hy1 : Xy < 6) (hne : ¬ Xy = Xx) : gsMv l yX4_addWed cX4_addWed 3 ({ frames := 0, cells := 0, slots := 0, locals := 0 } : Room) G cy sK sV (shX cy ad) cnX ad sz [.ref (ad 25 z.toNatClampNeg), .int x, .int y] st (fun (u : gS) => gBN bX kX [2900] st u ∧ ((∃ k1 k2 : Int32, k1 = st 29 z.toNatClampNeg x.toNatClampNeg ||| ((1 : Int32) <<< (y &&& 31)) ∧ k2 = st 29 z.toNatClampNeg y.toNatClampNeg ||| ((1 : Int32) <<< (x &&& 31)) ∧ u 29 z.toNatClampNeg = upd (upd (st 29 z.toNatClampNeg) x.toNatClampNeg k1) y.toNatClampNeg k2) ∧ (lO z.toNatClampNeg st u))) := by
  refine gs_start (fun A => gsQv G (shX cy ad) cnX ad _ A) (by decide) (Nat.le_of_ble_eq_true rfl) ?_
  intro p e s m below meth c A ls H hx hb hr hml hlocks hown hts hK hov hE hI hM hm hS hA hl
  have hl : lv_has ls 3 [(0, .ref (ad 25 z.toNatClampNeg)), (1, .int x), (2, .int y)] := hl
  have hB_st : gBN bX kX [2900] st st := gBN.rf hB
  refine lv_aload_n hx hb dX4_addWed_0 rfl (lv_at hl 0 rfl) ?_
  refine gs_get (C := RX4) (T := TX4) (N := 14) hx hb hts inX4 hown hK hM 25 z.toNatClampNeg 3 (gs_sel hz_z) rfl rfl (by decide) (hts _ gm_193) (fun _ h9 => h9) rfl dX4_addWed_1 ?_
  refine lv_iload_n hx hb dX4_addWed_4 rfl (lv_at hl 1 rfl) ?_
  refine lv_dup2_11 hx hb dX4_addWed_5 rfl rfl ?_
  refine gs_iald hx hb hK hM 29 z.toNatClampNeg (gs_sel hz_z) rfl (vp_in_iff.mpr ⟨by omega, by omega⟩) dX4_addWed_6 ?_
  refine lv_topi (fun x_1 ex_1 => ?_)
  have qx_1 : x_1.toInt = (st 29 z.toNatClampNeg (x.toNatClampNeg)).toInt := congrArg Int32.toInt ex_1
  refine lv_iconst (v := 1) hx hb dX4_addWed_7 (by decide) ?_
  refine lv_iload_n hx hb dX4_addWed_8 rfl (lv_at hl 2 rfl) ?_
  refine lv_ishl hx hb dX4_addWed_9 ?_
  refine lv_topi (fun x_2 ex_2 => ?_)
  refine lv_ior hx hb dX4_addWed_10 ?_
  refine lv_topi (fun x_3 ex_3 => ?_)
  refine gs_iast hx hb hK hI hm hM hS 29 z.toNatClampNeg (gs_sel hz_z) (fun _ => rfl) (vp_in_iff.mpr ⟨by omega, by omega⟩) dX4_addWed_11 (fun st_4 H locs est_4 hM hS => ?_)
  have hB_st_4 : gBN bX kX [2900] st st_4 := by rw [est_4]; exact hB_st.up (show (2900 : Nat) ∈ _ from by decide) (gi_lo _) (gi_hi _)
  refine lv_aload_n hx hb dX4_addWed_12 rfl (lv_at hl 0 rfl) ?_
  refine gs_get (C := RX4) (T := TX4) (N := 14) hx hb hts inX4 hown hK hM 25 z.toNatClampNeg 3 (gs_sel hz_z) rfl rfl (by decide) (hts _ gm_193) (fun _ h9 => h9) rfl dX4_addWed_13 ?_
  refine lv_iload_n hx hb dX4_addWed_16 rfl (lv_at hl 2 rfl) ?_
  refine lv_dup2_11 hx hb dX4_addWed_17 rfl rfl ?_
  refine gs_iald hx hb hK hM 29 z.toNatClampNeg (gs_sel hz_z) rfl (vp_in_iff.mpr ⟨by omega, by omega⟩) dX4_addWed_18 ?_
  refine lv_topi (fun x_5 ex_5 => ?_)
  have qx_5 : x_5.toInt = (st_4 29 z.toNatClampNeg (y.toNatClampNeg)).toInt := congrArg Int32.toInt ex_5
  refine lv_iconst (v := 1) hx hb dX4_addWed_19 (by decide) ?_
  refine lv_iload_n hx hb dX4_addWed_20 rfl (lv_at hl 1 rfl) ?_
  refine lv_ishl hx hb dX4_addWed_21 ?_
  refine lv_topi (fun x_6 ex_6 => ?_)
  refine lv_ior hx hb dX4_addWed_22 ?_
  refine lv_topi (fun x_7 ex_7 => ?_)
  refine gs_iast hx hb hK hI hm hM hS 29 z.toNatClampNeg (gs_sel hz_z) (fun _ => rfl) (vp_in_iff.mpr ⟨by omega, by omega⟩) dX4_addWed_23 (fun st_8 H locs est_8 hM hS => ?_)
  have hB_st_8 : gBN bX kX [2900] st st_8 := by rw [est_8]; exact hB_st_4.up (show (2900 : Nat) ∈ _ from by decide) (gi_lo _) (gi_hi _)
  exact gs_vret hx hb hr hlocks hM hS ⟨hB_st_8, ⟨x_3, x_7, (by rw [ex_3, ex_1, ex_2]), (by rw [ex_7, ex_5, ex_6, est_4, gU_other (fun h9 => hne (by have h8 := gs_cl (x := x) (by omega); have h7 := gs_cl (x := y) (by omega); omega))]), ((congrFun (congrFun est_8 29) z.toNatClampNeg).trans ((gU_at _ _ _ _ _).trans (congrArg (fun f9 => upd f9 (y.toNatClampNeg) (x_7 : Int32)) ((congrFun (congrFun est_4 29) z.toNatClampNeg).trans ((gU_at _ _ _ _ _).trans (congrArg (fun f9 => upd f9 (x.toNatClampNeg) (x_3 : Int32)) rfl))))))⟩, (by rw [est_8]; exact lO.up (by rw [est_4]; exact lO.up lO.rf (by first | rfl | (rw [if_pos rfl]; omega))) (by first | rfl | (rw [if_pos rfl]; omega)))⟩ (by exact Nat.le_refl _) (by exact Nat.le_refl _) dX4_addWed_24

set_option maxHeartbeats 4000000 in
set_option maxRecDepth 100000 in
/-- WellCourt$Law.addDry -/
theorem s_X4_addDry (l : Launch) (G : va_G) (cy : Nat → ClassId) (sK sV : Nat → Nat) (ad : Nat → Nat → Nat) (sz : Nat) (st : gS) (hB : gBd bX st) (z : Int32) (x : Int32) (y : Int32) (Xx : Int) (Xy : Int) (kx : x.toInt = Xx) (ky : y.toInt = Xy) (hz_z : (0 : Int) ≤ z.toInt ∧ z.toInt ≤ (1 : Int)) (hy0 : 0 ≤ Xy) (hy1 : Xy < 6) : gsMv l yX4_addDry cX4_addDry 3 ({ frames := 0, cells := 0, slots := 0, locals := 0 } : Room) G cy sK sV (shX cy ad) cnX ad sz [.ref (ad 25 z.toNatClampNeg), .int x, .int y] st (fun (u : gS) => gBN bX kX [3000] st u ∧ ((∃ k1 : Int32, k1 = st 30 z.toNatClampNeg y.toNatClampNeg ||| ((1 : Int32) <<< (x &&& 31)) ∧ u 30 z.toNatClampNeg = upd (st 30 z.toNatClampNeg) y.toNatClampNeg k1) ∧ (lO z.toNatClampNeg st u))) := by
  refine gs_start (fun A => gsQv G (shX cy ad) cnX ad _ A) (by decide) (Nat.le_of_ble_eq_true rfl) ?_
  intro p e s m below meth c A ls H hx hb hr hml hlocks hown hts hK hov hE hI hM hm hS hA hl
  have hl : lv_has ls 3 [(0, .ref (ad 25 z.toNatClampNeg)), (1, .int x), (2, .int y)] := hl
  have hB_st : gBN bX kX [3000] st st := gBN.rf hB
  refine lv_aload_n hx hb dX4_addDry_0 rfl (lv_at hl 0 rfl) ?_
  refine gs_get (C := RX4) (T := TX4) (N := 14) hx hb hts inX4 hown hK hM 25 z.toNatClampNeg 4 (gs_sel hz_z) rfl rfl (by decide) (hts _ gm_194) (fun _ h9 => h9) rfl dX4_addDry_1 ?_
  refine lv_iload_n hx hb dX4_addDry_4 rfl (lv_at hl 2 rfl) ?_
  refine lv_dup2_11 hx hb dX4_addDry_5 rfl rfl ?_
  refine gs_iald hx hb hK hM 30 z.toNatClampNeg (gs_sel hz_z) rfl (vp_in_iff.mpr ⟨by omega, by omega⟩) dX4_addDry_6 ?_
  refine lv_topi (fun x_1 ex_1 => ?_)
  have qx_1 : x_1.toInt = (st 30 z.toNatClampNeg (y.toNatClampNeg)).toInt := congrArg Int32.toInt ex_1
  refine lv_iconst (v := 1) hx hb dX4_addDry_7 (by decide) ?_
  refine lv_iload_n hx hb dX4_addDry_8 rfl (lv_at hl 1 rfl) ?_
  refine lv_ishl hx hb dX4_addDry_9 ?_
  refine lv_topi (fun x_2 ex_2 => ?_)
  refine lv_ior hx hb dX4_addDry_10 ?_
  refine lv_topi (fun x_3 ex_3 => ?_)
  refine gs_iast hx hb hK hI hm hM hS 30 z.toNatClampNeg (gs_sel hz_z) (fun _ => rfl) (vp_in_iff.mpr ⟨by omega, by omega⟩) dX4_addDry_11 (fun st_4 H locs est_4 hM hS => ?_)
  have hB_st_4 : gBN bX kX [3000] st st_4 := by rw [est_4]; exact hB_st.up (show (3000 : Nat) ∈ _ from by decide) (gi_lo _) (gi_hi _)
  exact gs_vret hx hb hr hlocks hM hS ⟨hB_st_4, ⟨x_3, (by rw [ex_3, ex_1, ex_2]), ((congrFun (congrFun est_4 30) z.toNatClampNeg).trans ((gU_at _ _ _ _ _).trans (congrArg (fun f9 => upd f9 (y.toNatClampNeg) (x_3 : Int32)) rfl)))⟩, (by rw [est_4]; exact lO.up lO.rf (by first | rfl | (rw [if_pos rfl]; omega)))⟩ (by exact Nat.le_refl _) (by exact Nat.le_refl _) dX4_addDry_12

set_option maxHeartbeats 4000000 in
set_option maxRecDepth 100000 in
/-- WellCourt$Law.addDrought -/
theorem s_X4_addDrought (l : Launch) (G : va_G) (cy : Nat → ClassId) (sK sV : Nat → Nat) (ad : Nat → Nat → Nat) (sz : Nat) (st : gS) (hB : gBd bX st) (z : Int32) (x : Int32) (y : Int32) (w : Int32) (Xx : Int) (Xy : Int) (Xw : Int) (kx : x.toInt = Xx) (ky : y.toInt = Xy) (kw : w.toInt = Xw) (hz_z : (0 : Int) ≤ z.toInt ∧ z.toInt ≤ (1 : Int)) (hct : (st 25 z.toNatClampNeg 5).toInt < 20) : gsMv l yX4_addDrought cX4_addDrought 4 ({ frames := 0, cells := 0, slots := 0, locals := 0 } : Room) G cy sK sV (shX cy ad) cnX ad sz [.ref (ad 25 z.toNatClampNeg), .int x, .int y, .int w] st (fun (u : gS) => gBN bX kX [2505, 3100, 3200, 3300] st u ∧ (((u 25 z.toNatClampNeg 5).toInt = (st 25 z.toNatClampNeg 5).toInt + 1) ∧ (u 31 z.toNatClampNeg = upd (st 31 z.toNatClampNeg) (st 25 z.toNatClampNeg 5).toNatClampNeg x) ∧ (u 32 z.toNatClampNeg = upd (st 32 z.toNatClampNeg) (st 25 z.toNatClampNeg 5).toNatClampNeg y) ∧ (u 33 z.toNatClampNeg = upd (st 33 z.toNatClampNeg) (st 25 z.toNatClampNeg 5).toNatClampNeg w) ∧ (lO z.toNatClampNeg st u))) := by
  refine gs_start (fun A => gsQv G (shX cy ad) cnX ad _ A) (by decide) (Nat.le_of_ble_eq_true rfl) ?_
  intro p e s m below meth c A ls H hx hb hr hml hlocks hown hts hK hov hE hI hM hm hS hA hl
  have hl : lv_has ls 4 [(0, .ref (ad 25 z.toNatClampNeg)), (1, .int x), (2, .int y), (3, .int w)] := hl
  have hB_st : gBN bX kX [2505, 3100, 3200, 3300] st st := gBN.rf hB
  refine lv_aload_n hx hb dX4_addDrought_0 rfl (lv_at hl 0 rfl) ?_
  refine gs_get (C := RX4) (T := TX4) (N := 14) hx hb hts inX4 hown hK hM 25 z.toNatClampNeg 5 (gs_sel hz_z) rfl rfl (by decide) (hts _ gm_195) (fun _ h9 => h9) rfl dX4_addDrought_1 ?_
  have bf_1 : (0 : Int) ≤ (st 25 z.toNatClampNeg 5).toInt ∧ (st 25 z.toNatClampNeg 5).toInt ≤ (20 : Int) := hB_st.1 25 z.toNatClampNeg 5
  refine lv_bipush (v := 20) hx hb dX4_addDrought_4 (by decide) ?_
  refine lv_icmp_ge (tgt := 49) hx hb dX4_addDrought_6 (by decide) (fun c_2 => ?_) (fun c_2 => ?_)
  · have ic_2 := gz_le (by decide : (20 : Int32).toInt = 20) (rfl : (st 25 z.toNatClampNeg 5).toInt = (st 25 z.toNatClampNeg 5).toInt) c_2
    exact gs_vret hx hb hr hlocks hM hS ⟨hB_st, (by exfalso; omega)⟩ (by exact Nat.le_refl _) (by exact Nat.le_refl _) dX4_addDrought_49
  · have ic_2 := gz_nle (by decide : (20 : Int32).toInt = 20) (rfl : (st 25 z.toNatClampNeg 5).toInt = (st 25 z.toNatClampNeg 5).toInt) c_2
    refine lv_aload_n hx hb dX4_addDrought_9 rfl (lv_at hl 0 rfl) ?_
    refine gs_get (C := RX4) (T := TX4) (N := 14) hx hb hts inX4 hown hK hM 25 z.toNatClampNeg 6 (gs_sel hz_z) rfl rfl (by decide) (hts _ gm_196) (fun _ h9 => h9) rfl dX4_addDrought_10 ?_
    refine lv_aload_n hx hb dX4_addDrought_13 rfl (lv_at hl 0 rfl) ?_
    refine gs_get (C := RX4) (T := TX4) (N := 14) hx hb hts inX4 hown hK hM 25 z.toNatClampNeg 5 (gs_sel hz_z) rfl rfl (by decide) (hts _ gm_195) (fun _ h9 => h9) rfl dX4_addDrought_14 ?_
    have bf_3 : (0 : Int) ≤ (st 25 z.toNatClampNeg 5).toInt ∧ (st 25 z.toNatClampNeg 5).toInt ≤ (20 : Int) := hB_st.1 25 z.toNatClampNeg 5
    refine lv_iload_n hx hb dX4_addDrought_17 rfl (lv_at hl 1 rfl) ?_
    refine gs_iast hx hb hK hI hm hM hS 31 z.toNatClampNeg (gs_sel hz_z) (fun _ => rfl) (vp_in_iff.mpr ⟨by omega, by omega⟩) dX4_addDrought_18 (fun st_4 H locs est_4 hM hS => ?_)
    have hB_st_4 : gBN bX kX [2505, 3100, 3200, 3300] st st_4 := by rw [est_4]; exact hB_st.up (show (3100 : Nat) ∈ _ from by decide) (gi_lo _) (gi_hi _)
    refine lv_aload_n hx hb dX4_addDrought_19 rfl (lv_at hl 0 rfl) ?_
    refine gs_get (C := RX4) (T := TX4) (N := 14) hx hb hts inX4 hown hK hM 25 z.toNatClampNeg 7 (gs_sel hz_z) rfl rfl (by decide) (hts _ gm_197) (fun _ h9 => h9) rfl dX4_addDrought_20 ?_
    refine lv_aload_n hx hb dX4_addDrought_23 rfl (lv_at hl 0 rfl) ?_
    refine gs_get (C := RX4) (T := TX4) (N := 14) hx hb hts inX4 hown hK hM 25 z.toNatClampNeg 5 (gs_sel hz_z) rfl rfl (by decide) (hts _ gm_195) (fun _ h9 => h9) rfl dX4_addDrought_24 ?_
    refine lv_topi (fun x_5 ex_5 => ?_)
    have ex_5 : (st 25 z.toNatClampNeg 5) = x_5 := Eq.symm (ex_5.trans ((congrFun (congrFun (congrFun est_4 25) z.toNatClampNeg) 5).trans (congrFun (congrFun (gU_k (by decide)) z.toNatClampNeg) 5)))
    subst ex_5
    have bf_6 : (0 : Int) ≤ (st 25 z.toNatClampNeg 5).toInt ∧ (st 25 z.toNatClampNeg 5).toInt ≤ (20 : Int) := hB_st.1 25 z.toNatClampNeg 5
    refine lv_iload_n hx hb dX4_addDrought_27 rfl (lv_at hl 2 rfl) ?_
    refine gs_iast hx hb hK hI hm hM hS 32 z.toNatClampNeg (gs_sel hz_z) (fun _ => rfl) (vp_in_iff.mpr ⟨by omega, by omega⟩) dX4_addDrought_28 (fun st_7 H locs est_7 hM hS => ?_)
    have hB_st_7 : gBN bX kX [2505, 3100, 3200, 3300] st st_7 := by rw [est_7]; exact hB_st_4.up (show (3200 : Nat) ∈ _ from by decide) (gi_lo _) (gi_hi _)
    refine lv_aload_n hx hb dX4_addDrought_29 rfl (lv_at hl 0 rfl) ?_
    refine gs_get (C := RX4) (T := TX4) (N := 14) hx hb hts inX4 hown hK hM 25 z.toNatClampNeg 8 (gs_sel hz_z) rfl rfl (by decide) (hts _ gm_198) (fun _ h9 => h9) rfl dX4_addDrought_30 ?_
    refine lv_aload_n hx hb dX4_addDrought_33 rfl (lv_at hl 0 rfl) ?_
    refine gs_get (C := RX4) (T := TX4) (N := 14) hx hb hts inX4 hown hK hM 25 z.toNatClampNeg 5 (gs_sel hz_z) rfl rfl (by decide) (hts _ gm_195) (fun _ h9 => h9) rfl dX4_addDrought_34 ?_
    refine lv_topi (fun x_8 ex_8 => ?_)
    have ex_8 : (st 25 z.toNatClampNeg 5) = x_8 := Eq.symm (ex_8.trans (((congrFun (congrFun (congrFun est_7 25) z.toNatClampNeg) 5).trans (congrFun (congrFun (gU_k (by decide)) z.toNatClampNeg) 5)).trans ((congrFun (congrFun (congrFun est_4 25) z.toNatClampNeg) 5).trans (congrFun (congrFun (gU_k (by decide)) z.toNatClampNeg) 5))))
    subst ex_8
    have bf_9 : (0 : Int) ≤ (st 25 z.toNatClampNeg 5).toInt ∧ (st 25 z.toNatClampNeg 5).toInt ≤ (20 : Int) := hB_st.1 25 z.toNatClampNeg 5
    refine lv_iload_n hx hb dX4_addDrought_37 rfl (lv_at hl 3 rfl) ?_
    refine gs_iast hx hb hK hI hm hM hS 33 z.toNatClampNeg (gs_sel hz_z) (fun _ => rfl) (vp_in_iff.mpr ⟨by omega, by omega⟩) dX4_addDrought_38 (fun st_10 H locs est_10 hM hS => ?_)
    have hB_st_10 : gBN bX kX [2505, 3100, 3200, 3300] st st_10 := by rw [est_10]; exact hB_st_7.up (show (3300 : Nat) ∈ _ from by decide) (gi_lo _) (gi_hi _)
    refine lv_aload_n hx hb dX4_addDrought_39 rfl (lv_at hl 0 rfl) ?_
    refine lv_dup hx hb dX4_addDrought_40 rfl ?_
    refine gs_get (C := RX4) (T := TX4) (N := 14) hx hb hts inX4 hown hK hM 25 z.toNatClampNeg 5 (gs_sel hz_z) rfl rfl (by decide) (hts _ gm_195) (fun _ h9 => h9) rfl dX4_addDrought_41 ?_
    refine lv_topi (fun x_11 ex_11 => ?_)
    have ex_11 : (st 25 z.toNatClampNeg 5) = x_11 := Eq.symm (ex_11.trans (((congrFun (congrFun (congrFun est_10 25) z.toNatClampNeg) 5).trans (congrFun (congrFun (gU_k (by decide)) z.toNatClampNeg) 5)).trans (((congrFun (congrFun (congrFun est_7 25) z.toNatClampNeg) 5).trans (congrFun (congrFun (gU_k (by decide)) z.toNatClampNeg) 5)).trans ((congrFun (congrFun (congrFun est_4 25) z.toNatClampNeg) 5).trans (congrFun (congrFun (gU_k (by decide)) z.toNatClampNeg) 5)))))
    subst ex_11
    have bf_12 : (0 : Int) ≤ (st 25 z.toNatClampNeg 5).toInt ∧ (st 25 z.toNatClampNeg 5).toInt ≤ (20 : Int) := hB_st.1 25 z.toNatClampNeg 5
    refine lv_iconst (v := 1) hx hb dX4_addDrought_44 (by decide) ?_
    refine lv_iadd hx hb dX4_addDrought_45 ?_
    refine lv_topi (fun x_13 ex_13 => ?_)
    try have tx_13 : x_13.toInt = (st 25 z.toNatClampNeg 5).toInt + 1 := by rw [ex_13]; exact gz_addP (x := (st 25 z.toNatClampNeg 5).toInt) (y := 1) rfl (by decide) (by omega) (by omega)
    refine gs_put (C := RX4) (T := TX4) (N := 14) (ty := .int) (val := .int x_13) hx hb hts inX4 tyX4 tyX4_ok nmX4 hown hK hI hm hM hS 25 z.toNatClampNeg 5 (gs_sel hz_z) rfl rfl (by decide) (hts _ gm_195) (fun _ h9 => h9) rfl (x_13 : Int32) rfl (by decide +kernel) rfl rfl (Nat.le_of_ble_eq_true rfl) dX4_addDrought_46 (fun st_14 H locs est_14 hM hS => ?_)
    have hB_st_14 : gBN bX kX [2505, 3100, 3200, 3300] st st_14 := by rw [est_14]; exact hB_st_10.up (show (2505 : Nat) ∈ _ from by decide) (show (0 : Int) ≤ x_13.toInt from by omega) (show x_13.toInt ≤ (20 : Int) from by omega)
    exact gs_vret hx hb hr hlocks hM hS ⟨hB_st_14, (by have hq0 : (st_14 25 z.toNatClampNeg 5).toInt = (x_13 : Int32).toInt := congrArg Int32.toInt (((congrFun (congrFun (congrFun est_14 25) z.toNatClampNeg) 5).trans (gU_same _ _ _ _ _))); have hb1 : (0 : Int) ≤ (st_14 25 z.toNatClampNeg 5).toInt ∧ (st_14 25 z.toNatClampNeg 5).toInt ≤ (20 : Int) := hB_st_14.1 25 z.toNatClampNeg 5; have hb2 : (0 : Int) ≤ (st 25 z.toNatClampNeg 5).toInt ∧ (st 25 z.toNatClampNeg 5).toInt ≤ (20 : Int) := hB_st.1 25 z.toNatClampNeg 5; omega), (((congrFun (congrFun est_14 31) z.toNatClampNeg).trans ((congrFun (gU_k (by decide)) z.toNatClampNeg).trans ((congrFun (congrFun est_10 31) z.toNatClampNeg).trans ((congrFun (gU_k (by decide)) z.toNatClampNeg).trans ((congrFun (congrFun est_7 31) z.toNatClampNeg).trans ((congrFun (gU_k (by decide)) z.toNatClampNeg).trans ((congrFun (congrFun est_4 31) z.toNatClampNeg).trans ((gU_at _ _ _ _ _).trans (congrArg (fun f9 => upd f9 ((st 25 z.toNatClampNeg 5).toNatClampNeg) (x : Int32)) rfl)))))))))), (((congrFun (congrFun est_14 32) z.toNatClampNeg).trans ((congrFun (gU_k (by decide)) z.toNatClampNeg).trans ((congrFun (congrFun est_10 32) z.toNatClampNeg).trans ((congrFun (gU_k (by decide)) z.toNatClampNeg).trans ((congrFun (congrFun est_7 32) z.toNatClampNeg).trans ((gU_at _ _ _ _ _).trans (congrArg (fun f9 => upd f9 ((st 25 z.toNatClampNeg 5).toNatClampNeg) (y : Int32)) ((congrFun (congrFun est_4 32) z.toNatClampNeg).trans ((congrFun (gU_k (by decide)) z.toNatClampNeg).trans rfl)))))))))), (((congrFun (congrFun est_14 33) z.toNatClampNeg).trans ((congrFun (gU_k (by decide)) z.toNatClampNeg).trans ((congrFun (congrFun est_10 33) z.toNatClampNeg).trans ((gU_at _ _ _ _ _).trans (congrArg (fun f9 => upd f9 ((st 25 z.toNatClampNeg 5).toNatClampNeg) (w : Int32)) ((congrFun (congrFun est_7 33) z.toNatClampNeg).trans ((congrFun (gU_k (by decide)) z.toNatClampNeg).trans ((congrFun (congrFun est_4 33) z.toNatClampNeg).trans ((congrFun (gU_k (by decide)) z.toNatClampNeg).trans rfl)))))))))), (by rw [est_14]; exact lO.up (by rw [est_10]; exact lO.up (by rw [est_7]; exact lO.up (by rw [est_4]; exact lO.up lO.rf (by first | rfl | (rw [if_pos rfl]; omega))) (by first | rfl | (rw [if_pos rfl]; omega))) (by first | rfl | (rw [if_pos rfl]; omega))) (by first | rfl | (rw [if_pos rfl]; omega)))⟩ (by exact Nat.le_refl _) (by exact Nat.le_refl _) dX4_addDrought_49

set_option maxHeartbeats 4000000 in
set_option maxRecDepth 100000 in
/-- WellCourt$Law.addGuest -/
theorem s_X4_addGuest (l : Launch) (G : va_G) (cy : Nat → ClassId) (sK sV : Nat → Nat) (ad : Nat → Nat → Nat) (sz : Nat) (st : gS) (hB : gBd bX st) (z : Int32) (x : Int32) (y : Int32) (w : Int32) (v : Int32) (Xx : Int) (Xy : Int) (Xw : Int) (Xv : Int) (kx : x.toInt = Xx) (ky : y.toInt = Xy) (kw : w.toInt = Xw) (kv : v.toInt = Xv) (hz_z : (0 : Int) ≤ z.toInt ∧ z.toInt ≤ (1 : Int)) (hct : (st 25 z.toNatClampNeg 9).toInt < 20) : gsMv l yX4_addGuest cX4_addGuest 5 ({ frames := 0, cells := 0, slots := 0, locals := 0 } : Room) G cy sK sV (shX cy ad) cnX ad sz [.ref (ad 25 z.toNatClampNeg), .int x, .int y, .int w, .int v] st (fun (u : gS) => gBN bX kX [2509, 3400, 3500, 3600, 3700] st u ∧ (((u 25 z.toNatClampNeg 9).toInt = (st 25 z.toNatClampNeg 9).toInt + 1) ∧ (u 34 z.toNatClampNeg = upd (st 34 z.toNatClampNeg) (st 25 z.toNatClampNeg 9).toNatClampNeg x) ∧ (u 35 z.toNatClampNeg = upd (st 35 z.toNatClampNeg) (st 25 z.toNatClampNeg 9).toNatClampNeg y) ∧ (u 36 z.toNatClampNeg = upd (st 36 z.toNatClampNeg) (st 25 z.toNatClampNeg 9).toNatClampNeg w) ∧ (u 37 z.toNatClampNeg = upd (st 37 z.toNatClampNeg) (st 25 z.toNatClampNeg 9).toNatClampNeg v) ∧ (lO z.toNatClampNeg st u))) := by
  refine gs_start (fun A => gsQv G (shX cy ad) cnX ad _ A) (by decide) (Nat.le_of_ble_eq_true rfl) ?_
  intro p e s m below meth c A ls H hx hb hr hml hlocks hown hts hK hov hE hI hM hm hS hA hl
  have hl : lv_has ls 5 [(0, .ref (ad 25 z.toNatClampNeg)), (1, .int x), (2, .int y), (3, .int w), (4, .int v)] := hl
  have hB_st : gBN bX kX [2509, 3400, 3500, 3600, 3700] st st := gBN.rf hB
  refine lv_aload_n hx hb dX4_addGuest_0 rfl (lv_at hl 0 rfl) ?_
  refine gs_get (C := RX4) (T := TX4) (N := 14) hx hb hts inX4 hown hK hM 25 z.toNatClampNeg 9 (gs_sel hz_z) rfl rfl (by decide) (hts _ gm_199) (fun _ h9 => h9) rfl dX4_addGuest_1 ?_
  have bf_1 : (0 : Int) ≤ (st 25 z.toNatClampNeg 9).toInt ∧ (st 25 z.toNatClampNeg 9).toInt ≤ (20 : Int) := hB_st.1 25 z.toNatClampNeg 9
  refine lv_bipush (v := 20) hx hb dX4_addGuest_4 (by decide) ?_
  refine lv_icmp_ge (tgt := 60) hx hb dX4_addGuest_6 (by decide) (fun c_2 => ?_) (fun c_2 => ?_)
  · have ic_2 := gz_le (by decide : (20 : Int32).toInt = 20) (rfl : (st 25 z.toNatClampNeg 9).toInt = (st 25 z.toNatClampNeg 9).toInt) c_2
    exact gs_vret hx hb hr hlocks hM hS ⟨hB_st, (by exfalso; omega)⟩ (by exact Nat.le_refl _) (by exact Nat.le_refl _) dX4_addGuest_60
  · have ic_2 := gz_nle (by decide : (20 : Int32).toInt = 20) (rfl : (st 25 z.toNatClampNeg 9).toInt = (st 25 z.toNatClampNeg 9).toInt) c_2
    refine lv_aload_n hx hb dX4_addGuest_9 rfl (lv_at hl 0 rfl) ?_
    refine gs_get (C := RX4) (T := TX4) (N := 14) hx hb hts inX4 hown hK hM 25 z.toNatClampNeg 10 (gs_sel hz_z) rfl rfl (by decide) (hts _ gm_200) (fun _ h9 => h9) rfl dX4_addGuest_10 ?_
    refine lv_aload_n hx hb dX4_addGuest_13 rfl (lv_at hl 0 rfl) ?_
    refine gs_get (C := RX4) (T := TX4) (N := 14) hx hb hts inX4 hown hK hM 25 z.toNatClampNeg 9 (gs_sel hz_z) rfl rfl (by decide) (hts _ gm_199) (fun _ h9 => h9) rfl dX4_addGuest_14 ?_
    have bf_3 : (0 : Int) ≤ (st 25 z.toNatClampNeg 9).toInt ∧ (st 25 z.toNatClampNeg 9).toInt ≤ (20 : Int) := hB_st.1 25 z.toNatClampNeg 9
    refine lv_iload_n hx hb dX4_addGuest_17 rfl (lv_at hl 1 rfl) ?_
    refine gs_iast hx hb hK hI hm hM hS 34 z.toNatClampNeg (gs_sel hz_z) (fun _ => rfl) (vp_in_iff.mpr ⟨by omega, by omega⟩) dX4_addGuest_18 (fun st_4 H locs est_4 hM hS => ?_)
    have hB_st_4 : gBN bX kX [2509, 3400, 3500, 3600, 3700] st st_4 := by rw [est_4]; exact hB_st.up (show (3400 : Nat) ∈ _ from by decide) (gi_lo _) (gi_hi _)
    refine lv_aload_n hx hb dX4_addGuest_19 rfl (lv_at hl 0 rfl) ?_
    refine gs_get (C := RX4) (T := TX4) (N := 14) hx hb hts inX4 hown hK hM 25 z.toNatClampNeg 11 (gs_sel hz_z) rfl rfl (by decide) (hts _ gm_201) (fun _ h9 => h9) rfl dX4_addGuest_20 ?_
    refine lv_aload_n hx hb dX4_addGuest_23 rfl (lv_at hl 0 rfl) ?_
    refine gs_get (C := RX4) (T := TX4) (N := 14) hx hb hts inX4 hown hK hM 25 z.toNatClampNeg 9 (gs_sel hz_z) rfl rfl (by decide) (hts _ gm_199) (fun _ h9 => h9) rfl dX4_addGuest_24 ?_
    refine lv_topi (fun x_5 ex_5 => ?_)
    have ex_5 : (st 25 z.toNatClampNeg 9) = x_5 := Eq.symm (ex_5.trans ((congrFun (congrFun (congrFun est_4 25) z.toNatClampNeg) 9).trans (congrFun (congrFun (gU_k (by decide)) z.toNatClampNeg) 9)))
    subst ex_5
    have bf_6 : (0 : Int) ≤ (st 25 z.toNatClampNeg 9).toInt ∧ (st 25 z.toNatClampNeg 9).toInt ≤ (20 : Int) := hB_st.1 25 z.toNatClampNeg 9
    refine lv_iload_n hx hb dX4_addGuest_27 rfl (lv_at hl 2 rfl) ?_
    refine gs_iast hx hb hK hI hm hM hS 35 z.toNatClampNeg (gs_sel hz_z) (fun _ => rfl) (vp_in_iff.mpr ⟨by omega, by omega⟩) dX4_addGuest_28 (fun st_7 H locs est_7 hM hS => ?_)
    have hB_st_7 : gBN bX kX [2509, 3400, 3500, 3600, 3700] st st_7 := by rw [est_7]; exact hB_st_4.up (show (3500 : Nat) ∈ _ from by decide) (gi_lo _) (gi_hi _)
    refine lv_aload_n hx hb dX4_addGuest_29 rfl (lv_at hl 0 rfl) ?_
    refine gs_get (C := RX4) (T := TX4) (N := 14) hx hb hts inX4 hown hK hM 25 z.toNatClampNeg 12 (gs_sel hz_z) rfl rfl (by decide) (hts _ gm_202) (fun _ h9 => h9) rfl dX4_addGuest_30 ?_
    refine lv_aload_n hx hb dX4_addGuest_33 rfl (lv_at hl 0 rfl) ?_
    refine gs_get (C := RX4) (T := TX4) (N := 14) hx hb hts inX4 hown hK hM 25 z.toNatClampNeg 9 (gs_sel hz_z) rfl rfl (by decide) (hts _ gm_199) (fun _ h9 => h9) rfl dX4_addGuest_34 ?_
    refine lv_topi (fun x_8 ex_8 => ?_)
    have ex_8 : (st 25 z.toNatClampNeg 9) = x_8 := Eq.symm (ex_8.trans (((congrFun (congrFun (congrFun est_7 25) z.toNatClampNeg) 9).trans (congrFun (congrFun (gU_k (by decide)) z.toNatClampNeg) 9)).trans ((congrFun (congrFun (congrFun est_4 25) z.toNatClampNeg) 9).trans (congrFun (congrFun (gU_k (by decide)) z.toNatClampNeg) 9))))
    subst ex_8
    have bf_9 : (0 : Int) ≤ (st 25 z.toNatClampNeg 9).toInt ∧ (st 25 z.toNatClampNeg 9).toInt ≤ (20 : Int) := hB_st.1 25 z.toNatClampNeg 9
    refine lv_iload_n hx hb dX4_addGuest_37 rfl (lv_at hl 3 rfl) ?_
    refine gs_iast hx hb hK hI hm hM hS 36 z.toNatClampNeg (gs_sel hz_z) (fun _ => rfl) (vp_in_iff.mpr ⟨by omega, by omega⟩) dX4_addGuest_38 (fun st_10 H locs est_10 hM hS => ?_)
    have hB_st_10 : gBN bX kX [2509, 3400, 3500, 3600, 3700] st st_10 := by rw [est_10]; exact hB_st_7.up (show (3600 : Nat) ∈ _ from by decide) (gi_lo _) (gi_hi _)
    refine lv_aload_n hx hb dX4_addGuest_39 rfl (lv_at hl 0 rfl) ?_
    refine gs_get (C := RX4) (T := TX4) (N := 14) hx hb hts inX4 hown hK hM 25 z.toNatClampNeg 13 (gs_sel hz_z) rfl rfl (by decide) (hts _ gm_203) (fun _ h9 => h9) rfl dX4_addGuest_40 ?_
    refine lv_aload_n hx hb dX4_addGuest_43 rfl (lv_at hl 0 rfl) ?_
    refine gs_get (C := RX4) (T := TX4) (N := 14) hx hb hts inX4 hown hK hM 25 z.toNatClampNeg 9 (gs_sel hz_z) rfl rfl (by decide) (hts _ gm_199) (fun _ h9 => h9) rfl dX4_addGuest_44 ?_
    refine lv_topi (fun x_11 ex_11 => ?_)
    have ex_11 : (st 25 z.toNatClampNeg 9) = x_11 := Eq.symm (ex_11.trans (((congrFun (congrFun (congrFun est_10 25) z.toNatClampNeg) 9).trans (congrFun (congrFun (gU_k (by decide)) z.toNatClampNeg) 9)).trans (((congrFun (congrFun (congrFun est_7 25) z.toNatClampNeg) 9).trans (congrFun (congrFun (gU_k (by decide)) z.toNatClampNeg) 9)).trans ((congrFun (congrFun (congrFun est_4 25) z.toNatClampNeg) 9).trans (congrFun (congrFun (gU_k (by decide)) z.toNatClampNeg) 9)))))
    subst ex_11
    have bf_12 : (0 : Int) ≤ (st 25 z.toNatClampNeg 9).toInt ∧ (st 25 z.toNatClampNeg 9).toInt ≤ (20 : Int) := hB_st.1 25 z.toNatClampNeg 9
    refine lv_iload hx hb dX4_addGuest_47 (lv_at hl 4 rfl) ?_
    refine gs_iast hx hb hK hI hm hM hS 37 z.toNatClampNeg (gs_sel hz_z) (fun _ => rfl) (vp_in_iff.mpr ⟨by omega, by omega⟩) dX4_addGuest_49 (fun st_13 H locs est_13 hM hS => ?_)
    have hB_st_13 : gBN bX kX [2509, 3400, 3500, 3600, 3700] st st_13 := by rw [est_13]; exact hB_st_10.up (show (3700 : Nat) ∈ _ from by decide) (gi_lo _) (gi_hi _)
    refine lv_aload_n hx hb dX4_addGuest_50 rfl (lv_at hl 0 rfl) ?_
    refine lv_dup hx hb dX4_addGuest_51 rfl ?_
    refine gs_get (C := RX4) (T := TX4) (N := 14) hx hb hts inX4 hown hK hM 25 z.toNatClampNeg 9 (gs_sel hz_z) rfl rfl (by decide) (hts _ gm_199) (fun _ h9 => h9) rfl dX4_addGuest_52 ?_
    refine lv_topi (fun x_14 ex_14 => ?_)
    have ex_14 : (st 25 z.toNatClampNeg 9) = x_14 := Eq.symm (ex_14.trans (((congrFun (congrFun (congrFun est_13 25) z.toNatClampNeg) 9).trans (congrFun (congrFun (gU_k (by decide)) z.toNatClampNeg) 9)).trans (((congrFun (congrFun (congrFun est_10 25) z.toNatClampNeg) 9).trans (congrFun (congrFun (gU_k (by decide)) z.toNatClampNeg) 9)).trans (((congrFun (congrFun (congrFun est_7 25) z.toNatClampNeg) 9).trans (congrFun (congrFun (gU_k (by decide)) z.toNatClampNeg) 9)).trans ((congrFun (congrFun (congrFun est_4 25) z.toNatClampNeg) 9).trans (congrFun (congrFun (gU_k (by decide)) z.toNatClampNeg) 9))))))
    subst ex_14
    have bf_15 : (0 : Int) ≤ (st 25 z.toNatClampNeg 9).toInt ∧ (st 25 z.toNatClampNeg 9).toInt ≤ (20 : Int) := hB_st.1 25 z.toNatClampNeg 9
    refine lv_iconst (v := 1) hx hb dX4_addGuest_55 (by decide) ?_
    refine lv_iadd hx hb dX4_addGuest_56 ?_
    refine lv_topi (fun x_16 ex_16 => ?_)
    try have tx_16 : x_16.toInt = (st 25 z.toNatClampNeg 9).toInt + 1 := by rw [ex_16]; exact gz_addP (x := (st 25 z.toNatClampNeg 9).toInt) (y := 1) rfl (by decide) (by omega) (by omega)
    refine gs_put (C := RX4) (T := TX4) (N := 14) (ty := .int) (val := .int x_16) hx hb hts inX4 tyX4 tyX4_ok nmX4 hown hK hI hm hM hS 25 z.toNatClampNeg 9 (gs_sel hz_z) rfl rfl (by decide) (hts _ gm_199) (fun _ h9 => h9) rfl (x_16 : Int32) rfl (by decide +kernel) rfl rfl (Nat.le_of_ble_eq_true rfl) dX4_addGuest_57 (fun st_17 H locs est_17 hM hS => ?_)
    have hB_st_17 : gBN bX kX [2509, 3400, 3500, 3600, 3700] st st_17 := by rw [est_17]; exact hB_st_13.up (show (2509 : Nat) ∈ _ from by decide) (show (0 : Int) ≤ x_16.toInt from by omega) (show x_16.toInt ≤ (20 : Int) from by omega)
    exact gs_vret hx hb hr hlocks hM hS ⟨hB_st_17, (by have hq0 : (st_17 25 z.toNatClampNeg 9).toInt = (x_16 : Int32).toInt := congrArg Int32.toInt (((congrFun (congrFun (congrFun est_17 25) z.toNatClampNeg) 9).trans (gU_same _ _ _ _ _))); have hb1 : (0 : Int) ≤ (st_17 25 z.toNatClampNeg 9).toInt ∧ (st_17 25 z.toNatClampNeg 9).toInt ≤ (20 : Int) := hB_st_17.1 25 z.toNatClampNeg 9; have hb2 : (0 : Int) ≤ (st 25 z.toNatClampNeg 9).toInt ∧ (st 25 z.toNatClampNeg 9).toInt ≤ (20 : Int) := hB_st.1 25 z.toNatClampNeg 9; omega), (((congrFun (congrFun est_17 34) z.toNatClampNeg).trans ((congrFun (gU_k (by decide)) z.toNatClampNeg).trans ((congrFun (congrFun est_13 34) z.toNatClampNeg).trans ((congrFun (gU_k (by decide)) z.toNatClampNeg).trans ((congrFun (congrFun est_10 34) z.toNatClampNeg).trans ((congrFun (gU_k (by decide)) z.toNatClampNeg).trans ((congrFun (congrFun est_7 34) z.toNatClampNeg).trans ((congrFun (gU_k (by decide)) z.toNatClampNeg).trans ((congrFun (congrFun est_4 34) z.toNatClampNeg).trans ((gU_at _ _ _ _ _).trans (congrArg (fun f9 => upd f9 ((st 25 z.toNatClampNeg 9).toNatClampNeg) (x : Int32)) rfl)))))))))))), (((congrFun (congrFun est_17 35) z.toNatClampNeg).trans ((congrFun (gU_k (by decide)) z.toNatClampNeg).trans ((congrFun (congrFun est_13 35) z.toNatClampNeg).trans ((congrFun (gU_k (by decide)) z.toNatClampNeg).trans ((congrFun (congrFun est_10 35) z.toNatClampNeg).trans ((congrFun (gU_k (by decide)) z.toNatClampNeg).trans ((congrFun (congrFun est_7 35) z.toNatClampNeg).trans ((gU_at _ _ _ _ _).trans (congrArg (fun f9 => upd f9 ((st 25 z.toNatClampNeg 9).toNatClampNeg) (y : Int32)) ((congrFun (congrFun est_4 35) z.toNatClampNeg).trans ((congrFun (gU_k (by decide)) z.toNatClampNeg).trans rfl)))))))))))), (((congrFun (congrFun est_17 36) z.toNatClampNeg).trans ((congrFun (gU_k (by decide)) z.toNatClampNeg).trans ((congrFun (congrFun est_13 36) z.toNatClampNeg).trans ((congrFun (gU_k (by decide)) z.toNatClampNeg).trans ((congrFun (congrFun est_10 36) z.toNatClampNeg).trans ((gU_at _ _ _ _ _).trans (congrArg (fun f9 => upd f9 ((st 25 z.toNatClampNeg 9).toNatClampNeg) (w : Int32)) ((congrFun (congrFun est_7 36) z.toNatClampNeg).trans ((congrFun (gU_k (by decide)) z.toNatClampNeg).trans ((congrFun (congrFun est_4 36) z.toNatClampNeg).trans ((congrFun (gU_k (by decide)) z.toNatClampNeg).trans rfl)))))))))))), (((congrFun (congrFun est_17 37) z.toNatClampNeg).trans ((congrFun (gU_k (by decide)) z.toNatClampNeg).trans ((congrFun (congrFun est_13 37) z.toNatClampNeg).trans ((gU_at _ _ _ _ _).trans (congrArg (fun f9 => upd f9 ((st 25 z.toNatClampNeg 9).toNatClampNeg) (v : Int32)) ((congrFun (congrFun est_10 37) z.toNatClampNeg).trans ((congrFun (gU_k (by decide)) z.toNatClampNeg).trans ((congrFun (congrFun est_7 37) z.toNatClampNeg).trans ((congrFun (gU_k (by decide)) z.toNatClampNeg).trans ((congrFun (congrFun est_4 37) z.toNatClampNeg).trans ((congrFun (gU_k (by decide)) z.toNatClampNeg).trans rfl)))))))))))), (by rw [est_17]; exact lO.up (by rw [est_13]; exact lO.up (by rw [est_10]; exact lO.up (by rw [est_7]; exact lO.up (by rw [est_4]; exact lO.up lO.rf (by first | rfl | (rw [if_pos rfl]; omega))) (by first | rfl | (rw [if_pos rfl]; omega))) (by first | rfl | (rw [if_pos rfl]; omega))) (by first | rfl | (rw [if_pos rfl]; omega))) (by first | rfl | (rw [if_pos rfl]; omega)))⟩ (by exact Nat.le_refl _) (by exact Nat.le_refl _) dX4_addGuest_60
