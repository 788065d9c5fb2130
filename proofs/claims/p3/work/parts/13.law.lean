theorem gm_6 : (Jvm.Cond.initialized "java/util/Arrays") ∈ gz_T := gz_at 6 (by decide +kernel) rfl
theorem gm_107 : (Jvm.Cond.static ({ cls := "java/util/Arrays", name := "fill", desc := "([II)V" } : Jvm.MethodName)) ∈ gz_T := gz_at 107 (by decide +kernel) rfl
theorem gm_108 : (Jvm.Cond.code ({ cls := "java/util/Arrays", name := "fill", desc := "([II)V" } : Jvm.MethodName) prog_22_method_103_code (4 : Nat) (Option.none : Option Jvm.ClassFile.FieldType)) ∈ gz_T := gz_at 108 (by decide +kernel) rfl
theorem gm_188 : (Jvm.Cond.fieldLink "WellCourt$Law" (9 : Nat) "WellCourt$Law" "rules" "I") ∈ gz_T := gz_at 188 (by decide +kernel) rfl
theorem gm_191 : (Jvm.Cond.fieldLink "WellCourt$Law" (17 : Nat) "WellCourt$Law" "round" "[[I") ∈ gz_T := gz_at 191 (by decide +kernel) rfl
theorem gm_192 : (Jvm.Cond.fieldLink "WellCourt$Law" (20 : Nat) "WellCourt$Law" "roundDays" "[I") ∈ gz_T := gz_at 192 (by decide +kernel) rfl
theorem gm_193 : (Jvm.Cond.fieldLink "WellCourt$Law" (24 : Nat) "WellCourt$Law" "kin" "[I") ∈ gz_T := gz_at 193 (by decide +kernel) rfl
theorem gm_194 : (Jvm.Cond.fieldLink "WellCourt$Law" (27 : Nat) "WellCourt$Law" "dryFrom" "[I") ∈ gz_T := gz_at 194 (by decide +kernel) rfl
theorem gm_195 : (Jvm.Cond.fieldLink "WellCourt$Law" (30 : Nat) "WellCourt$Law" "droughts" "I") ∈ gz_T := gz_at 195 (by decide +kernel) rfl
theorem gm_196 : (Jvm.Cond.fieldLink "WellCourt$Law" (33 : Nat) "WellCourt$Law" "droughtWell" "[I") ∈ gz_T := gz_at 196 (by decide +kernel) rfl
theorem gm_197 : (Jvm.Cond.fieldLink "WellCourt$Law" (36 : Nat) "WellCourt$Law" "droughtBelow" "[I") ∈ gz_T := gz_at 197 (by decide +kernel) rfl
theorem gm_198 : (Jvm.Cond.fieldLink "WellCourt$Law" (39 : Nat) "WellCourt$Law" "droughtClan" "[I") ∈ gz_T := gz_at 198 (by decide +kernel) rfl
theorem gm_199 : (Jvm.Cond.fieldLink "WellCourt$Law" (42 : Nat) "WellCourt$Law" "guests" "I") ∈ gz_T := gz_at 199 (by decide +kernel) rfl
theorem gm_200 : (Jvm.Cond.fieldLink "WellCourt$Law" (45 : Nat) "WellCourt$Law" "guestClan" "[I") ∈ gz_T := gz_at 200 (by decide +kernel) rfl
theorem gm_201 : (Jvm.Cond.fieldLink "WellCourt$Law" (48 : Nat) "WellCourt$Law" "guestWell" "[I") ∈ gz_T := gz_at 201 (by decide +kernel) rfl
theorem gm_202 : (Jvm.Cond.fieldLink "WellCourt$Law" (51 : Nat) "WellCourt$Law" "guestHost" "[I") ∈ gz_T := gz_at 202 (by decide +kernel) rfl
theorem gm_203 : (Jvm.Cond.fieldLink "WellCourt$Law" (54 : Nat) "WellCourt$Law" "guestMany" "[I") ∈ gz_T := gz_at 203 (by decide +kernel) rfl
theorem gm_362 : (Jvm.Cond.methodLink "WellCourt$Law" (57 : Nat) ({ cls := "java/util/Arrays", name := "fill", desc := "([II)V" } : Jvm.MethodName)) ∈ gz_T := gz_at 362 (by decide +kernel) rfl
theorem gm_486 : (Jvm.Cond.static ({ cls := "WellCourt", name := "isClan", desc := "(I)Z" } : Jvm.MethodName)) ∈ gz_T := gz_at 486 (by decide +kernel) rfl
theorem gm_487 : (Jvm.Cond.code ({ cls := "WellCourt", name := "isClan", desc := "(I)Z" } : Jvm.MethodName) prog_1_method_31_code (1 : Nat) (Option.some Jvm.ClassFile.FieldType.boolean)) ∈ gz_T := gz_at 487 (by decide +kernel) rfl
theorem gn_613 : (Jvm.Cond.methodLinkNest "WellCourt$Law" (63 : Nat) ({ cls := "WellCourt", name := "isClan", desc := "(I)Z" } : Jvm.MethodName) "WellCourt") ∈ gzN := gz_nest 613 (by decide +kernel) rfl
theorem inX4 : ∀ w ∈ u_ws RX4 TX4 14, w ∈ gz_T := gz_inX [204, 206, 208, 210, 212, 214, 216, 218, 220, 222, 224, 226, 228, 230] (by decide +kernel) (by decide +kernel)
theorem dX4_addDrought_0 : decode cX4_addDrought 0 = .ok (.aload_n 0, 1) := by decide +kernel
theorem dX4_addDrought_1 : decode cX4_addDrought 1 = .ok (.getfield 30, 3) := by decide +kernel
theorem dX4_addDrought_4 : decode cX4_addDrought 4 = .ok (.bipush 20, 2) := by decide +kernel
theorem dX4_addDrought_6 : decode cX4_addDrought 6 = .ok (.if_icmp .ge 43, 3) := by decide +kernel
theorem dX4_addDrought_9 : decode cX4_addDrought 9 = .ok (.aload_n 0, 1) := by decide +kernel
theorem dX4_addDrought_10 : decode cX4_addDrought 10 = .ok (.getfield 33, 3) := by decide +kernel
theorem dX4_addDrought_13 : decode cX4_addDrought 13 = .ok (.aload_n 0, 1) := by decide +kernel
theorem dX4_addDrought_14 : decode cX4_addDrought 14 = .ok (.getfield 30, 3) := by decide +kernel
theorem dX4_addDrought_17 : decode cX4_addDrought 17 = .ok (.iload_n 1, 1) := by decide +kernel
theorem dX4_addDrought_18 : decode cX4_addDrought 18 = .ok (.iastore, 1) := by decide +kernel
theorem dX4_addDrought_19 : decode cX4_addDrought 19 = .ok (.aload_n 0, 1) := by decide +kernel
theorem dX4_addDrought_20 : decode cX4_addDrought 20 = .ok (.getfield 36, 3) := by decide +kernel
theorem dX4_addDrought_23 : decode cX4_addDrought 23 = .ok (.aload_n 0, 1) := by decide +kernel
theorem dX4_addDrought_24 : decode cX4_addDrought 24 = .ok (.getfield 30, 3) := by decide +kernel
theorem dX4_addDrought_27 : decode cX4_addDrought 27 = .ok (.iload_n 2, 1) := by decide +kernel
theorem dX4_addDrought_28 : decode cX4_addDrought 28 = .ok (.iastore, 1) := by decide +kernel
theorem dX4_addDrought_29 : decode cX4_addDrought 29 = .ok (.aload_n 0, 1) := by decide +kernel
theorem dX4_addDrought_30 : decode cX4_addDrought 30 = .ok (.getfield 39, 3) := by decide +kernel
theorem dX4_addDrought_33 : decode cX4_addDrought 33 = .ok (.aload_n 0, 1) := by decide +kernel
theorem dX4_addDrought_34 : decode cX4_addDrought 34 = .ok (.getfield 30, 3) := by decide +kernel
theorem dX4_addDrought_37 : decode cX4_addDrought 37 = .ok (.iload_n 3, 1) := by decide +kernel
theorem dX4_addDrought_38 : decode cX4_addDrought 38 = .ok (.iastore, 1) := by decide +kernel
theorem dX4_addDrought_39 : decode cX4_addDrought 39 = .ok (.aload_n 0, 1) := by decide +kernel
theorem dX4_addDrought_40 : decode cX4_addDrought 40 = .ok (.dup, 1) := by decide +kernel
theorem dX4_addDrought_41 : decode cX4_addDrought 41 = .ok (.getfield 30, 3) := by decide +kernel
theorem dX4_addDrought_44 : decode cX4_addDrought 44 = .ok (.iconst 1, 1) := by decide +kernel
theorem dX4_addDrought_45 : decode cX4_addDrought 45 = .ok (.iadd, 1) := by decide +kernel
theorem dX4_addDrought_46 : decode cX4_addDrought 46 = .ok (.putfield 30, 3) := by decide +kernel
theorem dX4_addDrought_49 : decode cX4_addDrought 49 = .ok (.return_, 1) := by decide +kernel
theorem dX4_addDry_0 : decode cX4_addDry 0 = .ok (.aload_n 0, 1) := by decide +kernel
theorem dX4_addDry_1 : decode cX4_addDry 1 = .ok (.getfield 27, 3) := by decide +kernel
theorem dX4_addDry_4 : decode cX4_addDry 4 = .ok (.iload_n 2, 1) := by decide +kernel
theorem dX4_addDry_5 : decode cX4_addDry 5 = .ok (.dup2, 1) := by decide +kernel
theorem dX4_addDry_6 : decode cX4_addDry 6 = .ok (.iaload, 1) := by decide +kernel
theorem dX4_addDry_7 : decode cX4_addDry 7 = .ok (.iconst 1, 1) := by decide +kernel
theorem dX4_addDry_8 : decode cX4_addDry 8 = .ok (.iload_n 1, 1) := by decide +kernel
theorem dX4_addDry_9 : decode cX4_addDry 9 = .ok (.ishl, 1) := by decide +kernel
theorem dX4_addDry_10 : decode cX4_addDry 10 = .ok (.ior, 1) := by decide +kernel
theorem dX4_addDry_11 : decode cX4_addDry 11 = .ok (.iastore, 1) := by decide +kernel
theorem dX4_addDry_12 : decode cX4_addDry 12 = .ok (.return_, 1) := by decide +kernel
theorem dX4_addGuest_0 : decode cX4_addGuest 0 = .ok (.aload_n 0, 1) := by decide +kernel
theorem dX4_addGuest_1 : decode cX4_addGuest 1 = .ok (.getfield 42, 3) := by decide +kernel
theorem dX4_addGuest_4 : decode cX4_addGuest 4 = .ok (.bipush 20, 2) := by decide +kernel
theorem dX4_addGuest_6 : decode cX4_addGuest 6 = .ok (.if_icmp .ge 54, 3) := by decide +kernel
theorem dX4_addGuest_9 : decode cX4_addGuest 9 = .ok (.aload_n 0, 1) := by decide +kernel
theorem dX4_addGuest_10 : decode cX4_addGuest 10 = .ok (.getfield 45, 3) := by decide +kernel
theorem dX4_addGuest_13 : decode cX4_addGuest 13 = .ok (.aload_n 0, 1) := by decide +kernel
theorem dX4_addGuest_14 : decode cX4_addGuest 14 = .ok (.getfield 42, 3) := by decide +kernel
theorem dX4_addGuest_17 : decode cX4_addGuest 17 = .ok (.iload_n 1, 1) := by decide +kernel
theorem dX4_addGuest_18 : decode cX4_addGuest 18 = .ok (.iastore, 1) := by decide +kernel
theorem dX4_addGuest_19 : decode cX4_addGuest 19 = .ok (.aload_n 0, 1) := by decide +kernel
theorem dX4_addGuest_20 : decode cX4_addGuest 20 = .ok (.getfield 48, 3) := by decide +kernel
theorem dX4_addGuest_23 : decode cX4_addGuest 23 = .ok (.aload_n 0, 1) := by decide +kernel
theorem dX4_addGuest_24 : decode cX4_addGuest 24 = .ok (.getfield 42, 3) := by decide +kernel
theorem dX4_addGuest_27 : decode cX4_addGuest 27 = .ok (.iload_n 2, 1) := by decide +kernel
theorem dX4_addGuest_28 : decode cX4_addGuest 28 = .ok (.iastore, 1) := by decide +kernel
theorem dX4_addGuest_29 : decode cX4_addGuest 29 = .ok (.aload_n 0, 1) := by decide +kernel
theorem dX4_addGuest_30 : decode cX4_addGuest 30 = .ok (.getfield 51, 3) := by decide +kernel
theorem dX4_addGuest_33 : decode cX4_addGuest 33 = .ok (.aload_n 0, 1) := by decide +kernel
theorem dX4_addGuest_34 : decode cX4_addGuest 34 = .ok (.getfield 42, 3) := by decide +kernel
theorem dX4_addGuest_37 : decode cX4_addGuest 37 = .ok (.iload_n 3, 1) := by decide +kernel
theorem dX4_addGuest_38 : decode cX4_addGuest 38 = .ok (.iastore, 1) := by decide +kernel
theorem dX4_addGuest_39 : decode cX4_addGuest 39 = .ok (.aload_n 0, 1) := by decide +kernel
theorem dX4_addGuest_40 : decode cX4_addGuest 40 = .ok (.getfield 54, 3) := by decide +kernel
theorem dX4_addGuest_43 : decode cX4_addGuest 43 = .ok (.aload_n 0, 1) := by decide +kernel
theorem dX4_addGuest_44 : decode cX4_addGuest 44 = .ok (.getfield 42, 3) := by decide +kernel
theorem dX4_addGuest_47 : decode cX4_addGuest 47 = .ok (.iload 4, 2) := by decide +kernel
theorem dX4_addGuest_49 : decode cX4_addGuest 49 = .ok (.iastore, 1) := by decide +kernel
theorem dX4_addGuest_50 : decode cX4_addGuest 50 = .ok (.aload_n 0, 1) := by decide +kernel
theorem dX4_addGuest_51 : decode cX4_addGuest 51 = .ok (.dup, 1) := by decide +kernel
theorem dX4_addGuest_52 : decode cX4_addGuest 52 = .ok (.getfield 42, 3) := by decide +kernel
theorem dX4_addGuest_55 : decode cX4_addGuest 55 = .ok (.iconst 1, 1) := by decide +kernel
theorem dX4_addGuest_56 : decode cX4_addGuest 56 = .ok (.iadd, 1) := by decide +kernel
theorem dX4_addGuest_57 : decode cX4_addGuest 57 = .ok (.putfield 42, 3) := by decide +kernel
theorem dX4_addGuest_60 : decode cX4_addGuest 60 = .ok (.return_, 1) := by decide +kernel
theorem dX4_addTurn_0 : decode cX4_addTurn 0 = .ok (.iconst 0, 1) := by decide +kernel
theorem dX4_addTurn_1 : decode cX4_addTurn 1 = .ok (.istore 4, 2) := by decide +kernel
theorem dX4_addTurn_3 : decode cX4_addTurn 3 = .ok (.iload 4, 2) := by decide +kernel
theorem dX4_addTurn_5 : decode cX4_addTurn 5 = .ok (.iload_n 3, 1) := by decide +kernel
theorem dX4_addTurn_6 : decode cX4_addTurn 6 = .ok (.if_icmp .ge 49, 3) := by decide +kernel
theorem dX4_addTurn_9 : decode cX4_addTurn 9 = .ok (.aload_n 0, 1) := by decide +kernel
theorem dX4_addTurn_10 : decode cX4_addTurn 10 = .ok (.getfield 20, 3) := by decide +kernel
theorem dX4_addTurn_13 : decode cX4_addTurn 13 = .ok (.iload_n 1, 1) := by decide +kernel
theorem dX4_addTurn_14 : decode cX4_addTurn 14 = .ok (.iaload, 1) := by decide +kernel
theorem dX4_addTurn_15 : decode cX4_addTurn 15 = .ok (.aload_n 0, 1) := by decide +kernel
theorem dX4_addTurn_16 : decode cX4_addTurn 16 = .ok (.getfield 17, 3) := by decide +kernel
theorem dX4_addTurn_19 : decode cX4_addTurn 19 = .ok (.iload_n 1, 1) := by decide +kernel
theorem dX4_addTurn_20 : decode cX4_addTurn 20 = .ok (.aaload, 1) := by decide +kernel
theorem dX4_addTurn_21 : decode cX4_addTurn 21 = .ok (.arraylength, 1) := by decide +kernel
theorem dX4_addTurn_22 : decode cX4_addTurn 22 = .ok (.if_icmp .ge 33, 3) := by decide +kernel
theorem dX4_addTurn_25 : decode cX4_addTurn 25 = .ok (.aload_n 0, 1) := by decide +kernel
theorem dX4_addTurn_26 : decode cX4_addTurn 26 = .ok (.getfield 17, 3) := by decide +kernel
theorem dX4_addTurn_29 : decode cX4_addTurn 29 = .ok (.iload_n 1, 1) := by decide +kernel
theorem dX4_addTurn_30 : decode cX4_addTurn 30 = .ok (.aaload, 1) := by decide +kernel
theorem dX4_addTurn_31 : decode cX4_addTurn 31 = .ok (.aload_n 0, 1) := by decide +kernel
theorem dX4_addTurn_32 : decode cX4_addTurn 32 = .ok (.getfield 20, 3) := by decide +kernel
theorem dX4_addTurn_35 : decode cX4_addTurn 35 = .ok (.iload_n 1, 1) := by decide +kernel
theorem dX4_addTurn_36 : decode cX4_addTurn 36 = .ok (.iaload, 1) := by decide +kernel
theorem dX4_addTurn_37 : decode cX4_addTurn 37 = .ok (.iload_n 2, 1) := by decide +kernel
theorem dX4_addTurn_38 : decode cX4_addTurn 38 = .ok (.iastore, 1) := by decide +kernel
theorem dX4_addTurn_39 : decode cX4_addTurn 39 = .ok (.aload_n 0, 1) := by decide +kernel
theorem dX4_addTurn_40 : decode cX4_addTurn 40 = .ok (.getfield 20, 3) := by decide +kernel
theorem dX4_addTurn_43 : decode cX4_addTurn 43 = .ok (.iload_n 1, 1) := by decide +kernel
theorem dX4_addTurn_44 : decode cX4_addTurn 44 = .ok (.dup2, 1) := by decide +kernel
theorem dX4_addTurn_45 : decode cX4_addTurn 45 = .ok (.iaload, 1) := by decide +kernel
theorem dX4_addTurn_46 : decode cX4_addTurn 46 = .ok (.iconst 1, 1) := by decide +kernel
theorem dX4_addTurn_47 : decode cX4_addTurn 47 = .ok (.iadd, 1) := by decide +kernel
theorem dX4_addTurn_48 : decode cX4_addTurn 48 = .ok (.iastore, 1) := by decide +kernel
theorem dX4_addTurn_49 : decode cX4_addTurn 49 = .ok (.iinc 4 1, 3) := by decide +kernel
theorem dX4_addTurn_52 : decode cX4_addTurn 52 = .ok (.goto (-49), 3) := by decide +kernel
theorem dX4_addTurn_55 : decode cX4_addTurn 55 = .ok (.return_, 1) := by decide +kernel
theorem dX4_addWed_0 : decode cX4_addWed 0 = .ok (.aload_n 0, 1) := by decide +kernel
theorem dX4_addWed_1 : decode cX4_addWed 1 = .ok (.getfield 24, 3) := by decide +kernel
theorem dX4_addWed_4 : decode cX4_addWed 4 = .ok (.iload_n 1, 1) := by decide +kernel
theorem dX4_addWed_5 : decode cX4_addWed 5 = .ok (.dup2, 1) := by decide +kernel
theorem dX4_addWed_6 : decode cX4_addWed 6 = .ok (.iaload, 1) := by decide +kernel
theorem dX4_addWed_7 : decode cX4_addWed 7 = .ok (.iconst 1, 1) := by decide +kernel
theorem dX4_addWed_8 : decode cX4_addWed 8 = .ok (.iload_n 2, 1) := by decide +kernel
theorem dX4_addWed_9 : decode cX4_addWed 9 = .ok (.ishl, 1) := by decide +kernel
theorem dX4_addWed_10 : decode cX4_addWed 10 = .ok (.ior, 1) := by decide +kernel
theorem dX4_addWed_11 : decode cX4_addWed 11 = .ok (.iastore, 1) := by decide +kernel
theorem dX4_addWed_12 : decode cX4_addWed 12 = .ok (.aload_n 0, 1) := by decide +kernel
theorem dX4_addWed_13 : decode cX4_addWed 13 = .ok (.getfield 24, 3) := by decide +kernel
theorem dX4_addWed_16 : decode cX4_addWed 16 = .ok (.iload_n 2, 1) := by decide +kernel
theorem dX4_addWed_17 : decode cX4_addWed 17 = .ok (.dup2, 1) := by decide +kernel
theorem dX4_addWed_18 : decode cX4_addWed 18 = .ok (.iaload, 1) := by decide +kernel
theorem dX4_addWed_19 : decode cX4_addWed 19 = .ok (.iconst 1, 1) := by decide +kernel
theorem dX4_addWed_20 : decode cX4_addWed 20 = .ok (.iload_n 1, 1) := by decide +kernel
theorem dX4_addWed_21 : decode cX4_addWed 21 = .ok (.ishl, 1) := by decide +kernel
theorem dX4_addWed_22 : decode cX4_addWed 22 = .ok (.ior, 1) := by decide +kernel
theorem dX4_addWed_23 : decode cX4_addWed 23 = .ok (.iastore, 1) := by decide +kernel
theorem dX4_addWed_24 : decode cX4_addWed 24 = .ok (.return_, 1) := by decide +kernel
theorem dX4_areWed_0 : decode cX4_areWed 0 = .ok (.iload_n 1, 1) := by decide +kernel
theorem dX4_areWed_1 : decode cX4_areWed 1 = .ok (.invokestatic 63, 3) := by decide +kernel
theorem dX4_areWed_4 : decode cX4_areWed 4 = .ok (.ifCond .eq 28, 3) := by decide +kernel
theorem dX4_areWed_7 : decode cX4_areWed 7 = .ok (.iload_n 2, 1) := by decide +kernel
theorem dX4_areWed_8 : decode cX4_areWed 8 = .ok (.invokestatic 63, 3) := by decide +kernel
theorem dX4_areWed_11 : decode cX4_areWed 11 = .ok (.ifCond .eq 21, 3) := by decide +kernel
theorem dX4_areWed_14 : decode cX4_areWed 14 = .ok (.aload_n 0, 1) := by decide +kernel
theorem dX4_areWed_15 : decode cX4_areWed 15 = .ok (.getfield 24, 3) := by decide +kernel
theorem dX4_areWed_18 : decode cX4_areWed 18 = .ok (.iload_n 1, 1) := by decide +kernel
theorem dX4_areWed_19 : decode cX4_areWed 19 = .ok (.iaload, 1) := by decide +kernel
theorem dX4_areWed_20 : decode cX4_areWed 20 = .ok (.iload_n 2, 1) := by decide +kernel
theorem dX4_areWed_21 : decode cX4_areWed 21 = .ok (.ishr, 1) := by decide +kernel
theorem dX4_areWed_22 : decode cX4_areWed 22 = .ok (.iconst 1, 1) := by decide +kernel
theorem dX4_areWed_23 : decode cX4_areWed 23 = .ok (.iand, 1) := by decide +kernel
theorem dX4_areWed_24 : decode cX4_areWed 24 = .ok (.iconst 1, 1) := by decide +kernel
theorem dX4_areWed_25 : decode cX4_areWed 25 = .ok (.if_icmp .ne 7, 3) := by decide +kernel
theorem dX4_areWed_28 : decode cX4_areWed 28 = .ok (.iconst 1, 1) := by decide +kernel
theorem dX4_areWed_29 : decode cX4_areWed 29 = .ok (.goto 4, 3) := by decide +kernel
theorem dX4_areWed_32 : decode cX4_areWed 32 = .ok (.iconst 0, 1) := by decide +kernel
theorem dX4_areWed_33 : decode cX4_areWed 33 = .ok (.ireturn, 1) := by decide +kernel
theorem dX4_clear_0 : decode cX4_clear 0 = .ok (.aload_n 0, 1) := by decide +kernel
theorem dX4_clear_1 : decode cX4_clear 1 = .ok (.iconst 0, 1) := by decide +kernel
theorem dX4_clear_2 : decode cX4_clear 2 = .ok (.putfield 9, 3) := by decide +kernel
theorem dX4_clear_5 : decode cX4_clear 5 = .ok (.aload_n 0, 1) := by decide +kernel
theorem dX4_clear_6 : decode cX4_clear 6 = .ok (.iconst 0, 1) := by decide +kernel
theorem dX4_clear_7 : decode cX4_clear 7 = .ok (.putfield 30, 3) := by decide +kernel
theorem dX4_clear_10 : decode cX4_clear 10 = .ok (.aload_n 0, 1) := by decide +kernel
theorem dX4_clear_11 : decode cX4_clear 11 = .ok (.iconst 0, 1) := by decide +kernel
theorem dX4_clear_12 : decode cX4_clear 12 = .ok (.putfield 42, 3) := by decide +kernel
theorem dX4_clear_15 : decode cX4_clear 15 = .ok (.aload_n 0, 1) := by decide +kernel
theorem dX4_clear_16 : decode cX4_clear 16 = .ok (.getfield 20, 3) := by decide +kernel
theorem dX4_clear_19 : decode cX4_clear 19 = .ok (.iconst 0, 1) := by decide +kernel
theorem dX4_clear_20 : decode cX4_clear 20 = .ok (.invokestatic 57, 3) := by decide +kernel
theorem dX4_clear_23 : decode cX4_clear 23 = .ok (.aload_n 0, 1) := by decide +kernel
theorem dX4_clear_24 : decode cX4_clear 24 = .ok (.getfield 24, 3) := by decide +kernel
theorem dX4_clear_27 : decode cX4_clear 27 = .ok (.iconst 0, 1) := by decide +kernel
theorem dX4_clear_28 : decode cX4_clear 28 = .ok (.invokestatic 57, 3) := by decide +kernel
theorem dX4_clear_31 : decode cX4_clear 31 = .ok (.aload_n 0, 1) := by decide +kernel
theorem dX4_clear_32 : decode cX4_clear 32 = .ok (.getfield 27, 3) := by decide +kernel
theorem dX4_clear_35 : decode cX4_clear 35 = .ok (.iconst 0, 1) := by decide +kernel
theorem dX4_clear_36 : decode cX4_clear 36 = .ok (.invokestatic 57, 3) := by decide +kernel
theorem dX4_clear_39 : decode cX4_clear 39 = .ok (.return_, 1) := by decide +kernel
theorem dX4_droughtOwner_0 : decode cX4_droughtOwner 0 = .ok (.iconst 0, 1) := by decide +kernel
theorem dX4_droughtOwner_1 : decode cX4_droughtOwner 1 = .ok (.istore_n 3, 1) := by decide +kernel
theorem dX4_droughtOwner_2 : decode cX4_droughtOwner 2 = .ok (.iload_n 3, 1) := by decide +kernel
theorem dX4_droughtOwner_3 : decode cX4_droughtOwner 3 = .ok (.aload_n 0, 1) := by decide +kernel
theorem dX4_droughtOwner_4 : decode cX4_droughtOwner 4 = .ok (.getfield 30, 3) := by decide +kernel
theorem dX4_droughtOwner_7 : decode cX4_droughtOwner 7 = .ok (.if_icmp .ge 41, 3) := by decide +kernel
theorem dX4_droughtOwner_10 : decode cX4_droughtOwner 10 = .ok (.iload_n 2, 1) := by decide +kernel
theorem dX4_droughtOwner_11 : decode cX4_droughtOwner 11 = .ok (.iconst (-1), 1) := by decide +kernel
theorem dX4_droughtOwner_12 : decode cX4_droughtOwner 12 = .ok (.if_icmp .eq 36, 3) := by decide +kernel
theorem dX4_droughtOwner_15 : decode cX4_droughtOwner 15 = .ok (.aload_n 0, 1) := by decide +kernel
theorem dX4_droughtOwner_16 : decode cX4_droughtOwner 16 = .ok (.getfield 33, 3) := by decide +kernel
theorem dX4_droughtOwner_19 : decode cX4_droughtOwner 19 = .ok (.iload_n 3, 1) := by decide +kernel
theorem dX4_droughtOwner_20 : decode cX4_droughtOwner 20 = .ok (.iaload, 1) := by decide +kernel
theorem dX4_droughtOwner_21 : decode cX4_droughtOwner 21 = .ok (.iload_n 1, 1) := by decide +kernel
theorem dX4_droughtOwner_22 : decode cX4_droughtOwner 22 = .ok (.if_icmp .ne 20, 3) := by decide +kernel
theorem dX4_droughtOwner_25 : decode cX4_droughtOwner 25 = .ok (.iload_n 2, 1) := by decide +kernel
theorem dX4_droughtOwner_26 : decode cX4_droughtOwner 26 = .ok (.aload_n 0, 1) := by decide +kernel
theorem dX4_droughtOwner_27 : decode cX4_droughtOwner 27 = .ok (.getfield 36, 3) := by decide +kernel
theorem dX4_droughtOwner_30 : decode cX4_droughtOwner 30 = .ok (.iload_n 3, 1) := by decide +kernel
theorem dX4_droughtOwner_31 : decode cX4_droughtOwner 31 = .ok (.iaload, 1) := by decide +kernel
theorem dX4_droughtOwner_32 : decode cX4_droughtOwner 32 = .ok (.if_icmp .ge 10, 3) := by decide +kernel
theorem dX4_droughtOwner_35 : decode cX4_droughtOwner 35 = .ok (.aload_n 0, 1) := by decide +kernel
theorem dX4_droughtOwner_36 : decode cX4_droughtOwner 36 = .ok (.getfield 39, 3) := by decide +kernel
theorem dX4_droughtOwner_39 : decode cX4_droughtOwner 39 = .ok (.iload_n 3, 1) := by decide +kernel
theorem dX4_droughtOwner_40 : decode cX4_droughtOwner 40 = .ok (.iaload, 1) := by decide +kernel
theorem dX4_droughtOwner_41 : decode cX4_droughtOwner 41 = .ok (.ireturn, 1) := by decide +kernel
theorem dX4_droughtOwner_42 : decode cX4_droughtOwner 42 = .ok (.iinc 3 1, 3) := by decide +kernel
theorem dX4_droughtOwner_45 : decode cX4_droughtOwner 45 = .ok (.goto (-43), 3) := by decide +kernel
theorem dX4_droughtOwner_48 : decode cX4_droughtOwner 48 = .ok (.iconst (-1), 1) := by decide +kernel
theorem dX4_droughtOwner_49 : decode cX4_droughtOwner 49 = .ok (.ireturn, 1) := by decide +kernel
theorem dX4_hasTurns_0 : decode cX4_hasTurns 0 = .ok (.aload_n 0, 1) := by decide +kernel
theorem dX4_hasTurns_1 : decode cX4_hasTurns 1 = .ok (.getfield 20, 3) := by decide +kernel
theorem dX4_hasTurns_4 : decode cX4_hasTurns 4 = .ok (.iload_n 1, 1) := by decide +kernel
theorem dX4_hasTurns_5 : decode cX4_hasTurns 5 = .ok (.iaload, 1) := by decide +kernel
theorem dX4_hasTurns_6 : decode cX4_hasTurns 6 = .ok (.ifCond .le 7, 3) := by decide +kernel
theorem dX4_hasTurns_9 : decode cX4_hasTurns 9 = .ok (.iconst 1, 1) := by decide +kernel
theorem dX4_hasTurns_10 : decode cX4_hasTurns 10 = .ok (.goto 4, 3) := by decide +kernel
theorem dX4_hasTurns_13 : decode cX4_hasTurns 13 = .ok (.iconst 0, 1) := by decide +kernel
theorem dX4_hasTurns_14 : decode cX4_hasTurns 14 = .ok (.ireturn, 1) := by decide +kernel
theorem dX4_leadsDry_0 : decode cX4_leadsDry 0 = .ok (.aload_n 0, 1) := by decide +kernel
theorem dX4_leadsDry_1 : decode cX4_leadsDry 1 = .ok (.getfield 27, 3) := by decide +kernel
theorem dX4_leadsDry_4 : decode cX4_leadsDry 4 = .ok (.iload_n 2, 1) := by decide +kernel
theorem dX4_leadsDry_5 : decode cX4_leadsDry 5 = .ok (.iaload, 1) := by decide +kernel
theorem dX4_leadsDry_6 : decode cX4_leadsDry 6 = .ok (.iload_n 1, 1) := by decide +kernel
theorem dX4_leadsDry_7 : decode cX4_leadsDry 7 = .ok (.ishr, 1) := by decide +kernel
theorem dX4_leadsDry_8 : decode cX4_leadsDry 8 = .ok (.iconst 1, 1) := by decide +kernel
theorem dX4_leadsDry_9 : decode cX4_leadsDry 9 = .ok (.iand, 1) := by decide +kernel
theorem dX4_leadsDry_10 : decode cX4_leadsDry 10 = .ok (.iconst 1, 1) := by decide +kernel
theorem dX4_leadsDry_11 : decode cX4_leadsDry 11 = .ok (.if_icmp .ne 7, 3) := by decide +kernel
theorem dX4_leadsDry_14 : decode cX4_leadsDry 14 = .ok (.iconst 1, 1) := by decide +kernel
theorem dX4_leadsDry_15 : decode cX4_leadsDry 15 = .ok (.goto 4, 3) := by decide +kernel
theorem dX4_leadsDry_18 : decode cX4_leadsDry 18 = .ok (.iconst 0, 1) := by decide +kernel
theorem dX4_leadsDry_19 : decode cX4_leadsDry 19 = .ok (.ireturn, 1) := by decide +kernel
theorem dX4_manyOfGuest_0 : decode cX4_manyOfGuest 0 = .ok (.iconst 0, 1) := by decide +kernel
theorem dX4_manyOfGuest_1 : decode cX4_manyOfGuest 1 = .ok (.istore 4, 2) := by decide +kernel
theorem dX4_manyOfGuest_3 : decode cX4_manyOfGuest 3 = .ok (.iload 4, 2) := by decide +kernel
theorem dX4_manyOfGuest_5 : decode cX4_manyOfGuest 5 = .ok (.aload_n 0, 1) := by decide +kernel
theorem dX4_manyOfGuest_6 : decode cX4_manyOfGuest 6 = .ok (.getfield 42, 3) := by decide +kernel
theorem dX4_manyOfGuest_9 : decode cX4_manyOfGuest 9 = .ok (.if_icmp .ge 50, 3) := by decide +kernel
theorem dX4_manyOfGuest_12 : decode cX4_manyOfGuest 12 = .ok (.aload_n 0, 1) := by decide +kernel
theorem dX4_manyOfGuest_13 : decode cX4_manyOfGuest 13 = .ok (.getfield 45, 3) := by decide +kernel
theorem dX4_manyOfGuest_16 : decode cX4_manyOfGuest 16 = .ok (.iload 4, 2) := by decide +kernel
theorem dX4_manyOfGuest_18 : decode cX4_manyOfGuest 18 = .ok (.iaload, 1) := by decide +kernel
theorem dX4_manyOfGuest_19 : decode cX4_manyOfGuest 19 = .ok (.iload_n 1, 1) := by decide +kernel
theorem dX4_manyOfGuest_20 : decode cX4_manyOfGuest 20 = .ok (.if_icmp .ne 33, 3) := by decide +kernel
theorem dX4_manyOfGuest_23 : decode cX4_manyOfGuest 23 = .ok (.aload_n 0, 1) := by decide +kernel
theorem dX4_manyOfGuest_24 : decode cX4_manyOfGuest 24 = .ok (.getfield 48, 3) := by decide +kernel
theorem dX4_manyOfGuest_27 : decode cX4_manyOfGuest 27 = .ok (.iload 4, 2) := by decide +kernel
theorem dX4_manyOfGuest_29 : decode cX4_manyOfGuest 29 = .ok (.iaload, 1) := by decide +kernel
theorem dX4_manyOfGuest_30 : decode cX4_manyOfGuest 30 = .ok (.iload_n 2, 1) := by decide +kernel
theorem dX4_manyOfGuest_31 : decode cX4_manyOfGuest 31 = .ok (.if_icmp .ne 22, 3) := by decide +kernel
theorem dX4_manyOfGuest_34 : decode cX4_manyOfGuest 34 = .ok (.aload_n 0, 1) := by decide +kernel
theorem dX4_manyOfGuest_35 : decode cX4_manyOfGuest 35 = .ok (.getfield 51, 3) := by decide +kernel
theorem dX4_manyOfGuest_38 : decode cX4_manyOfGuest 38 = .ok (.iload 4, 2) := by decide +kernel
theorem dX4_manyOfGuest_40 : decode cX4_manyOfGuest 40 = .ok (.iaload, 1) := by decide +kernel
theorem dX4_manyOfGuest_41 : decode cX4_manyOfGuest 41 = .ok (.iload_n 3, 1) := by decide +kernel
theorem dX4_manyOfGuest_42 : decode cX4_manyOfGuest 42 = .ok (.if_icmp .ne 11, 3) := by decide +kernel
theorem dX4_manyOfGuest_45 : decode cX4_manyOfGuest 45 = .ok (.aload_n 0, 1) := by decide +kernel
theorem dX4_manyOfGuest_46 : decode cX4_manyOfGuest 46 = .ok (.getfield 54, 3) := by decide +kernel
theorem dX4_manyOfGuest_49 : decode cX4_manyOfGuest 49 = .ok (.iload 4, 2) := by decide +kernel
theorem dX4_manyOfGuest_51 : decode cX4_manyOfGuest 51 = .ok (.iaload, 1) := by decide +kernel
theorem dX4_manyOfGuest_52 : decode cX4_manyOfGuest 52 = .ok (.ireturn, 1) := by decide +kernel
theorem dX4_manyOfGuest_53 : decode cX4_manyOfGuest 53 = .ok (.iinc 4 1, 3) := by decide +kernel
theorem dX4_manyOfGuest_56 : decode cX4_manyOfGuest 56 = .ok (.goto (-53), 3) := by decide +kernel
theorem dX4_manyOfGuest_59 : decode cX4_manyOfGuest 59 = .ok (.iconst (-1), 1) := by decide +kernel
theorem dX4_manyOfGuest_60 : decode cX4_manyOfGuest 60 = .ok (.ireturn, 1) := by decide +kernel
theorem dX4_turnOn_0 : decode cX4_turnOn 0 = .ok (.aload_n 0, 1) := by decide +kernel
theorem dX4_turnOn_1 : decode cX4_turnOn 1 = .ok (.getfield 20, 3) := by decide +kernel
theorem dX4_turnOn_4 : decode cX4_turnOn 4 = .ok (.iload_n 1, 1) := by decide +kernel
theorem dX4_turnOn_5 : decode cX4_turnOn 5 = .ok (.iaload, 1) := by decide +kernel
theorem dX4_turnOn_6 : decode cX4_turnOn 6 = .ok (.istore_n 3, 1) := by decide +kernel
theorem dX4_turnOn_7 : decode cX4_turnOn 7 = .ok (.iload_n 3, 1) := by decide +kernel
theorem dX4_turnOn_8 : decode cX4_turnOn 8 = .ok (.ifCond .le 16, 3) := by decide +kernel
theorem dX4_turnOn_11 : decode cX4_turnOn 11 = .ok (.aload_n 0, 1) := by decide +kernel
theorem dX4_turnOn_12 : decode cX4_turnOn 12 = .ok (.getfield 17, 3) := by decide +kernel
theorem dX4_turnOn_15 : decode cX4_turnOn 15 = .ok (.iload_n 1, 1) := by decide +kernel
theorem dX4_turnOn_16 : decode cX4_turnOn 16 = .ok (.aaload, 1) := by decide +kernel
theorem dX4_turnOn_17 : decode cX4_turnOn 17 = .ok (.iload_n 2, 1) := by decide +kernel
theorem dX4_turnOn_18 : decode cX4_turnOn 18 = .ok (.iload_n 3, 1) := by decide +kernel
theorem dX4_turnOn_19 : decode cX4_turnOn 19 = .ok (.irem, 1) := by decide +kernel
theorem dX4_turnOn_20 : decode cX4_turnOn 20 = .ok (.iaload, 1) := by decide +kernel
theorem dX4_turnOn_21 : decode cX4_turnOn 21 = .ok (.goto 4, 3) := by decide +kernel
theorem dX4_turnOn_24 : decode cX4_turnOn 24 = .ok (.iconst (-1), 1) := by decide +kernel
theorem dX4_turnOn_25 : decode cX4_turnOn 25 = .ok (.ireturn, 1) := by decide +kernel
set_option maxHeartbeats 4000000 in
set_option maxRecDepth 100000 in
/-- WellCourt$Law.clear -/
theorem s_X4_clear (l : Launch) (G : va_G) (cy : Nat → ClassId) (sK sV : Nat → Nat) (ad : Nat → Nat → Nat) (sz : Nat) (st : gS) (hB : gBd bX st) (z : Int32) (hz_z : (0 : Int) ≤ z.toInt ∧ z.toInt ≤ (1 : Int)) : gsMv l yX4_clear cX4_clear 1 ({ frames := 1, cells := 0, slots := 0, locals := 23 } : Room) G cy sK sV (shX cy ad) cnX ad sz [.ref (ad 25 z.toNatClampNeg)] st (fun (u : gS) => gBN bX kX [2500, 2505, 2509, 2800, 2900, 3000] st u ∧ (True)) := by
  refine gs_start (fun A => gsQv G (shX cy ad) cnX ad _ A) (by decide) (Nat.le_of_ble_eq_true rfl) ?_
  intro p e s m below meth c A ls H hx hb hr hml hlocks hown hts hK hov hE hI hM hm hS hA hl
  have hl : lv_has ls 1 [(0, .ref (ad 25 z.toNatClampNeg))] := hl
  have hB_st : gBN bX kX [2500, 2505, 2509, 2800, 2900, 3000] st st := gBN.rf hB
  refine lv_aload_n hx hb dX4_clear_0 rfl (lv_at hl 0 rfl) ?_
  refine lv_iconst (v := 0) hx hb dX4_clear_1 (by decide) ?_
  refine gs_put (C := RX4) (T := TX4) (N := 14) (ty := .int) (val := .int 0) hx hb hts inX4 tyX4 tyX4_ok nmX4 hown hK hI hm hM hS 25 z.toNatClampNeg 0 (gs_sel hz_z) rfl rfl (by decide) (hts _ gm_188) (fun _ h9 => h9) rfl (0 : Int32) rfl (by decide +kernel) rfl rfl (Nat.le_of_ble_eq_true rfl) dX4_clear_2 (fun st_1 H locs est_1 hM hS => ?_)
  have hB_st_1 : gBN bX kX [2500, 2505, 2509, 2800, 2900, 3000] st st_1 := by rw [est_1]; exact hB_st.up (show (2500 : Nat) ∈ _ from by decide) (gi_lo _) (gi_hi _)
  refine lv_aload_n hx hb dX4_clear_5 rfl (lv_at hl 0 rfl) ?_
  refine lv_iconst (v := 0) hx hb dX4_clear_6 (by decide) ?_
  refine gs_put (C := RX4) (T := TX4) (N := 14) (ty := .int) (val := .int 0) hx hb hts inX4 tyX4 tyX4_ok nmX4 hown hK hI hm hM hS 25 z.toNatClampNeg 5 (gs_sel hz_z) rfl rfl (by decide) (hts _ gm_195) (fun _ h9 => h9) rfl (0 : Int32) rfl (by decide +kernel) rfl rfl (Nat.le_of_ble_eq_true rfl) dX4_clear_7 (fun st_2 H locs est_2 hM hS => ?_)
  have hB_st_2 : gBN bX kX [2500, 2505, 2509, 2800, 2900, 3000] st st_2 := by rw [est_2]; exact hB_st_1.up (show (2505 : Nat) ∈ _ from by decide) (show (0 : Int) ≤ ((0 : Int32)).toInt from by decide) (show ((0 : Int32)).toInt ≤ (20 : Int) from by decide)
  refine lv_aload_n hx hb dX4_clear_10 rfl (lv_at hl 0 rfl) ?_
  refine lv_iconst (v := 0) hx hb dX4_clear_11 (by decide) ?_
  refine gs_put (C := RX4) (T := TX4) (N := 14) (ty := .int) (val := .int 0) hx hb hts inX4 tyX4 tyX4_ok nmX4 hown hK hI hm hM hS 25 z.toNatClampNeg 9 (gs_sel hz_z) rfl rfl (by decide) (hts _ gm_199) (fun _ h9 => h9) rfl (0 : Int32) rfl (by decide +kernel) rfl rfl (Nat.le_of_ble_eq_true rfl) dX4_clear_12 (fun st_3 H locs est_3 hM hS => ?_)
  have hB_st_3 : gBN bX kX [2500, 2505, 2509, 2800, 2900, 3000] st st_3 := by rw [est_3]; exact hB_st_2.up (show (2509 : Nat) ∈ _ from by decide) (show (0 : Int) ≤ ((0 : Int32)).toInt from by decide) (show ((0 : Int32)).toInt ≤ (20 : Int) from by decide)
  refine lv_aload_n hx hb dX4_clear_15 rfl (lv_at hl 0 rfl) ?_
  refine gs_get (C := RX4) (T := TX4) (N := 14) hx hb hts inX4 hown hK hM 25 z.toNatClampNeg 2 (gs_sel hz_z) rfl rfl (by decide) (hts _ gm_192) (fun _ h9 => h9) rfl dX4_clear_16 ?_
  refine lv_iconst (v := 0) hx hb dX4_clear_19 (by decide) ?_
  refine gs_callv (va_runS (As := [.ref (ad 28 z.toNatClampNeg), .int 0]) (rest := []) ⟨hx, hb, hml, hown, hts⟩ (s_fill l G cy sK sV ad H.size st_3 hB_st_3.1 28 z.toNatClampNeg 6 2800 (0 : Int32) (gs_sel hz_z) (fun _ => rfl) (fun _ => rfl) (fun _ => ⟨(show (0 : Int) ≤ (0 : Int32).toInt from by decide), (show (0 : Int32).toInt ≤ (72 : Int) from by decide)⟩) (by decide)) ⟨(gz_cb (n := 2) hts gm_362 gm_6 gm_108 ⟨by decide +kernel, by decide +kernel, by decide +kernel⟩ ⟨Nat.le_of_ble_eq_true rfl, Nat.le_of_ble_eq_true rfl⟩), hts _ gm_107⟩ (gs_preS hK hov hE hI hM hm hS hA) rfl rfl hl.1 rfl (lv_room (Nat.le_of_ble_eq_true rfl)) dX4_clear_20 ⟨Nat.le_of_ble_eq_true rfl, Nat.le_of_ble_eq_true rfl⟩) hm hS hA (fun st_4 H locs hw_4 hM hS => ?_)
  obtain ⟨n_4, hw_4⟩ := hw_4
  have hB_st_4 : gBN bX kX [2500, 2505, 2509, 2800, 2900, 3000] st st_4 := hB_st_3.call n_4 (by decide)
  refine lv_aload_n hx hb dX4_clear_23 rfl (lv_at hl 0 rfl) ?_
  refine gs_get (C := RX4) (T := TX4) (N := 14) hx hb hts inX4 hown hK hM 25 z.toNatClampNeg 3 (gs_sel hz_z) rfl rfl (by decide) (hts _ gm_193) (fun _ h9 => h9) rfl dX4_clear_24 ?_
  refine lv_iconst (v := 0) hx hb dX4_clear_27 (by decide) ?_
  refine gs_callv (va_runS (As := [.ref (ad 29 z.toNatClampNeg), .int 0]) (rest := []) ⟨hx, hb, hml, hown, hts⟩ (s_fill l G cy sK sV ad H.size st_4 hB_st_4.1 29 z.toNatClampNeg 6 2900 (0 : Int32) (gs_sel hz_z) (fun _ => rfl) (fun _ => rfl) (fun _ => ⟨gi_lo _, gi_hi _⟩) (by decide)) ⟨(gz_cb (n := 2) hts gm_362 gm_6 gm_108 ⟨by decide +kernel, by decide +kernel, by decide +kernel⟩ ⟨Nat.le_of_ble_eq_true rfl, Nat.le_of_ble_eq_true rfl⟩), hts _ gm_107⟩ (gs_preS hK hov hE hI hM hm hS hA) rfl rfl hl.1 rfl (lv_room (Nat.le_of_ble_eq_true rfl)) dX4_clear_28 ⟨Nat.le_of_ble_eq_true rfl, Nat.le_of_ble_eq_true rfl⟩) hm hS hA (fun st_5 H locs hw_5 hM hS => ?_)
  obtain ⟨n_5, hw_5⟩ := hw_5
  have hB_st_5 : gBN bX kX [2500, 2505, 2509, 2800, 2900, 3000] st st_5 := hB_st_4.call n_5 (by decide)
  refine lv_aload_n hx hb dX4_clear_31 rfl (lv_at hl 0 rfl) ?_
  refine gs_get (C := RX4) (T := TX4) (N := 14) hx hb hts inX4 hown hK hM 25 z.toNatClampNeg 4 (gs_sel hz_z) rfl rfl (by decide) (hts _ gm_194) (fun _ h9 => h9) rfl dX4_clear_32 ?_
  refine lv_iconst (v := 0) hx hb dX4_clear_35 (by decide) ?_
  refine gs_callv (va_runS (As := [.ref (ad 30 z.toNatClampNeg), .int 0]) (rest := []) ⟨hx, hb, hml, hown, hts⟩ (s_fill l G cy sK sV ad H.size st_5 hB_st_5.1 30 z.toNatClampNeg 6 3000 (0 : Int32) (gs_sel hz_z) (fun _ => rfl) (fun _ => rfl) (fun _ => ⟨gi_lo _, gi_hi _⟩) (by decide)) ⟨(gz_cb (n := 2) hts gm_362 gm_6 gm_108 ⟨by decide +kernel, by decide +kernel, by decide +kernel⟩ ⟨Nat.le_of_ble_eq_true rfl, Nat.le_of_ble_eq_true rfl⟩), hts _ gm_107⟩ (gs_preS hK hov hE hI hM hm hS hA) rfl rfl hl.1 rfl (lv_room (Nat.le_of_ble_eq_true rfl)) dX4_clear_36 ⟨Nat.le_of_ble_eq_true rfl, Nat.le_of_ble_eq_true rfl⟩) hm hS hA (fun st_6 H locs hw_6 hM hS => ?_)
  obtain ⟨n_6, hw_6⟩ := hw_6
  have hB_st_6 : gBN bX kX [2500, 2505, 2509, 2800, 2900, 3000] st st_6 := hB_st_5.call n_6 (by decide)
  exact gs_vret hx hb hr hlocks hM hS ⟨hB_st_6, trivial⟩ (by exact Nat.le_refl _) (by exact Nat.le_refl _) dX4_clear_39

set_option maxHeartbeats 4000000 in
set_option maxRecDepth 100000 in
/-- WellCourt$Law.hasTurns -/
theorem s_X4_hasTurns (l : Launch) (G : va_G) (cy : Nat → ClassId) (sK sV : Nat → Nat) (ad : Nat → Nat → Nat) (sz : Nat) (st : gS) (hB : gBd bX st) (z : Int32) (x : Int32) (Xx : Int) (kx : x.toInt = Xx) (hz_z : (0 : Int) ≤ z.toInt ∧ z.toInt ≤ (1 : Int)) (hx0 : 0 ≤ Xx) (hx1 : Xx < 6) : gsMi l yX4_hasTurns cX4_hasTurns 2 (some .boolean) ({ frames := 0, cells := 0, slots := 0, locals := 0 } : Room) G cy sK sV (shX cy ad) cnX ad sz [.ref (ad 25 z.toNatClampNeg), .int x] st (fun (r : Int32) (u : gS) => gBN bX kX [] st u ∧ ((r = 1) ∨ (r = 0))) := by
  refine gs_start (fun A => gsQi G (shX cy ad) cnX ad _ A) (by decide) (Nat.le_of_ble_eq_true rfl) ?_
  intro p e s m below meth c A ls H hx hb hr hml hlocks hown hts hK hov hE hI hM hm hS hA hl
  have hl : lv_has ls 2 [(0, .ref (ad 25 z.toNatClampNeg)), (1, .int x)] := hl
  have hB_st : gBN bX kX [] st st := gBN.rf hB
  refine lv_aload_n hx hb dX4_hasTurns_0 rfl (lv_at hl 0 rfl) ?_
  refine gs_get (C := RX4) (T := TX4) (N := 14) hx hb hts inX4 hown hK hM 25 z.toNatClampNeg 2 (gs_sel hz_z) rfl rfl (by decide) (hts _ gm_192) (fun _ h9 => h9) rfl dX4_hasTurns_1 ?_
  refine lv_iload_n hx hb dX4_hasTurns_4 rfl (lv_at hl 1 rfl) ?_
  refine gs_iald hx hb hK hM 28 z.toNatClampNeg (gs_sel hz_z) rfl (vp_in_iff.mpr ⟨by omega, by omega⟩) dX4_hasTurns_5 ?_
  refine lv_topi (fun x_1 ex_1 => ?_)
  have qx_1 : x_1.toInt = (st 28 z.toNatClampNeg (x.toNatClampNeg)).toInt := congrArg Int32.toInt ex_1
  have bx_1 : (0 : Int) ≤ x_1.toInt ∧ x_1.toInt ≤ (72 : Int) := by rw [qx_1]; exact hB_st.1 28 z.toNatClampNeg (x.toNatClampNeg)
  refine lv_if_le (tgt := 13) hx hb dX4_hasTurns_6 (by decide) (fun c_2 => ?_) (fun c_2 => ?_)
  · have ic_2 := gz_le (rfl : x_1.toInt = x_1.toInt) (by decide : (0 : Int32).toInt = 0) c_2
    refine lv_iconst (v := 0) hx hb dX4_hasTurns_13 (by decide) ?_
    exact gs_iret hx hb hr hlocks hM hS (by decide) ⟨hB_st, (Or.inr (rfl))⟩ (by exact Nat.le_refl _) (by exact Nat.le_refl _) dX4_hasTurns_14
  · have ic_2 := gz_nle (rfl : x_1.toInt = x_1.toInt) (by decide : (0 : Int32).toInt = 0) c_2
    refine lv_iconst (v := 1) hx hb dX4_hasTurns_9 (by decide) ?_
    refine lv_goto (tgt := 14) hx hb dX4_hasTurns_10 (by decide) ?_
    exact gs_iret hx hb hr hlocks hM hS (by decide) ⟨hB_st, (Or.inl rfl)⟩ (by exact Nat.le_refl _) (by exact Nat.le_refl _) dX4_hasTurns_14

set_option maxHeartbeats 4000000 in
set_option maxRecDepth 100000 in
/-- WellCourt$Law.addTurn -/
theorem s_X4_addTurn (l : Launch) (G : va_G) (cy : Nat → ClassId) (sK sV : Nat → Nat) (ad : Nat → Nat → Nat) (sz : Nat) (st : gS) (hB : gBd bX st) (z : Int32) (x : Int32) (y : Int32) (w : Int32) (Xx : Int) (Xy : Int) (Xw : Int) (kx : x.toInt = Xx) (ky : y.toInt = Xy) (kw : w.toInt = Xw) (hz_z : (0 : Int) ≤ z.toInt ∧ z.toInt ≤ (1 : Int)) (hx0 : 0 ≤ Xx) (hx1 : Xx < 6) : gsMv l yX4_addTurn cX4_addTurn 5 ({ frames := 0, cells := 0, slots := 0, locals := 0 } : Room) G cy sK sV (shX cy ad) cnX ad sz [.ref (ad 25 z.toNatClampNeg), .int x, .int y, .int w] st (fun (u : gS) => gBN bX kX [2700, 2800] st u ∧ (True)) := by
  refine gs_start (fun A => gsQv G (shX cy ad) cnX ad _ A) (by decide) (Nat.le_of_ble_eq_true rfl) ?_
  intro p e s m below meth c A ls H hx hb hr hml hlocks hown hts hK hov hE hI hM hm hS hA hl
  have hl : lv_has ls 5 [(0, .ref (ad 25 z.toNatClampNeg)), (1, .int x), (2, .int y), (3, .int w)] := hl
  have hB_st : gBN bX kX [2700, 2800] st st := gBN.rf hB
  have lh_w : (-2147483648 : Int) ≤ w.toInt ∧ w.toInt ≤ (2147483647 : Int) := ⟨gi_lo _, gi_hi _⟩
  generalize hQe : MQ below _ _ s _ _ A = Q
  refine lv_iconst (v := 0) hx hb dX4_addTurn_0 (by decide) ?_
  refine lv_istore (lv' := [(4, .int 0), (0, .ref (ad 25 z.toNatClampNeg)), (1, .int x), (2, .int y), (3, .int w)]) hx hb dX4_addTurn_1 hl (by decide) rfl (fun ls hl => ?_)
  have lp1 : ∀ (n1 : Nat) (sv1 : gS) (y1_0 : Int32) (H : Heap) (locs : List Loc) (ls : Array Slot), (Xw - y1_0.toInt).toNat < n1 → gBN bX kX [2700, 2800] st sv1 → (0 ≤ y1_0.toInt) → gM G (shX cy ad) cnX ad sv1 H → va_S A s.heap H locs → lv_has ls 5 [(4, .int y1_0), (0, .ref (ad 25 z.toNatClampNeg)), (1, .int x), (2, .int y), (3, .int w)] → W p l e ({ frames := 0, cells := 0, slots := 0, locals := 0 } : Room) s m [.ref (ad 25 z.toNatClampNeg), .int x, .int y, .int w].toArray below meth c H locs 0 0 Q (F0 m 3 ls []) := by
    intro n1
    induction n1 with
    | zero => intro sv1 y1_0 H locs ls h9; exact absurd h9 (Nat.not_lt_zero _)
    | succ n1 ih_1 =>
      intro sv1 y1_0 H locs ls hme1 hB_sv1 hv1_0 hM hS hl
      refine lv_iload hx hb dX4_addTurn_3 (lv_at hl 0 rfl) ?_
      refine lv_iload_n hx hb dX4_addTurn_5 rfl (lv_at hl 4 rfl) ?_
      refine lv_icmp_ge (tgt := 55) hx hb dX4_addTurn_6 (by decide) (fun c_2 => ?_) (fun c_2 => ?_)
      · have ic_2 := gz_le (rfl : w.toInt = w.toInt) (rfl : y1_0.toInt = y1_0.toInt) c_2
        rw [← hQe]
        exact gs_vret hx hb hr hlocks hM hS ⟨hB_sv1, trivial⟩ (by exact Nat.le_refl _) (by exact Nat.le_refl _) dX4_addTurn_55
      · have ic_2 := gz_nle (rfl : w.toInt = w.toInt) (rfl : y1_0.toInt = y1_0.toInt) c_2
        have lc_2 := gi_hi w
        refine lv_aload_n hx hb dX4_addTurn_9 rfl (lv_at hl 1 rfl) ?_
        refine gs_get (C := RX4) (T := TX4) (N := 14) hx hb hts inX4 hown hK hM 25 z.toNatClampNeg 2 (gs_sel hz_z) rfl rfl (by decide) (hts _ gm_192) (fun _ h9 => h9) rfl dX4_addTurn_10 ?_
        refine lv_iload_n hx hb dX4_addTurn_13 rfl (lv_at hl 2 rfl) ?_
        refine gs_iald hx hb hK hM 28 z.toNatClampNeg (gs_sel hz_z) rfl (vp_in_iff.mpr ⟨by omega, by omega⟩) dX4_addTurn_14 ?_
        refine lv_topi (fun x_3 ex_3 => ?_)
        have qx_3 : x_3.toInt = (sv1 28 z.toNatClampNeg (x.toNatClampNeg)).toInt := congrArg Int32.toInt ex_3
        have bx_3 : (0 : Int) ≤ x_3.toInt ∧ x_3.toInt ≤ (72 : Int) := by rw [qx_3]; exact hB_sv1.1 28 z.toNatClampNeg (x.toNatClampNeg)
        refine lv_aload_n hx hb dX4_addTurn_15 rfl (lv_at hl 1 rfl) ?_
        refine gs_get (C := RX4) (T := TX4) (N := 14) hx hb hts inX4 hown hK hM 25 z.toNatClampNeg 1 (gs_sel hz_z) rfl rfl (by decide) (hts _ gm_191) (fun _ h9 => h9) rfl dX4_addTurn_16 ?_
        refine lv_iload_n hx hb dX4_addTurn_19 rfl (lv_at hl 2 rfl) ?_
        have h_4 : x.toNatClampNeg < 6 := gs_lt (vp_in_iff.mpr ⟨by omega, by omega⟩)
        refine gs_alda hx hb hK hM 26 z.toNatClampNeg (gs_sel hz_z) rfl (vp_in_iff.mpr ⟨by omega, by omega⟩) (a := ad 27 (6 * z.toNatClampNeg + x.toNatClampNeg)) (if_pos h_4) dX4_addTurn_20 ?_
        refine gs_alen (v := 72) hx hb hK hM 27 (6 * z.toNatClampNeg + x.toNatClampNeg) (by show _ < 12; have h91 := h_4; have h92 : z.toNatClampNeg < 2 := (gs_sel hz_z); omega) rfl rfl dX4_addTurn_21 ?_
        refine lv_icmp_ge (tgt := 55) hx hb dX4_addTurn_22 (by decide) (fun c_5 => ?_) (fun c_5 => ?_)
        · have ic_5 := gz_le (by decide : (72 : Int32).toInt = 72) (rfl : x_3.toInt = x_3.toInt) c_5
          rw [← hQe]
          exact gs_vret hx hb hr hlocks hM hS ⟨hB_sv1, trivial⟩ (by exact Nat.le_refl _) (by exact Nat.le_refl _) dX4_addTurn_55
        · have ic_5 := gz_nle (by decide : (72 : Int32).toInt = 72) (rfl : x_3.toInt = x_3.toInt) c_5
          refine lv_aload_n hx hb dX4_addTurn_25 rfl (lv_at hl 1 rfl) ?_
          refine gs_get (C := RX4) (T := TX4) (N := 14) hx hb hts inX4 hown hK hM 25 z.toNatClampNeg 1 (gs_sel hz_z) rfl rfl (by decide) (hts _ gm_191) (fun _ h9 => h9) rfl dX4_addTurn_26 ?_
          refine lv_iload_n hx hb dX4_addTurn_29 rfl (lv_at hl 2 rfl) ?_
          have h_6 : x.toNatClampNeg < 6 := gs_lt (vp_in_iff.mpr ⟨by omega, by omega⟩)
          refine gs_alda hx hb hK hM 26 z.toNatClampNeg (gs_sel hz_z) rfl (vp_in_iff.mpr ⟨by omega, by omega⟩) (a := ad 27 (6 * z.toNatClampNeg + x.toNatClampNeg)) (if_pos h_6) dX4_addTurn_30 ?_
          refine lv_aload_n hx hb dX4_addTurn_31 rfl (lv_at hl 1 rfl) ?_
          refine gs_get (C := RX4) (T := TX4) (N := 14) hx hb hts inX4 hown hK hM 25 z.toNatClampNeg 2 (gs_sel hz_z) rfl rfl (by decide) (hts _ gm_192) (fun _ h9 => h9) rfl dX4_addTurn_32 ?_
          refine lv_iload_n hx hb dX4_addTurn_35 rfl (lv_at hl 2 rfl) ?_
          refine gs_iald hx hb hK hM 28 z.toNatClampNeg (gs_sel hz_z) rfl (vp_in_iff.mpr ⟨by omega, by omega⟩) dX4_addTurn_36 ?_
          refine lv_topi (fun x_7 ex_7 => ?_)
          have qx_7 : x_7.toInt = (sv1 28 z.toNatClampNeg (x.toNatClampNeg)).toInt := congrArg Int32.toInt ex_7
          have bx_7 : (0 : Int) ≤ x_7.toInt ∧ x_7.toInt ≤ (72 : Int) := by rw [qx_7]; exact hB_sv1.1 28 z.toNatClampNeg (x.toNatClampNeg)
          refine lv_iload_n hx hb dX4_addTurn_37 rfl (lv_at hl 3 rfl) ?_
          refine gs_iast hx hb hK hI hm hM hS 27 (6 * z.toNatClampNeg + x.toNatClampNeg) (by show _ < 12; have h91 := h_6; have h92 : z.toNatClampNeg < 2 := (gs_sel hz_z); omega) (fun _ => rfl) (vp_in_iff.mpr ⟨by omega, by omega⟩) dX4_addTurn_38 (fun st_8 H locs est_8 hM hS => ?_)
          have hB_st_8 : gBN bX kX [2700, 2800] st st_8 := by rw [est_8]; exact hB_sv1.up (show (2700 : Nat) ∈ _ from by decide) (gi_lo _) (gi_hi _)
          refine lv_aload_n hx hb dX4_addTurn_39 rfl (lv_at hl 1 rfl) ?_
          refine gs_get (C := RX4) (T := TX4) (N := 14) hx hb hts inX4 hown hK hM 25 z.toNatClampNeg 2 (gs_sel hz_z) rfl rfl (by decide) (hts _ gm_192) (fun _ h9 => h9) rfl dX4_addTurn_40 ?_
          refine lv_iload_n hx hb dX4_addTurn_43 rfl (lv_at hl 2 rfl) ?_
          refine lv_dup2_11 hx hb dX4_addTurn_44 rfl rfl ?_
          refine gs_iald hx hb hK hM 28 z.toNatClampNeg (gs_sel hz_z) rfl (vp_in_iff.mpr ⟨by omega, by omega⟩) dX4_addTurn_45 ?_
          refine lv_topi (fun x_9 ex_9 => ?_)
          have qx_9 : x_9.toInt = (st_8 28 z.toNatClampNeg (x.toNatClampNeg)).toInt := congrArg Int32.toInt ex_9
          have bx_9 : (0 : Int) ≤ x_9.toInt ∧ x_9.toInt ≤ (72 : Int) := by rw [qx_9]; exact hB_st_8.1 28 z.toNatClampNeg (x.toNatClampNeg)
          have rx_9 : x_9.toInt = ((sv1 28 z.toNatClampNeg (x.toNatClampNeg)) : Int32).toInt := by rw [ex_9]; exact congrArg Int32.toInt (((congrFun (congrFun (congrFun est_8 28) z.toNatClampNeg) (x.toNatClampNeg)).trans (congrFun (congrFun (gU_k (by decide)) z.toNatClampNeg) (x.toNatClampNeg))))
          refine lv_iconst (v := 1) hx hb dX4_addTurn_46 (by decide) ?_
          refine lv_iadd hx hb dX4_addTurn_47 ?_
          refine lv_topi (fun x_10 ex_10 => ?_)
          try have tx_10 : x_10.toInt = x_9.toInt + 1 := by rw [ex_10]; exact gz_addP (x := x_9.toInt) (y := 1) rfl (by decide) (by omega) (by omega)
          refine gs_iast hx hb hK hI hm hM hS 28 z.toNatClampNeg (gs_sel hz_z) (fun _ => rfl) (vp_in_iff.mpr ⟨by omega, by omega⟩) dX4_addTurn_48 (fun st_11 H locs est_11 hM hS => ?_)
          have hB_st_11 : gBN bX kX [2700, 2800] st st_11 := by rw [est_11]; exact hB_st_8.up (show (2800 : Nat) ∈ _ from by decide) (show (0 : Int) ≤ x_10.toInt from by omega) (show x_10.toInt ≤ (72 : Int) from by omega)
          obtain ⟨x_12, ex_12⟩ : ∃ y : Int32, y = y1_0 + 1 := ⟨_, rfl⟩
          try have tx_12 : x_12.toInt = y1_0.toInt + 1 := by rw [ex_12]; exact gz_addP (x := y1_0.toInt) (y := 1) rfl (by decide) (by omega) (by omega)
          refine lv_iinc (v := (x_12)) (lv' := [(4, .int x_12), (0, .ref (ad 25 z.toNatClampNeg)), (1, .int x), (2, .int y), (3, .int w)]) hx hb dX4_addTurn_49 hl (k := 0) rfl (by rw [ex_12]; rfl) (by decide) rfl (fun ls hl => ?_)
          refine lv_goto (tgt := 3) hx hb dX4_addTurn_52 (by decide) ?_
          exact ih_1 st_11 (x_12 : Int32) H _ ls (by omega) hB_st_11 (by omega) hM hS (lv_sub hl [0, 1, 2, 3, 4] rfl)
  exact lp1 ((Xw - ((0 : Int32) : Int32).toInt).toNat + 1) st ((0 : Int32) : Int32) H _ ls (Nat.lt_succ_self _) hB_st (by have hl0 : (0 : Int32).toInt = 0 := (by decide); omega) hM hS (lv_sub hl [0, 1, 2, 3, 4] rfl)

set_option maxHeartbeats 4000000 in
set_option maxRecDepth 100000 in
/-- WellCourt$Law.addWed -/
theorem s_X4_addWed (l : Launch) (G : va_G) (cy : Nat → ClassId) (sK sV : Nat → Nat) (ad : Nat → Nat → Nat) (sz : Nat) (st : gS) (hB : gBd bX st) (z : Int32) (x : Int32) (y : Int32) (Xx : Int) (Xy : Int) (kx : x.toInt = Xx) (ky : y.toInt = Xy) (hz_z : (0 : Int) ≤ z.toInt ∧ z.toInt ≤ (1 : Int)) (hx0 : 0 ≤ Xx) (hx1 : Xx < 6) (hy0 : 0 ≤ Xy) (hy1 : Xy < 6) : gsMv l yX4_addWed cX4_addWed 3 ({ frames := 0, cells := 0, slots := 0, locals := 0 } : Room) G cy sK sV (shX cy ad) cnX ad sz [.ref (ad 25 z.toNatClampNeg), .int x, .int y] st (fun (u : gS) => gBN bX kX [2900] st u ∧ (True)) := by
  refine gs_start (fun A => gsQv G (shX cy ad) cnX ad _ A) (by decide) (Nat.le_of_ble_eq_true rfl) ?_
  intro p e s m below meth c A ls H hx hb hr hml hlocks hown hts hK hov hE hI hM hm hS hA hl
  have hl : lv_has ls 3 [(0, .ref (ad 25 z.toNatClampNeg)), (1, .int x), (2, .int y)] := hl
  have hB_st : gBN bX kX [2900] st st := gBN.rf hB
  refine lv_aload_n hx hb dX4_addWed_0 rfl (lv_at hl 0 rfl) ?_
  refine gs_get (C := RX4) (T := TX4) (N := 14) hx hb hts inX4 hown hK hM 25 z.toNatClampNeg 3 (gs_sel hz_z) rfl rfl (by decide) (hts _ gm_193) (fun _ h9 => h9) rfl dX4_addWed_1 ?_
  refine lv_iload_n hx hb dX4_addWed_4 rfl (lv_at hl 1 rfl) ?_
  refine lv_dup2_11 hx hb dX4_addWed_5 rfl rfl ?_
  refine gs_iald hx hb hK hM 29 z.toNatClampNeg (gs_sel hz_z) rfl (vp_in_iff.mpr ⟨by omega, by omega⟩) dX4_addWed_6 ?_
  refine lv_topi (fun x_1 ex_1 => ?_)
  have qx_1 : x_1.toInt = (st 29 z.toNatClampNeg (x.toNatClampNeg)).toInt := congrArg Int32.toInt ex_1
  refine lv_iconst (v := 1) hx hb dX4_addWed_7 (by decide) ?_
  refine lv_iload_n hx hb dX4_addWed_8 rfl (lv_at hl 2 rfl) ?_
  refine lv_ishl hx hb dX4_addWed_9 ?_
  refine lv_topi (fun x_2 ex_2 => ?_)
  refine lv_ior hx hb dX4_addWed_10 ?_
  refine lv_topi (fun x_3 ex_3 => ?_)
  refine gs_iast hx hb hK hI hm hM hS 29 z.toNatClampNeg (gs_sel hz_z) (fun _ => rfl) (vp_in_iff.mpr ⟨by omega, by omega⟩) dX4_addWed_11 (fun st_4 H locs est_4 hM hS => ?_)
  have hB_st_4 : gBN bX kX [2900] st st_4 := by rw [est_4]; exact hB_st.up (show (2900 : Nat) ∈ _ from by decide) (gi_lo _) (gi_hi _)
  refine lv_aload_n hx hb dX4_addWed_12 rfl (lv_at hl 0 rfl) ?_
  refine gs_get (C := RX4) (T := TX4) (N := 14) hx hb hts inX4 hown hK hM 25 z.toNatClampNeg 3 (gs_sel hz_z) rfl rfl (by decide) (hts _ gm_193) (fun _ h9 => h9) rfl dX4_addWed_13 ?_
  refine lv_iload_n hx hb dX4_addWed_16 rfl (lv_at hl 2 rfl) ?_
  refine lv_dup2_11 hx hb dX4_addWed_17 rfl rfl ?_
  refine gs_iald hx hb hK hM 29 z.toNatClampNeg (gs_sel hz_z) rfl (vp_in_iff.mpr ⟨by omega, by omega⟩) dX4_addWed_18 ?_
  refine lv_topi (fun x_5 ex_5 => ?_)
  have qx_5 : x_5.toInt = (st_4 29 z.toNatClampNeg (y.toNatClampNeg)).toInt := congrArg Int32.toInt ex_5
  refine lv_iconst (v := 1) hx hb dX4_addWed_19 (by decide) ?_
  refine lv_iload_n hx hb dX4_addWed_20 rfl (lv_at hl 1 rfl) ?_
  refine lv_ishl hx hb dX4_addWed_21 ?_
  refine lv_topi (fun x_6 ex_6 => ?_)
  refine lv_ior hx hb dX4_addWed_22 ?_
  refine lv_topi (fun x_7 ex_7 => ?_)
  refine gs_iast hx hb hK hI hm hM hS 29 z.toNatClampNeg (gs_sel hz_z) (fun _ => rfl) (vp_in_iff.mpr ⟨by omega, by omega⟩) dX4_addWed_23 (fun st_8 H locs est_8 hM hS => ?_)
  have hB_st_8 : gBN bX kX [2900] st st_8 := by rw [est_8]; exact hB_st_4.up (show (2900 : Nat) ∈ _ from by decide) (gi_lo _) (gi_hi _)
  exact gs_vret hx hb hr hlocks hM hS ⟨hB_st_8, trivial⟩ (by exact Nat.le_refl _) (by exact Nat.le_refl _) dX4_addWed_24

set_option maxHeartbeats 4000000 in
set_option maxRecDepth 100000 in
/-- WellCourt$Law.addDry -/
theorem s_X4_addDry (l : Launch) (G : va_G) (cy : Nat → ClassId) (sK sV : Nat → Nat) (ad : Nat → Nat → Nat) (sz : Nat) (st : gS) (hB : gBd bX st) (z : Int32) (x : Int32) (y : Int32) (Xx : Int) (Xy : Int) (kx : x.toInt = Xx) (ky : y.toInt = Xy) (hz_z : (0 : Int) ≤ z.toInt ∧ z.toInt ≤ (1 : Int)) (hy0 : 0 ≤ Xy) (hy1 : Xy < 6) : gsMv l yX4_addDry cX4_addDry 3 ({ frames := 0, cells := 0, slots := 0, locals := 0 } : Room) G cy sK sV (shX cy ad) cnX ad sz [.ref (ad 25 z.toNatClampNeg), .int x, .int y] st (fun (u : gS) => gBN bX kX [3000] st u ∧ (True)) := by
  refine gs_start (fun A => gsQv G (shX cy ad) cnX ad _ A) (by decide) (Nat.le_of_ble_eq_true rfl) ?_
  intro p e s m below meth c A ls H hx hb hr hml hlocks hown hts hK hov hE hI hM hm hS hA hl
  have hl : lv_has ls 3 [(0, .ref (ad 25 z.toNatClampNeg)), (1, .int x), (2, .int y)] := hl
  have hB_st : gBN bX kX [3000] st st := gBN.rf hB
  refine lv_aload_n hx hb dX4_addDry_0 rfl (lv_at hl 0 rfl) ?_
  refine gs_get (C := RX4) (T := TX4) (N := 14) hx hb hts inX4 hown hK hM 25 z.toNatClampNeg 4 (gs_sel hz_z) rfl rfl (by decide) (hts _ gm_194) (fun _ h9 => h9) rfl dX4_addDry_1 ?_
  refine lv_iload_n hx hb dX4_addDry_4 rfl (lv_at hl 2 rfl) ?_
  refine lv_dup2_11 hx hb dX4_addDry_5 rfl rfl ?_
  refine gs_iald hx hb hK hM 30 z.toNatClampNeg (gs_sel hz_z) rfl (vp_in_iff.mpr ⟨by omega, by omega⟩) dX4_addDry_6 ?_
  refine lv_topi (fun x_1 ex_1 => ?_)
  have qx_1 : x_1.toInt = (st 30 z.toNatClampNeg (y.toNatClampNeg)).toInt := congrArg Int32.toInt ex_1
  refine lv_iconst (v := 1) hx hb dX4_addDry_7 (by decide) ?_
  refine lv_iload_n hx hb dX4_addDry_8 rfl (lv_at hl 1 rfl) ?_
  refine lv_ishl hx hb dX4_addDry_9 ?_
  refine lv_topi (fun x_2 ex_2 => ?_)
  refine lv_ior hx hb dX4_addDry_10 ?_
  refine lv_topi (fun x_3 ex_3 => ?_)
  refine gs_iast hx hb hK hI hm hM hS 30 z.toNatClampNeg (gs_sel hz_z) (fun _ => rfl) (vp_in_iff.mpr ⟨by omega, by omega⟩) dX4_addDry_11 (fun st_4 H locs est_4 hM hS => ?_)
  have hB_st_4 : gBN bX kX [3000] st st_4 := by rw [est_4]; exact hB_st.up (show (3000 : Nat) ∈ _ from by decide) (gi_lo _) (gi_hi _)
  exact gs_vret hx hb hr hlocks hM hS ⟨hB_st_4, trivial⟩ (by exact Nat.le_refl _) (by exact Nat.le_refl _) dX4_addDry_12

set_option maxHeartbeats 4000000 in
set_option maxRecDepth 100000 in
/-- WellCourt$Law.addDrought -/
theorem s_X4_addDrought (l : Launch) (G : va_G) (cy : Nat → ClassId) (sK sV : Nat → Nat) (ad : Nat → Nat → Nat) (sz : Nat) (st : gS) (hB : gBd bX st) (z : Int32) (x : Int32) (y : Int32) (w : Int32) (Xx : Int) (Xy : Int) (Xw : Int) (kx : x.toInt = Xx) (ky : y.toInt = Xy) (kw : w.toInt = Xw) (hz_z : (0 : Int) ≤ z.toInt ∧ z.toInt ≤ (1 : Int)) : gsMv l yX4_addDrought cX4_addDrought 4 ({ frames := 0, cells := 0, slots := 0, locals := 0 } : Room) G cy sK sV (shX cy ad) cnX ad sz [.ref (ad 25 z.toNatClampNeg), .int x, .int y, .int w] st (fun (u : gS) => gBN bX kX [2505, 3100, 3200, 3300] st u ∧ (True)) := by
  refine gs_start (fun A => gsQv G (shX cy ad) cnX ad _ A) (by decide) (Nat.le_of_ble_eq_true rfl) ?_
  intro p e s m below meth c A ls H hx hb hr hml hlocks hown hts hK hov hE hI hM hm hS hA hl
  have hl : lv_has ls 4 [(0, .ref (ad 25 z.toNatClampNeg)), (1, .int x), (2, .int y), (3, .int w)] := hl
  have hB_st : gBN bX kX [2505, 3100, 3200, 3300] st st := gBN.rf hB
  refine lv_aload_n hx hb dX4_addDrought_0 rfl (lv_at hl 0 rfl) ?_
  refine gs_get (C := RX4) (T := TX4) (N := 14) hx hb hts inX4 hown hK hM 25 z.toNatClampNeg 5 (gs_sel hz_z) rfl rfl (by decide) (hts _ gm_195) (fun _ h9 => h9) rfl dX4_addDrought_1 ?_
  have bf_1 : (0 : Int) ≤ (st 25 z.toNatClampNeg 5).toInt ∧ (st 25 z.toNatClampNeg 5).toInt ≤ (20 : Int) := hB_st.1 25 z.toNatClampNeg 5
  refine lv_bipush (v := 20) hx hb dX4_addDrought_4 (by decide) ?_
  refine lv_icmp_ge (tgt := 49) hx hb dX4_addDrought_6 (by decide) (fun c_2 => ?_) (fun c_2 => ?_)
  · have ic_2 := gz_le (by decide : (20 : Int32).toInt = 20) (rfl : (st 25 z.toNatClampNeg 5).toInt = (st 25 z.toNatClampNeg 5).toInt) c_2
    exact gs_vret hx hb hr hlocks hM hS ⟨hB_st, trivial⟩ (by exact Nat.le_refl _) (by exact Nat.le_refl _) dX4_addDrought_49
  · have ic_2 := gz_nle (by decide : (20 : Int32).toInt = 20) (rfl : (st 25 z.toNatClampNeg 5).toInt = (st 25 z.toNatClampNeg 5).toInt) c_2
    refine lv_aload_n hx hb dX4_addDrought_9 rfl (lv_at hl 0 rfl) ?_
    refine gs_get (C := RX4) (T := TX4) (N := 14) hx hb hts inX4 hown hK hM 25 z.toNatClampNeg 6 (gs_sel hz_z) rfl rfl (by decide) (hts _ gm_196) (fun _ h9 => h9) rfl dX4_addDrought_10 ?_
    refine lv_aload_n hx hb dX4_addDrought_13 rfl (lv_at hl 0 rfl) ?_
    refine gs_get (C := RX4) (T := TX4) (N := 14) hx hb hts inX4 hown hK hM 25 z.toNatClampNeg 5 (gs_sel hz_z) rfl rfl (by decide) (hts _ gm_195) (fun _ h9 => h9) rfl dX4_addDrought_14 ?_
    have bf_3 : (0 : Int) ≤ (st 25 z.toNatClampNeg 5).toInt ∧ (st 25 z.toNatClampNeg 5).toInt ≤ (20 : Int) := hB_st.1 25 z.toNatClampNeg 5
    refine lv_iload_n hx hb dX4_addDrought_17 rfl (lv_at hl 1 rfl) ?_
    refine gs_iast hx hb hK hI hm hM hS 31 z.toNatClampNeg (gs_sel hz_z) (fun _ => rfl) (vp_in_iff.mpr ⟨by omega, by omega⟩) dX4_addDrought_18 (fun st_4 H locs est_4 hM hS => ?_)
    have hB_st_4 : gBN bX kX [2505, 3100, 3200, 3300] st st_4 := by rw [est_4]; exact hB_st.up (show (3100 : Nat) ∈ _ from by decide) (gi_lo _) (gi_hi _)
    refine lv_aload_n hx hb dX4_addDrought_19 rfl (lv_at hl 0 rfl) ?_
    refine gs_get (C := RX4) (T := TX4) (N := 14) hx hb hts inX4 hown hK hM 25 z.toNatClampNeg 7 (gs_sel hz_z) rfl rfl (by decide) (hts _ gm_197) (fun _ h9 => h9) rfl dX4_addDrought_20 ?_
    refine lv_aload_n hx hb dX4_addDrought_23 rfl (lv_at hl 0 rfl) ?_
    refine gs_get (C := RX4) (T := TX4) (N := 14) hx hb hts inX4 hown hK hM 25 z.toNatClampNeg 5 (gs_sel hz_z) rfl rfl (by decide) (hts _ gm_195) (fun _ h9 => h9) rfl dX4_addDrought_24 ?_
    refine lv_topi (fun x_5 ex_5 => ?_)
    have ex_5 : (st 25 z.toNatClampNeg 5) = x_5 := Eq.symm (ex_5.trans ((congrFun (congrFun (congrFun est_4 25) z.toNatClampNeg) 5).trans (congrFun (congrFun (gU_k (by decide)) z.toNatClampNeg) 5)))
    subst ex_5
    have bf_6 : (0 : Int) ≤ (st 25 z.toNatClampNeg 5).toInt ∧ (st 25 z.toNatClampNeg 5).toInt ≤ (20 : Int) := hB_st.1 25 z.toNatClampNeg 5
    refine lv_iload_n hx hb dX4_addDrought_27 rfl (lv_at hl 2 rfl) ?_
    refine gs_iast hx hb hK hI hm hM hS 32 z.toNatClampNeg (gs_sel hz_z) (fun _ => rfl) (vp_in_iff.mpr ⟨by omega, by omega⟩) dX4_addDrought_28 (fun st_7 H locs est_7 hM hS => ?_)
    have hB_st_7 : gBN bX kX [2505, 3100, 3200, 3300] st st_7 := by rw [est_7]; exact hB_st_4.up (show (3200 : Nat) ∈ _ from by decide) (gi_lo _) (gi_hi _)
    refine lv_aload_n hx hb dX4_addDrought_29 rfl (lv_at hl 0 rfl) ?_
    refine gs_get (C := RX4) (T := TX4) (N := 14) hx hb hts inX4 hown hK hM 25 z.toNatClampNeg 8 (gs_sel hz_z) rfl rfl (by decide) (hts _ gm_198) (fun _ h9 => h9) rfl dX4_addDrought_30 ?_
    refine lv_aload_n hx hb dX4_addDrought_33 rfl (lv_at hl 0 rfl) ?_
    refine gs_get (C := RX4) (T := TX4) (N := 14) hx hb hts inX4 hown hK hM 25 z.toNatClampNeg 5 (gs_sel hz_z) rfl rfl (by decide) (hts _ gm_195) (fun _ h9 => h9) rfl dX4_addDrought_34 ?_
    refine lv_topi (fun x_8 ex_8 => ?_)
    have ex_8 : (st 25 z.toNatClampNeg 5) = x_8 := Eq.symm (ex_8.trans (((congrFun (congrFun (congrFun est_7 25) z.toNatClampNeg) 5).trans (congrFun (congrFun (gU_k (by decide)) z.toNatClampNeg) 5)).trans ((congrFun (congrFun (congrFun est_4 25) z.toNatClampNeg) 5).trans (congrFun (congrFun (gU_k (by decide)) z.toNatClampNeg) 5))))
    subst ex_8
    have bf_9 : (0 : Int) ≤ (st 25 z.toNatClampNeg 5).toInt ∧ (st 25 z.toNatClampNeg 5).toInt ≤ (20 : Int) := hB_st.1 25 z.toNatClampNeg 5
    refine lv_iload_n hx hb dX4_addDrought_37 rfl (lv_at hl 3 rfl) ?_
    refine gs_iast hx hb hK hI hm hM hS 33 z.toNatClampNeg (gs_sel hz_z) (fun _ => rfl) (vp_in_iff.mpr ⟨by omega, by omega⟩) dX4_addDrought_38 (fun st_10 H locs est_10 hM hS => ?_)
    have hB_st_10 : gBN bX kX [2505, 3100, 3200, 3300] st st_10 := by rw [est_10]; exact hB_st_7.up (show (3300 : Nat) ∈ _ from by decide) (gi_lo _) (gi_hi _)
    refine lv_aload_n hx hb dX4_addDrought_39 rfl (lv_at hl 0 rfl) ?_
    refine lv_dup hx hb dX4_addDrought_40 rfl ?_
    refine gs_get (C := RX4) (T := TX4) (N := 14) hx hb hts inX4 hown hK hM 25 z.toNatClampNeg 5 (gs_sel hz_z) rfl rfl (by decide) (hts _ gm_195) (fun _ h9 => h9) rfl dX4_addDrought_41 ?_
    refine lv_topi (fun x_11 ex_11 => ?_)
    have ex_11 : (st 25 z.toNatClampNeg 5) = x_11 := Eq.symm (ex_11.trans (((congrFun (congrFun (congrFun est_10 25) z.toNatClampNeg) 5).trans (congrFun (congrFun (gU_k (by decide)) z.toNatClampNeg) 5)).trans (((congrFun (congrFun (congrFun est_7 25) z.toNatClampNeg) 5).trans (congrFun (congrFun (gU_k (by decide)) z.toNatClampNeg) 5)).trans ((congrFun (congrFun (congrFun est_4 25) z.toNatClampNeg) 5).trans (congrFun (congrFun (gU_k (by decide)) z.toNatClampNeg) 5)))))
    subst ex_11
    have bf_12 : (0 : Int) ≤ (st 25 z.toNatClampNeg 5).toInt ∧ (st 25 z.toNatClampNeg 5).toInt ≤ (20 : Int) := hB_st.1 25 z.toNatClampNeg 5
    refine lv_iconst (v := 1) hx hb dX4_addDrought_44 (by decide) ?_
    refine lv_iadd hx hb dX4_addDrought_45 ?_
    refine lv_topi (fun x_13 ex_13 => ?_)
    try have tx_13 : x_13.toInt = (st 25 z.toNatClampNeg 5).toInt + 1 := by rw [ex_13]; exact gz_addP (x := (st 25 z.toNatClampNeg 5).toInt) (y := 1) rfl (by decide) (by omega) (by omega)
    refine gs_put (C := RX4) (T := TX4) (N := 14) (ty := .int) (val := .int x_13) hx hb hts inX4 tyX4 tyX4_ok nmX4 hown hK hI hm hM hS 25 z.toNatClampNeg 5 (gs_sel hz_z) rfl rfl (by decide) (hts _ gm_195) (fun _ h9 => h9) rfl (x_13 : Int32) rfl (by decide +kernel) rfl rfl (Nat.le_of_ble_eq_true rfl) dX4_addDrought_46 (fun st_14 H locs est_14 hM hS => ?_)
    have hB_st_14 : gBN bX kX [2505, 3100, 3200, 3300] st st_14 := by rw [est_14]; exact hB_st_10.up (show (2505 : Nat) ∈ _ from by decide) (show (0 : Int) ≤ x_13.toInt from by omega) (show x_13.toInt ≤ (20 : Int) from by omega)
    exact gs_vret hx hb hr hlocks hM hS ⟨hB_st_14, trivial⟩ (by exact Nat.le_refl _) (by exact Nat.le_refl _) dX4_addDrought_49

set_option maxHeartbeats 4000000 in
set_option maxRecDepth 100000 in
/-- WellCourt$Law.addGuest -/
theorem s_X4_addGuest (l : Launch) (G : va_G) (cy : Nat → ClassId) (sK sV : Nat → Nat) (ad : Nat → Nat → Nat) (sz : Nat) (st : gS) (hB : gBd bX st) (z : Int32) (x : Int32) (y : Int32) (w : Int32) (v : Int32) (Xx : Int) (Xy : Int) (Xw : Int) (Xv : Int) (kx : x.toInt = Xx) (ky : y.toInt = Xy) (kw : w.toInt = Xw) (kv : v.toInt = Xv) (hz_z : (0 : Int) ≤ z.toInt ∧ z.toInt ≤ (1 : Int)) : gsMv l yX4_addGuest cX4_addGuest 5 ({ frames := 0, cells := 0, slots := 0, locals := 0 } : Room) G cy sK sV (shX cy ad) cnX ad sz [.ref (ad 25 z.toNatClampNeg), .int x, .int y, .int w, .int v] st (fun (u : gS) => gBN bX kX [2509, 3400, 3500, 3600, 3700] st u ∧ (True)) := by
  refine gs_start (fun A => gsQv G (shX cy ad) cnX ad _ A) (by decide) (Nat.le_of_ble_eq_true rfl) ?_
  intro p e s m below meth c A ls H hx hb hr hml hlocks hown hts hK hov hE hI hM hm hS hA hl
  have hl : lv_has ls 5 [(0, .ref (ad 25 z.toNatClampNeg)), (1, .int x), (2, .int y), (3, .int w), (4, .int v)] := hl
  have hB_st : gBN bX kX [2509, 3400, 3500, 3600, 3700] st st := gBN.rf hB
  refine lv_aload_n hx hb dX4_addGuest_0 rfl (lv_at hl 0 rfl) ?_
  refine gs_get (C := RX4) (T := TX4) (N := 14) hx hb hts inX4 hown hK hM 25 z.toNatClampNeg 9 (gs_sel hz_z) rfl rfl (by decide) (hts _ gm_199) (fun _ h9 => h9) rfl dX4_addGuest_1 ?_
  have bf_1 : (0 : Int) ≤ (st 25 z.toNatClampNeg 9).toInt ∧ (st 25 z.toNatClampNeg 9).toInt ≤ (20 : Int) := hB_st.1 25 z.toNatClampNeg 9
  refine lv_bipush (v := 20) hx hb dX4_addGuest_4 (by decide) ?_
  refine lv_icmp_ge (tgt := 60) hx hb dX4_addGuest_6 (by decide) (fun c_2 => ?_) (fun c_2 => ?_)
  · have ic_2 := gz_le (by decide : (20 : Int32).toInt = 20) (rfl : (st 25 z.toNatClampNeg 9).toInt = (st 25 z.toNatClampNeg 9).toInt) c_2
    exact gs_vret hx hb hr hlocks hM hS ⟨hB_st, trivial⟩ (by exact Nat.le_refl _) (by exact Nat.le_refl _) dX4_addGuest_60
  · have ic_2 := gz_nle (by decide : (20 : Int32).toInt = 20) (rfl : (st 25 z.toNatClampNeg 9).toInt = (st 25 z.toNatClampNeg 9).toInt) c_2
    refine lv_aload_n hx hb dX4_addGuest_9 rfl (lv_at hl 0 rfl) ?_
    refine gs_get (C := RX4) (T := TX4) (N := 14) hx hb hts inX4 hown hK hM 25 z.toNatClampNeg 10 (gs_sel hz_z) rfl rfl (by decide) (hts _ gm_200) (fun _ h9 => h9) rfl dX4_addGuest_10 ?_
    refine lv_aload_n hx hb dX4_addGuest_13 rfl (lv_at hl 0 rfl) ?_
    refine gs_get (C := RX4) (T := TX4) (N := 14) hx hb hts inX4 hown hK hM 25 z.toNatClampNeg 9 (gs_sel hz_z) rfl rfl (by decide) (hts _ gm_199) (fun _ h9 => h9) rfl dX4_addGuest_14 ?_
    have bf_3 : (0 : Int) ≤ (st 25 z.toNatClampNeg 9).toInt ∧ (st 25 z.toNatClampNeg 9).toInt ≤ (20 : Int) := hB_st.1 25 z.toNatClampNeg 9
    refine lv_iload_n hx hb dX4_addGuest_17 rfl (lv_at hl 1 rfl) ?_
    refine gs_iast hx hb hK hI hm hM hS 34 z.toNatClampNeg (gs_sel hz_z) (fun _ => rfl) (vp_in_iff.mpr ⟨by omega, by omega⟩) dX4_addGuest_18 (fun st_4 H locs est_4 hM hS => ?_)
    have hB_st_4 : gBN bX kX [2509, 3400, 3500, 3600, 3700] st st_4 := by rw [est_4]; exact hB_st.up (show (3400 : Nat) ∈ _ from by decide) (gi_lo _) (gi_hi _)
    refine lv_aload_n hx hb dX4_addGuest_19 rfl (lv_at hl 0 rfl) ?_
    refine gs_get (C := RX4) (T := TX4) (N := 14) hx hb hts inX4 hown hK hM 25 z.toNatClampNeg 11 (gs_sel hz_z) rfl rfl (by decide) (hts _ gm_201) (fun _ h9 => h9) rfl dX4_addGuest_20 ?_
    refine lv_aload_n hx hb dX4_addGuest_23 rfl (lv_at hl 0 rfl) ?_
    refine gs_get (C := RX4) (T := TX4) (N := 14) hx hb hts inX4 hown hK hM 25 z.toNatClampNeg 9 (gs_sel hz_z) rfl rfl (by decide) (hts _ gm_199) (fun _ h9 => h9) rfl dX4_addGuest_24 ?_
    refine lv_topi (fun x_5 ex_5 => ?_)
    have ex_5 : (st 25 z.toNatClampNeg 9) = x_5 := Eq.symm (ex_5.trans ((congrFun (congrFun (congrFun est_4 25) z.toNatClampNeg) 9).trans (congrFun (congrFun (gU_k (by decide)) z.toNatClampNeg) 9)))
    subst ex_5
    have bf_6 : (0 : Int) ≤ (st 25 z.toNatClampNeg 9).toInt ∧ (st 25 z.toNatClampNeg 9).toInt ≤ (20 : Int) := hB_st.1 25 z.toNatClampNeg 9
    refine lv_iload_n hx hb dX4_addGuest_27 rfl (lv_at hl 2 rfl) ?_
    refine gs_iast hx hb hK hI hm hM hS 35 z.toNatClampNeg (gs_sel hz_z) (fun _ => rfl) (vp_in_iff.mpr ⟨by omega, by omega⟩) dX4_addGuest_28 (fun st_7 H locs est_7 hM hS => ?_)
    have hB_st_7 : gBN bX kX [2509, 3400, 3500, 3600, 3700] st st_7 := by rw [est_7]; exact hB_st_4.up (show (3500 : Nat) ∈ _ from by decide) (gi_lo _) (gi_hi _)
    refine lv_aload_n hx hb dX4_addGuest_29 rfl (lv_at hl 0 rfl) ?_
    refine gs_get (C := RX4) (T := TX4) (N := 14) hx hb hts inX4 hown hK hM 25 z.toNatClampNeg 12 (gs_sel hz_z) rfl rfl (by decide) (hts _ gm_202) (fun _ h9 => h9) rfl dX4_addGuest_30 ?_
    refine lv_aload_n hx hb dX4_addGuest_33 rfl (lv_at hl 0 rfl) ?_
    refine gs_get (C := RX4) (T := TX4) (N := 14) hx hb hts inX4 hown hK hM 25 z.toNatClampNeg 9 (gs_sel hz_z) rfl rfl (by decide) (hts _ gm_199) (fun _ h9 => h9) rfl dX4_addGuest_34 ?_
    refine lv_topi (fun x_8 ex_8 => ?_)
    have ex_8 : (st 25 z.toNatClampNeg 9) = x_8 := Eq.symm (ex_8.trans (((congrFun (congrFun (congrFun est_7 25) z.toNatClampNeg) 9).trans (congrFun (congrFun (gU_k (by decide)) z.toNatClampNeg) 9)).trans ((congrFun (congrFun (congrFun est_4 25) z.toNatClampNeg) 9).trans (congrFun (congrFun (gU_k (by decide)) z.toNatClampNeg) 9))))
    subst ex_8
    have bf_9 : (0 : Int) ≤ (st 25 z.toNatClampNeg 9).toInt ∧ (st 25 z.toNatClampNeg 9).toInt ≤ (20 : Int) := hB_st.1 25 z.toNatClampNeg 9
    refine lv_iload_n hx hb dX4_addGuest_37 rfl (lv_at hl 3 rfl) ?_
    refine gs_iast hx hb hK hI hm hM hS 36 z.toNatClampNeg (gs_sel hz_z) (fun _ => rfl) (vp_in_iff.mpr ⟨by omega, by omega⟩) dX4_addGuest_38 (fun st_10 H locs est_10 hM hS => ?_)
    have hB_st_10 : gBN bX kX [2509, 3400, 3500, 3600, 3700] st st_10 := by rw [est_10]; exact hB_st_7.up (show (3600 : Nat) ∈ _ from by decide) (gi_lo _) (gi_hi _)
    refine lv_aload_n hx hb dX4_addGuest_39 rfl (lv_at hl 0 rfl) ?_
    refine gs_get (C := RX4) (T := TX4) (N := 14) hx hb hts inX4 hown hK hM 25 z.toNatClampNeg 13 (gs_sel hz_z) rfl rfl (by decide) (hts _ gm_203) (fun _ h9 => h9) rfl dX4_addGuest_40 ?_
    refine lv_aload_n hx hb dX4_addGuest_43 rfl (lv_at hl 0 rfl) ?_
    refine gs_get (C := RX4) (T := TX4) (N := 14) hx hb hts inX4 hown hK hM 25 z.toNatClampNeg 9 (gs_sel hz_z) rfl rfl (by decide) (hts _ gm_199) (fun _ h9 => h9) rfl dX4_addGuest_44 ?_
    refine lv_topi (fun x_11 ex_11 => ?_)
    have ex_11 : (st 25 z.toNatClampNeg 9) = x_11 := Eq.symm (ex_11.trans (((congrFun (congrFun (congrFun est_10 25) z.toNatClampNeg) 9).trans (congrFun (congrFun (gU_k (by decide)) z.toNatClampNeg) 9)).trans (((congrFun (congrFun (congrFun est_7 25) z.toNatClampNeg) 9).trans (congrFun (congrFun (gU_k (by decide)) z.toNatClampNeg) 9)).trans ((congrFun (congrFun (congrFun est_4 25) z.toNatClampNeg) 9).trans (congrFun (congrFun (gU_k (by decide)) z.toNatClampNeg) 9)))))
    subst ex_11
    have bf_12 : (0 : Int) ≤ (st 25 z.toNatClampNeg 9).toInt ∧ (st 25 z.toNatClampNeg 9).toInt ≤ (20 : Int) := hB_st.1 25 z.toNatClampNeg 9
    refine lv_iload hx hb dX4_addGuest_47 (lv_at hl 4 rfl) ?_
    refine gs_iast hx hb hK hI hm hM hS 37 z.toNatClampNeg (gs_sel hz_z) (fun _ => rfl) (vp_in_iff.mpr ⟨by omega, by omega⟩) dX4_addGuest_49 (fun st_13 H locs est_13 hM hS => ?_)
    have hB_st_13 : gBN bX kX [2509, 3400, 3500, 3600, 3700] st st_13 := by rw [est_13]; exact hB_st_10.up (show (3700 : Nat) ∈ _ from by decide) (gi_lo _) (gi_hi _)
    refine lv_aload_n hx hb dX4_addGuest_50 rfl (lv_at hl 0 rfl) ?_
    refine lv_dup hx hb dX4_addGuest_51 rfl ?_
    refine gs_get (C := RX4) (T := TX4) (N := 14) hx hb hts inX4 hown hK hM 25 z.toNatClampNeg 9 (gs_sel hz_z) rfl rfl (by decide) (hts _ gm_199) (fun _ h9 => h9) rfl dX4_addGuest_52 ?_
    refine lv_topi (fun x_14 ex_14 => ?_)
    have ex_14 : (st 25 z.toNatClampNeg 9) = x_14 := Eq.symm (ex_14.trans (((congrFun (congrFun (congrFun est_13 25) z.toNatClampNeg) 9).trans (congrFun (congrFun (gU_k (by decide)) z.toNatClampNeg) 9)).trans (((congrFun (congrFun (congrFun est_10 25) z.toNatClampNeg) 9).trans (congrFun (congrFun (gU_k (by decide)) z.toNatClampNeg) 9)).trans (((congrFun (congrFun (congrFun est_7 25) z.toNatClampNeg) 9).trans (congrFun (congrFun (gU_k (by decide)) z.toNatClampNeg) 9)).trans ((congrFun (congrFun (congrFun est_4 25) z.toNatClampNeg) 9).trans (congrFun (congrFun (gU_k (by decide)) z.toNatClampNeg) 9))))))
    subst ex_14
    have bf_15 : (0 : Int) ≤ (st 25 z.toNatClampNeg 9).toInt ∧ (st 25 z.toNatClampNeg 9).toInt ≤ (20 : Int) := hB_st.1 25 z.toNatClampNeg 9
    refine lv_iconst (v := 1) hx hb dX4_addGuest_55 (by decide) ?_
    refine lv_iadd hx hb dX4_addGuest_56 ?_
    refine lv_topi (fun x_16 ex_16 => ?_)
    try have tx_16 : x_16.toInt = (st 25 z.toNatClampNeg 9).toInt + 1 := by rw [ex_16]; exact gz_addP (x := (st 25 z.toNatClampNeg 9).toInt) (y := 1) rfl (by decide) (by omega) (by omega)
    refine gs_put (C := RX4) (T := TX4) (N := 14) (ty := .int) (val := .int x_16) hx hb hts inX4 tyX4 tyX4_ok nmX4 hown hK hI hm hM hS 25 z.toNatClampNeg 9 (gs_sel hz_z) rfl rfl (by decide) (hts _ gm_199) (fun _ h9 => h9) rfl (x_16 : Int32) rfl (by decide +kernel) rfl rfl (Nat.le_of_ble_eq_true rfl) dX4_addGuest_57 (fun st_17 H locs est_17 hM hS => ?_)
    have hB_st_17 : gBN bX kX [2509, 3400, 3500, 3600, 3700] st st_17 := by rw [est_17]; exact hB_st_13.up (show (2509 : Nat) ∈ _ from by decide) (show (0 : Int) ≤ x_16.toInt from by omega) (show x_16.toInt ≤ (20 : Int) from by omega)
    exact gs_vret hx hb hr hlocks hM hS ⟨hB_st_17, trivial⟩ (by exact Nat.le_refl _) (by exact Nat.le_refl _) dX4_addGuest_60

set_option maxHeartbeats 4000000 in
set_option maxRecDepth 100000 in
/-- WellCourt$Law.turnOn -/
theorem s_X4_turnOn (l : Launch) (G : va_G) (cy : Nat → ClassId) (sK sV : Nat → Nat) (ad : Nat → Nat → Nat) (sz : Nat) (st : gS) (hB : gBd bX st) (z : Int32) (x : Int32) (y : Int32) (Xx : Int) (Xy : Int) (kx : x.toInt = Xx) (ky : y.toInt = Xy) (hz_z : (0 : Int) ≤ z.toInt ∧ z.toInt ≤ (1 : Int)) (hx0 : 0 ≤ Xx) (hx1 : Xx < 6) (hy0 : 0 ≤ Xy) : gsMi l yX4_turnOn cX4_turnOn 4 (some .int) ({ frames := 0, cells := 0, slots := 0, locals := 0 } : Room) G cy sK sV (shX cy ad) cnX ad sz [.ref (ad 25 z.toNatClampNeg), .int x, .int y] st (fun (r : Int32) (u : gS) => gBN bX kX [] st u ∧ (True)) := by
  refine gs_start (fun A => gsQi G (shX cy ad) cnX ad _ A) (by decide) (Nat.le_of_ble_eq_true rfl) ?_
  intro p e s m below meth c A ls H hx hb hr hml hlocks hown hts hK hov hE hI hM hm hS hA hl
  have hl : lv_has ls 4 [(0, .ref (ad 25 z.toNatClampNeg)), (1, .int x), (2, .int y)] := hl
  have hB_st : gBN bX kX [] st st := gBN.rf hB
  refine lv_aload_n hx hb dX4_turnOn_0 rfl (lv_at hl 0 rfl) ?_
  refine gs_get (C := RX4) (T := TX4) (N := 14) hx hb hts inX4 hown hK hM 25 z.toNatClampNeg 2 (gs_sel hz_z) rfl rfl (by decide) (hts _ gm_192) (fun _ h9 => h9) rfl dX4_turnOn_1 ?_
  refine lv_iload_n hx hb dX4_turnOn_4 rfl (lv_at hl 1 rfl) ?_
  refine gs_iald hx hb hK hM 28 z.toNatClampNeg (gs_sel hz_z) rfl (vp_in_iff.mpr ⟨by omega, by omega⟩) dX4_turnOn_5 ?_
  refine lv_topi (fun x_1 ex_1 => ?_)
  have qx_1 : x_1.toInt = (st 28 z.toNatClampNeg (x.toNatClampNeg)).toInt := congrArg Int32.toInt ex_1
  have bx_1 : (0 : Int) ≤ x_1.toInt ∧ x_1.toInt ≤ (72 : Int) := by rw [qx_1]; exact hB_st.1 28 z.toNatClampNeg (x.toNatClampNeg)
  refine lv_istore_n (lv' := [(3, .int x_1), (0, .ref (ad 25 z.toNatClampNeg)), (1, .int x), (2, .int y)]) hx hb dX4_turnOn_6 rfl hl (by decide) rfl (fun ls hl => ?_)
  refine lv_iload_n hx hb dX4_turnOn_7 rfl (lv_at hl 0 rfl) ?_
  refine lv_if_le (tgt := 24) hx hb dX4_turnOn_8 (by decide) (fun c_2 => ?_) (fun c_2 => ?_)
  · have ic_2 := gz_le (rfl : x_1.toInt = x_1.toInt) (by decide : (0 : Int32).toInt = 0) c_2
    refine lv_iconst (v := (-1)) hx hb dX4_turnOn_24 (by decide) ?_
    exact gs_iret hx hb hr hlocks hM hS rfl ⟨hB_st, trivial⟩ (by exact Nat.le_refl _) (by exact Nat.le_refl _) dX4_turnOn_25
  · have ic_2 := gz_nle (rfl : x_1.toInt = x_1.toInt) (by decide : (0 : Int32).toInt = 0) c_2
    refine lv_aload_n hx hb dX4_turnOn_11 rfl (lv_at hl 1 rfl) ?_
    refine gs_get (C := RX4) (T := TX4) (N := 14) hx hb hts inX4 hown hK hM 25 z.toNatClampNeg 1 (gs_sel hz_z) rfl rfl (by decide) (hts _ gm_191) (fun _ h9 => h9) rfl dX4_turnOn_12 ?_
    refine lv_iload_n hx hb dX4_turnOn_15 rfl (lv_at hl 2 rfl) ?_
    have h_3 : x.toNatClampNeg < 6 := gs_lt (vp_in_iff.mpr ⟨by omega, by omega⟩)
    refine gs_alda hx hb hK hM 26 z.toNatClampNeg (gs_sel hz_z) rfl (vp_in_iff.mpr ⟨by omega, by omega⟩) (a := ad 27 (6 * z.toNatClampNeg + x.toNatClampNeg)) (if_pos h_3) dX4_turnOn_16 ?_
    refine lv_iload_n hx hb dX4_turnOn_17 rfl (lv_at hl 3 rfl) ?_
    refine lv_iload_n hx hb dX4_turnOn_18 rfl (lv_at hl 0 rfl) ?_
    refine lv_irem hx hb dX4_turnOn_19 (fun h9 => by have h8 := congrArg Int32.toInt h9; have h7 : (0 : Int32).toInt = 0 := (by decide); omega) ?_
    refine lv_topi (fun x_4 ex_4 => ?_)
    try have tx_4 := gs_rem (y := x_1.toInt) rfl (show 0 ≤ y.toInt from by omega) (by omega) ex_4
    refine gs_iald hx hb hK hM 27 (6 * z.toNatClampNeg + x.toNatClampNeg) (by show _ < 12; have h91 := h_3; have h92 : z.toNatClampNeg < 2 := (gs_sel hz_z); omega) rfl (vp_in_iff.mpr ⟨by omega, by omega⟩) dX4_turnOn_20 ?_
    refine lv_topi (fun x_5 ex_5 => ?_)
    have qx_5 : x_5.toInt = (st 27 (6 * z.toNatClampNeg + x.toNatClampNeg) (x_4.toNatClampNeg)).toInt := congrArg Int32.toInt ex_5
    refine lv_goto (tgt := 25) hx hb dX4_turnOn_21 (by decide) ?_
    exact gs_iret hx hb hr hlocks hM hS rfl ⟨hB_st, trivial⟩ (by exact Nat.le_refl _) (by exact Nat.le_refl _) dX4_turnOn_25

set_option maxHeartbeats 4000000 in
set_option maxRecDepth 100000 in
/-- WellCourt$Law.areWed -/
theorem s_X4_areWed (l : Launch) (G : va_G) (cy : Nat → ClassId) (sK sV : Nat → Nat) (ad : Nat → Nat → Nat) (sz : Nat) (st : gS) (hB : gBd bX st) (z : Int32) (x : Int32) (y : Int32) (Xx : Int) (Xy : Int) (kx : x.toInt = Xx) (ky : y.toInt = Xy) (hz_z : (0 : Int) ≤ z.toInt ∧ z.toInt ≤ (1 : Int)) : gsMi l yX4_areWed cX4_areWed 3 (some .boolean) ({ frames := 1, cells := 0, slots := 0, locals := 20 } : Room) G cy sK sV (shX cy ad) cnX ad sz [.ref (ad 25 z.toNatClampNeg), .int x, .int y] st (fun (r : Int32) (u : gS) => gBN bX kX [] st u ∧ ((r = 1) ∨ (r = 0))) := by
  refine gs_start (fun A => gsQi G (shX cy ad) cnX ad _ A) (by decide) (Nat.le_of_ble_eq_true rfl) ?_
  intro p e s m below meth c A ls H hx hb hr hml hlocks hown hts hK hov hE hI hM hm hS hA hl
  have hl : lv_has ls 3 [(0, .ref (ad 25 z.toNatClampNeg)), (1, .int x), (2, .int y)] := hl
  have hB_st : gBN bX kX [] st st := gBN.rf hB
  refine lv_iload_n hx hb dX4_areWed_0 rfl (lv_at hl 1 rfl) ?_
  refine gs_calli (va_runSN (As := [.int x]) (rest := []) ⟨hx, hb, hml, hown, hts⟩ (s_isClan l G cy sK sV ad H.size st hB_st.1 x x.toInt rfl ) ⟨(va_cnB 1 hts (gz_good gm_487) rfl rfl rfl (hov.2.2 _ gn_613) (hts _ gm_1) ⟨by decide +kernel, by decide +kernel, by decide +kernel⟩ ⟨Nat.le_of_ble_eq_true rfl, Nat.le_of_ble_eq_true rfl⟩), hts _ gm_486, trivial⟩ (gs_preS hK hov hE hI hM hm hS hA) rfl rfl hl.1 rfl (lv_room (Nat.le_of_ble_eq_true rfl)) dX4_areWed_1 ⟨Nat.le_of_ble_eq_true rfl, Nat.le_of_ble_eq_true rfl⟩) hm hS hA (fun r_1 st_1 H locs hw_1 hM hS => ?_)
  obtain ⟨n_1, hw_1⟩ := hw_1
  have n_1 := gBN.nil n_1
  subst n_1
  rcases hw_1 with ⟨rfl, hw_1_0, hw_1_1⟩ | ⟨rfl, hw_1_0⟩
  · skip
    refine lv_if_eq (tgt := 32) hx hb dX4_areWed_4 (by decide) (fun h9 => absurd h9 (by decide)) (fun _ => ?_)
    refine lv_iload_n hx hb dX4_areWed_7 rfl (lv_at hl 2 rfl) ?_
    refine gs_calli (va_runSN (As := [.int y]) (rest := []) ⟨hx, hb, hml, hown, hts⟩ (s_isClan l G cy sK sV ad H.size st hB_st.1 y y.toInt rfl ) ⟨(va_cnB 1 hts (gz_good gm_487) rfl rfl rfl (hov.2.2 _ gn_613) (hts _ gm_1) ⟨by decide +kernel, by decide +kernel, by decide +kernel⟩ ⟨Nat.le_of_ble_eq_true rfl, Nat.le_of_ble_eq_true rfl⟩), hts _ gm_486, trivial⟩ (gs_preS hK hov hE hI hM hm hS hA) rfl rfl hl.1 rfl (lv_room (Nat.le_of_ble_eq_true rfl)) dX4_areWed_8 ⟨Nat.le_of_ble_eq_true rfl, Nat.le_of_ble_eq_true rfl⟩) hm hS hA (fun r_2 st_2 H locs hw_2 hM hS => ?_)
    obtain ⟨n_2, hw_2⟩ := hw_2
    have n_2 := gBN.nil n_2
    subst n_2
    rcases hw_2 with ⟨rfl, hw_2_0, hw_2_1⟩ | ⟨rfl, hw_2_0⟩
    · skip
      refine lv_if_eq (tgt := 32) hx hb dX4_areWed_11 (by decide) (fun h9 => absurd h9 (by decide)) (fun _ => ?_)
      refine lv_aload_n hx hb dX4_areWed_14 rfl (lv_at hl 0 rfl) ?_
      refine gs_get (C := RX4) (T := TX4) (N := 14) hx hb hts inX4 hown hK hM 25 z.toNatClampNeg 3 (gs_sel hz_z) rfl rfl (by decide) (hts _ gm_193) (fun _ h9 => h9) rfl dX4_areWed_15 ?_
      refine lv_iload_n hx hb dX4_areWed_18 rfl (lv_at hl 1 rfl) ?_
      refine gs_iald hx hb hK hM 29 z.toNatClampNeg (gs_sel hz_z) rfl (vp_in_iff.mpr ⟨by omega, by omega⟩) dX4_areWed_19 ?_
      refine lv_topi (fun x_3 ex_3 => ?_)
      have qx_3 : x_3.toInt = (st 29 z.toNatClampNeg (x.toNatClampNeg)).toInt := congrArg Int32.toInt ex_3
      refine lv_iload_n hx hb dX4_areWed_20 rfl (lv_at hl 2 rfl) ?_
      refine lv_ishr hx hb dX4_areWed_21 ?_
      refine lv_topi (fun x_4 ex_4 => ?_)
      refine lv_iconst (v := 1) hx hb dX4_areWed_22 (by decide) ?_
      refine lv_iand hx hb dX4_areWed_23 ?_
      refine lv_topi (fun x_5 ex_5 => ?_)
      refine lv_iconst (v := 1) hx hb dX4_areWed_24 (by decide) ?_
      refine lv_icmp_ne (tgt := 32) hx hb dX4_areWed_25 (by decide) (fun c_6 => ?_) (fun c_6 => ?_)
      · have ic_6 := gz_ne (rfl : x_5.toInt = x_5.toInt) (by decide : (1 : Int32).toInt = 1) c_6
        refine lv_iconst (v := 0) hx hb dX4_areWed_32 (by decide) ?_
        exact gs_iret hx hb hr hlocks hM hS (by decide) ⟨hB_st, (Or.inr (rfl))⟩ (by exact Nat.le_refl _) (by exact Nat.le_refl _) dX4_areWed_33
      · have ic_6 := gz_eqn (rfl : x_5.toInt = x_5.toInt) (by decide : (1 : Int32).toInt = 1) c_6
        refine lv_iconst (v := 1) hx hb dX4_areWed_28 (by decide) ?_
        refine lv_goto (tgt := 33) hx hb dX4_areWed_29 (by decide) ?_
        exact gs_iret hx hb hr hlocks hM hS (by decide) ⟨hB_st, (Or.inl rfl)⟩ (by exact Nat.le_refl _) (by exact Nat.le_refl _) dX4_areWed_33
    · skip
      refine lv_if_eq (tgt := 32) hx hb dX4_areWed_11 (by decide) (fun _ => ?_) (fun h9 => absurd (by decide) h9)
      refine lv_iconst (v := 0) hx hb dX4_areWed_32 (by decide) ?_
      exact gs_iret hx hb hr hlocks hM hS (by decide) ⟨hB_st, (Or.inr (rfl))⟩ (by exact Nat.le_refl _) (by exact Nat.le_refl _) dX4_areWed_33
  · skip
    refine lv_if_eq (tgt := 32) hx hb dX4_areWed_4 (by decide) (fun _ => ?_) (fun h9 => absurd (by decide) h9)
    refine lv_iconst (v := 0) hx hb dX4_areWed_32 (by decide) ?_
    exact gs_iret hx hb hr hlocks hM hS (by decide) ⟨hB_st, (Or.inr (rfl))⟩ (by exact Nat.le_refl _) (by exact Nat.le_refl _) dX4_areWed_33

set_option maxHeartbeats 4000000 in
set_option maxRecDepth 100000 in
/-- WellCourt$Law.leadsDry -/
theorem s_X4_leadsDry (l : Launch) (G : va_G) (cy : Nat → ClassId) (sK sV : Nat → Nat) (ad : Nat → Nat → Nat) (sz : Nat) (st : gS) (hB : gBd bX st) (z : Int32) (x : Int32) (y : Int32) (Xx : Int) (Xy : Int) (kx : x.toInt = Xx) (ky : y.toInt = Xy) (hz_z : (0 : Int) ≤ z.toInt ∧ z.toInt ≤ (1 : Int)) (hy0 : 0 ≤ Xy) (hy1 : Xy < 6) : gsMi l yX4_leadsDry cX4_leadsDry 3 (some .boolean) ({ frames := 0, cells := 0, slots := 0, locals := 0 } : Room) G cy sK sV (shX cy ad) cnX ad sz [.ref (ad 25 z.toNatClampNeg), .int x, .int y] st (fun (r : Int32) (u : gS) => gBN bX kX [] st u ∧ ((r = 1) ∨ (r = 0))) := by
  refine gs_start (fun A => gsQi G (shX cy ad) cnX ad _ A) (by decide) (Nat.le_of_ble_eq_true rfl) ?_
  intro p e s m below meth c A ls H hx hb hr hml hlocks hown hts hK hov hE hI hM hm hS hA hl
  have hl : lv_has ls 3 [(0, .ref (ad 25 z.toNatClampNeg)), (1, .int x), (2, .int y)] := hl
  have hB_st : gBN bX kX [] st st := gBN.rf hB
  refine lv_aload_n hx hb dX4_leadsDry_0 rfl (lv_at hl 0 rfl) ?_
  refine gs_get (C := RX4) (T := TX4) (N := 14) hx hb hts inX4 hown hK hM 25 z.toNatClampNeg 4 (gs_sel hz_z) rfl rfl (by decide) (hts _ gm_194) (fun _ h9 => h9) rfl dX4_leadsDry_1 ?_
  refine lv_iload_n hx hb dX4_leadsDry_4 rfl (lv_at hl 2 rfl) ?_
  refine gs_iald hx hb hK hM 30 z.toNatClampNeg (gs_sel hz_z) rfl (vp_in_iff.mpr ⟨by omega, by omega⟩) dX4_leadsDry_5 ?_
  refine lv_topi (fun x_1 ex_1 => ?_)
  have qx_1 : x_1.toInt = (st 30 z.toNatClampNeg (y.toNatClampNeg)).toInt := congrArg Int32.toInt ex_1
  refine lv_iload_n hx hb dX4_leadsDry_6 rfl (lv_at hl 1 rfl) ?_
  refine lv_ishr hx hb dX4_leadsDry_7 ?_
  refine lv_topi (fun x_2 ex_2 => ?_)
  refine lv_iconst (v := 1) hx hb dX4_leadsDry_8 (by decide) ?_
  refine lv_iand hx hb dX4_leadsDry_9 ?_
  refine lv_topi (fun x_3 ex_3 => ?_)
  refine lv_iconst (v := 1) hx hb dX4_leadsDry_10 (by decide) ?_
  refine lv_icmp_ne (tgt := 18) hx hb dX4_leadsDry_11 (by decide) (fun c_4 => ?_) (fun c_4 => ?_)
  · have ic_4 := gz_ne (rfl : x_3.toInt = x_3.toInt) (by decide : (1 : Int32).toInt = 1) c_4
    refine lv_iconst (v := 0) hx hb dX4_leadsDry_18 (by decide) ?_
    exact gs_iret hx hb hr hlocks hM hS (by decide) ⟨hB_st, (Or.inr (rfl))⟩ (by exact Nat.le_refl _) (by exact Nat.le_refl _) dX4_leadsDry_19
  · have ic_4 := gz_eqn (rfl : x_3.toInt = x_3.toInt) (by decide : (1 : Int32).toInt = 1) c_4
    refine lv_iconst (v := 1) hx hb dX4_leadsDry_14 (by decide) ?_
    refine lv_goto (tgt := 19) hx hb dX4_leadsDry_15 (by decide) ?_
    exact gs_iret hx hb hr hlocks hM hS (by decide) ⟨hB_st, (Or.inl rfl)⟩ (by exact Nat.le_refl _) (by exact Nat.le_refl _) dX4_leadsDry_19

set_option maxHeartbeats 4000000 in
set_option maxRecDepth 100000 in
/-- WellCourt$Law.droughtOwner -/
theorem s_X4_droughtOwner (l : Launch) (G : va_G) (cy : Nat → ClassId) (sK sV : Nat → Nat) (ad : Nat → Nat → Nat) (sz : Nat) (st : gS) (hB : gBd bX st) (z : Int32) (x : Int32) (y : Int32) (Xx : Int) (Xy : Int) (kx : x.toInt = Xx) (ky : y.toInt = Xy) (hz_z : (0 : Int) ≤ z.toInt ∧ z.toInt ≤ (1 : Int)) : gsMi l yX4_droughtOwner cX4_droughtOwner 4 (some .int) ({ frames := 0, cells := 0, slots := 0, locals := 0 } : Room) G cy sK sV (shX cy ad) cnX ad sz [.ref (ad 25 z.toNatClampNeg), .int x, .int y] st (fun (r : Int32) (u : gS) => gBN bX kX [] st u ∧ (True)) := by
  refine gs_start (fun A => gsQi G (shX cy ad) cnX ad _ A) (by decide) (Nat.le_of_ble_eq_true rfl) ?_
  intro p e s m below meth c A ls H hx hb hr hml hlocks hown hts hK hov hE hI hM hm hS hA hl
  have hl : lv_has ls 4 [(0, .ref (ad 25 z.toNatClampNeg)), (1, .int x), (2, .int y)] := hl
  have hB_st : gBN bX kX [] st st := gBN.rf hB
  generalize hQe : MQ below _ _ s _ _ A = Q
  refine lv_iconst (v := 0) hx hb dX4_droughtOwner_0 (by decide) ?_
  refine lv_istore_n (lv' := [(3, .int 0), (0, .ref (ad 25 z.toNatClampNeg)), (1, .int x), (2, .int y)]) hx hb dX4_droughtOwner_1 rfl hl (by decide) rfl (fun ls hl => ?_)
  have lp1 : ∀ (n1 : Nat) (sv1 : gS) (y1_0 : Int32) (H : Heap) (locs : List Loc) (ls : Array Slot), (20 - y1_0.toInt).toNat < n1 → gBN bX kX [] st sv1 → (0 ≤ y1_0.toInt) → gM G (shX cy ad) cnX ad sv1 H → va_S A s.heap H locs → lv_has ls 4 [(3, .int y1_0), (0, .ref (ad 25 z.toNatClampNeg)), (1, .int x), (2, .int y)] → W p l e ({ frames := 0, cells := 0, slots := 0, locals := 0 } : Room) s m [.ref (ad 25 z.toNatClampNeg), .int x, .int y].toArray below meth c H locs 0 0 Q (F0 m 2 ls []) := by
    intro n1
    induction n1 with
    | zero => intro sv1 y1_0 H locs ls h9; exact absurd h9 (Nat.not_lt_zero _)
    | succ n1 ih_1 =>
      intro sv1 y1_0 H locs ls hme1 hB_sv1 hv1_0 hM hS hl
      refine lv_iload_n hx hb dX4_droughtOwner_2 rfl (lv_at hl 0 rfl) ?_
      refine lv_aload_n hx hb dX4_droughtOwner_3 rfl (lv_at hl 1 rfl) ?_
      refine gs_get (C := RX4) (T := TX4) (N := 14) hx hb hts inX4 hown hK hM 25 z.toNatClampNeg 5 (gs_sel hz_z) rfl rfl (by decide) (hts _ gm_195) (fun _ h9 => h9) rfl dX4_droughtOwner_4 ?_
      refine lv_topi (fun x_2 ex_2 => ?_)
      have ex_2 : (st 25 z.toNatClampNeg 5) = x_2 := Eq.symm (ex_2.trans (hB_sv1.2 25 z.toNatClampNeg 5 (show (2505 : Nat) ∉ _ from by decide)))
      subst ex_2
      have bf_3 : (0 : Int) ≤ (st 25 z.toNatClampNeg 5).toInt ∧ (st 25 z.toNatClampNeg 5).toInt ≤ (20 : Int) := hB_st.1 25 z.toNatClampNeg 5
      refine lv_icmp_ge (tgt := 48) hx hb dX4_droughtOwner_7 (by decide) (fun c_4 => ?_) (fun c_4 => ?_)
      · have ic_4 := gz_le (rfl : (st 25 z.toNatClampNeg 5).toInt = (st 25 z.toNatClampNeg 5).toInt) (rfl : y1_0.toInt = y1_0.toInt) c_4
        refine lv_iconst (v := (-1)) hx hb dX4_droughtOwner_48 (by decide) ?_
        rw [← hQe]
        exact gs_iret hx hb hr hlocks hM hS rfl ⟨hB_sv1, trivial⟩ (by exact Nat.le_refl _) (by exact Nat.le_refl _) dX4_droughtOwner_49
      · have ic_4 := gz_nle (rfl : (st 25 z.toNatClampNeg 5).toInt = (st 25 z.toNatClampNeg 5).toInt) (rfl : y1_0.toInt = y1_0.toInt) c_4
        have lc_4 := gi_hi (st 25 z.toNatClampNeg 5)
        refine lv_iload_n hx hb dX4_droughtOwner_10 rfl (lv_at hl 3 rfl) ?_
        refine lv_iconst (v := (-1)) hx hb dX4_droughtOwner_11 (by decide) ?_
        refine lv_icmp_eq (tgt := 48) hx hb dX4_droughtOwner_12 (by decide) (fun c_5 => ?_) (fun c_5 => ?_)
        · have ic_5 := gz_eq (rfl : y.toInt = y.toInt) (by decide : ((-1) : Int32).toInt = -1) c_5
          refine lv_iconst (v := (-1)) hx hb dX4_droughtOwner_48 (by decide) ?_
          rw [← hQe]
          exact gs_iret hx hb hr hlocks hM hS rfl ⟨hB_sv1, trivial⟩ (by exact Nat.le_refl _) (by exact Nat.le_refl _) dX4_droughtOwner_49
        · have ic_5 := gz_ne (rfl : y.toInt = y.toInt) (by decide : ((-1) : Int32).toInt = -1) c_5
          refine lv_aload_n hx hb dX4_droughtOwner_15 rfl (lv_at hl 1 rfl) ?_
          refine gs_get (C := RX4) (T := TX4) (N := 14) hx hb hts inX4 hown hK hM 25 z.toNatClampNeg 6 (gs_sel hz_z) rfl rfl (by decide) (hts _ gm_196) (fun _ h9 => h9) rfl dX4_droughtOwner_16 ?_
          refine lv_iload_n hx hb dX4_droughtOwner_19 rfl (lv_at hl 0 rfl) ?_
          refine gs_iald hx hb hK hM 31 z.toNatClampNeg (gs_sel hz_z) rfl (vp_in_iff.mpr ⟨by omega, by omega⟩) dX4_droughtOwner_20 ?_
          refine lv_topi (fun x_6 ex_6 => ?_)
          have qx_6 : x_6.toInt = (sv1 31 z.toNatClampNeg (y1_0.toNatClampNeg)).toInt := congrArg Int32.toInt ex_6
          have rx_6 : x_6.toInt = ((st 31 z.toNatClampNeg (y1_0.toNatClampNeg)) : Int32).toInt := by rw [ex_6]; exact congrArg Int32.toInt ((hB_sv1.2 31 z.toNatClampNeg (y1_0.toNatClampNeg) (show (3100 : Nat) ∉ _ from by decide)))
          refine lv_iload_n hx hb dX4_droughtOwner_21 rfl (lv_at hl 2 rfl) ?_
          refine lv_icmp_ne (tgt := 42) hx hb dX4_droughtOwner_22 (by decide) (fun c_7 => ?_) (fun c_7 => ?_)
          · have ic_7 := gz_ne (rfl : x_6.toInt = x_6.toInt) (rfl : x.toInt = x.toInt) c_7
            obtain ⟨x_8, ex_8⟩ : ∃ y : Int32, y = y1_0 + 1 := ⟨_, rfl⟩
            try have tx_8 : x_8.toInt = y1_0.toInt + 1 := by rw [ex_8]; exact gz_addP (x := y1_0.toInt) (y := 1) rfl (by decide) (by omega) (by omega)
            refine lv_iinc (v := (x_8)) (lv' := [(3, .int x_8), (0, .ref (ad 25 z.toNatClampNeg)), (1, .int x), (2, .int y)]) hx hb dX4_droughtOwner_42 hl (k := 0) rfl (by rw [ex_8]; rfl) (by decide) rfl (fun ls hl => ?_)
            refine lv_goto (tgt := 2) hx hb dX4_droughtOwner_45 (by decide) ?_
            exact ih_1 sv1 (x_8 : Int32) H _ ls (by omega) hB_sv1 (by omega) hM hS (lv_sub hl [0, 1, 2, 3] rfl)
          · have ic_7 := gz_eqn (rfl : x_6.toInt = x_6.toInt) (rfl : x.toInt = x.toInt) c_7
            refine lv_iload_n hx hb dX4_droughtOwner_25 rfl (lv_at hl 3 rfl) ?_
            refine lv_aload_n hx hb dX4_droughtOwner_26 rfl (lv_at hl 1 rfl) ?_
            refine gs_get (C := RX4) (T := TX4) (N := 14) hx hb hts inX4 hown hK hM 25 z.toNatClampNeg 7 (gs_sel hz_z) rfl rfl (by decide) (hts _ gm_197) (fun _ h9 => h9) rfl dX4_droughtOwner_27 ?_
            refine lv_iload_n hx hb dX4_droughtOwner_30 rfl (lv_at hl 0 rfl) ?_
            refine gs_iald hx hb hK hM 32 z.toNatClampNeg (gs_sel hz_z) rfl (vp_in_iff.mpr ⟨by omega, by omega⟩) dX4_droughtOwner_31 ?_
            refine lv_topi (fun x_9 ex_9 => ?_)
            have qx_9 : x_9.toInt = (sv1 32 z.toNatClampNeg (y1_0.toNatClampNeg)).toInt := congrArg Int32.toInt ex_9
            have rx_9 : x_9.toInt = ((st 32 z.toNatClampNeg (y1_0.toNatClampNeg)) : Int32).toInt := by rw [ex_9]; exact congrArg Int32.toInt ((hB_sv1.2 32 z.toNatClampNeg (y1_0.toNatClampNeg) (show (3200 : Nat) ∉ _ from by decide)))
            refine lv_icmp_ge (tgt := 42) hx hb dX4_droughtOwner_32 (by decide) (fun c_10 => ?_) (fun c_10 => ?_)
            · have ic_10 := gz_le (rfl : x_9.toInt = x_9.toInt) (rfl : y.toInt = y.toInt) c_10
              obtain ⟨x_11, ex_11⟩ : ∃ y : Int32, y = y1_0 + 1 := ⟨_, rfl⟩
              try have tx_11 : x_11.toInt = y1_0.toInt + 1 := by rw [ex_11]; exact gz_addP (x := y1_0.toInt) (y := 1) rfl (by decide) (by omega) (by omega)
              refine lv_iinc (v := (x_11)) (lv' := [(3, .int x_11), (0, .ref (ad 25 z.toNatClampNeg)), (1, .int x), (2, .int y)]) hx hb dX4_droughtOwner_42 hl (k := 0) rfl (by rw [ex_11]; rfl) (by decide) rfl (fun ls hl => ?_)
              refine lv_goto (tgt := 2) hx hb dX4_droughtOwner_45 (by decide) ?_
              exact ih_1 sv1 (x_11 : Int32) H _ ls (by omega) hB_sv1 (by omega) hM hS (lv_sub hl [0, 1, 2, 3] rfl)
            · have ic_10 := gz_nle (rfl : x_9.toInt = x_9.toInt) (rfl : y.toInt = y.toInt) c_10
              have lc_10 := gi_hi x_9
              refine lv_aload_n hx hb dX4_droughtOwner_35 rfl (lv_at hl 1 rfl) ?_
              refine gs_get (C := RX4) (T := TX4) (N := 14) hx hb hts inX4 hown hK hM 25 z.toNatClampNeg 8 (gs_sel hz_z) rfl rfl (by decide) (hts _ gm_198) (fun _ h9 => h9) rfl dX4_droughtOwner_36 ?_
              refine lv_iload_n hx hb dX4_droughtOwner_39 rfl (lv_at hl 0 rfl) ?_
              refine gs_iald hx hb hK hM 33 z.toNatClampNeg (gs_sel hz_z) rfl (vp_in_iff.mpr ⟨by omega, by omega⟩) dX4_droughtOwner_40 ?_
              refine lv_topi (fun x_12 ex_12 => ?_)
              have qx_12 : x_12.toInt = (sv1 33 z.toNatClampNeg (y1_0.toNatClampNeg)).toInt := congrArg Int32.toInt ex_12
              have rx_12 : x_12.toInt = ((st 33 z.toNatClampNeg (y1_0.toNatClampNeg)) : Int32).toInt := by rw [ex_12]; exact congrArg Int32.toInt ((hB_sv1.2 33 z.toNatClampNeg (y1_0.toNatClampNeg) (show (3300 : Nat) ∉ _ from by decide)))
              rw [← hQe]
              exact gs_iret hx hb hr hlocks hM hS rfl ⟨hB_sv1, trivial⟩ (by exact Nat.le_refl _) (by exact Nat.le_refl _) dX4_droughtOwner_41
  exact lp1 ((20 - ((0 : Int32) : Int32).toInt).toNat + 1) st ((0 : Int32) : Int32) H _ ls (Nat.lt_succ_self _) hB_st (by have hl0 : (0 : Int32).toInt = 0 := (by decide); omega) hM hS (lv_sub hl [0, 1, 2, 3] rfl)

set_option maxHeartbeats 4000000 in
set_option maxRecDepth 100000 in
/-- WellCourt$Law.manyOfGuest -/
theorem s_X4_manyOfGuest (l : Launch) (G : va_G) (cy : Nat → ClassId) (sK sV : Nat → Nat) (ad : Nat → Nat → Nat) (sz : Nat) (st : gS) (hB : gBd bX st) (z : Int32) (x : Int32) (y : Int32) (w : Int32) (Xx : Int) (Xy : Int) (Xw : Int) (kx : x.toInt = Xx) (ky : y.toInt = Xy) (kw : w.toInt = Xw) (hz_z : (0 : Int) ≤ z.toInt ∧ z.toInt ≤ (1 : Int)) : gsMi l yX4_manyOfGuest cX4_manyOfGuest 5 (some .int) ({ frames := 0, cells := 0, slots := 0, locals := 0 } : Room) G cy sK sV (shX cy ad) cnX ad sz [.ref (ad 25 z.toNatClampNeg), .int x, .int y, .int w] st (fun (r : Int32) (u : gS) => gBN bX kX [] st u ∧ (True)) := by
  refine gs_start (fun A => gsQi G (shX cy ad) cnX ad _ A) (by decide) (Nat.le_of_ble_eq_true rfl) ?_
  intro p e s m below meth c A ls H hx hb hr hml hlocks hown hts hK hov hE hI hM hm hS hA hl
  have hl : lv_has ls 5 [(0, .ref (ad 25 z.toNatClampNeg)), (1, .int x), (2, .int y), (3, .int w)] := hl
  have hB_st : gBN bX kX [] st st := gBN.rf hB
  generalize hQe : MQ below _ _ s _ _ A = Q
  refine lv_iconst (v := 0) hx hb dX4_manyOfGuest_0 (by decide) ?_
  refine lv_istore (lv' := [(4, .int 0), (0, .ref (ad 25 z.toNatClampNeg)), (1, .int x), (2, .int y), (3, .int w)]) hx hb dX4_manyOfGuest_1 hl (by decide) rfl (fun ls hl => ?_)
  have lp1 : ∀ (n1 : Nat) (sv1 : gS) (y1_0 : Int32) (H : Heap) (locs : List Loc) (ls : Array Slot), (20 - y1_0.toInt).toNat < n1 → gBN bX kX [] st sv1 → (0 ≤ y1_0.toInt) → gM G (shX cy ad) cnX ad sv1 H → va_S A s.heap H locs → lv_has ls 5 [(4, .int y1_0), (0, .ref (ad 25 z.toNatClampNeg)), (1, .int x), (2, .int y), (3, .int w)] → W p l e ({ frames := 0, cells := 0, slots := 0, locals := 0 } : Room) s m [.ref (ad 25 z.toNatClampNeg), .int x, .int y, .int w].toArray below meth c H locs 0 0 Q (F0 m 3 ls []) := by
    intro n1
    induction n1 with
    | zero => intro sv1 y1_0 H locs ls h9; exact absurd h9 (Nat.not_lt_zero _)
    | succ n1 ih_1 =>
      intro sv1 y1_0 H locs ls hme1 hB_sv1 hv1_0 hM hS hl
      refine lv_iload hx hb dX4_manyOfGuest_3 (lv_at hl 0 rfl) ?_
      refine lv_aload_n hx hb dX4_manyOfGuest_5 rfl (lv_at hl 1 rfl) ?_
      refine gs_get (C := RX4) (T := TX4) (N := 14) hx hb hts inX4 hown hK hM 25 z.toNatClampNeg 9 (gs_sel hz_z) rfl rfl (by decide) (hts _ gm_199) (fun _ h9 => h9) rfl dX4_manyOfGuest_6 ?_
      refine lv_topi (fun x_2 ex_2 => ?_)
      have ex_2 : (st 25 z.toNatClampNeg 9) = x_2 := Eq.symm (ex_2.trans (hB_sv1.2 25 z.toNatClampNeg 9 (show (2509 : Nat) ∉ _ from by decide)))
      subst ex_2
      have bf_3 : (0 : Int) ≤ (st 25 z.toNatClampNeg 9).toInt ∧ (st 25 z.toNatClampNeg 9).toInt ≤ (20 : Int) := hB_st.1 25 z.toNatClampNeg 9
      refine lv_icmp_ge (tgt := 59) hx hb dX4_manyOfGuest_9 (by decide) (fun c_4 => ?_) (fun c_4 => ?_)
      · have ic_4 := gz_le (rfl : (st 25 z.toNatClampNeg 9).toInt = (st 25 z.toNatClampNeg 9).toInt) (rfl : y1_0.toInt = y1_0.toInt) c_4
        refine lv_iconst (v := (-1)) hx hb dX4_manyOfGuest_59 (by decide) ?_
        rw [← hQe]
        exact gs_iret hx hb hr hlocks hM hS rfl ⟨hB_sv1, trivial⟩ (by exact Nat.le_refl _) (by exact Nat.le_refl _) dX4_manyOfGuest_60
      · have ic_4 := gz_nle (rfl : (st 25 z.toNatClampNeg 9).toInt = (st 25 z.toNatClampNeg 9).toInt) (rfl : y1_0.toInt = y1_0.toInt) c_4
        have lc_4 := gi_hi (st 25 z.toNatClampNeg 9)
        refine lv_aload_n hx hb dX4_manyOfGuest_12 rfl (lv_at hl 1 rfl) ?_
        refine gs_get (C := RX4) (T := TX4) (N := 14) hx hb hts inX4 hown hK hM 25 z.toNatClampNeg 10 (gs_sel hz_z) rfl rfl (by decide) (hts _ gm_200) (fun _ h9 => h9) rfl dX4_manyOfGuest_13 ?_
        refine lv_iload hx hb dX4_manyOfGuest_16 (lv_at hl 0 rfl) ?_
        refine gs_iald hx hb hK hM 34 z.toNatClampNeg (gs_sel hz_z) rfl (vp_in_iff.mpr ⟨by omega, by omega⟩) dX4_manyOfGuest_18 ?_
        refine lv_topi (fun x_5 ex_5 => ?_)
        have qx_5 : x_5.toInt = (sv1 34 z.toNatClampNeg (y1_0.toNatClampNeg)).toInt := congrArg Int32.toInt ex_5
        have rx_5 : x_5.toInt = ((st 34 z.toNatClampNeg (y1_0.toNatClampNeg)) : Int32).toInt := by rw [ex_5]; exact congrArg Int32.toInt ((hB_sv1.2 34 z.toNatClampNeg (y1_0.toNatClampNeg) (show (3400 : Nat) ∉ _ from by decide)))
        refine lv_iload_n hx hb dX4_manyOfGuest_19 rfl (lv_at hl 2 rfl) ?_
        refine lv_icmp_ne (tgt := 53) hx hb dX4_manyOfGuest_20 (by decide) (fun c_6 => ?_) (fun c_6 => ?_)
        · have ic_6 := gz_ne (rfl : x_5.toInt = x_5.toInt) (rfl : x.toInt = x.toInt) c_6
          obtain ⟨x_7, ex_7⟩ : ∃ y : Int32, y = y1_0 + 1 := ⟨_, rfl⟩
          try have tx_7 : x_7.toInt = y1_0.toInt + 1 := by rw [ex_7]; exact gz_addP (x := y1_0.toInt) (y := 1) rfl (by decide) (by omega) (by omega)
          refine lv_iinc (v := (x_7)) (lv' := [(4, .int x_7), (0, .ref (ad 25 z.toNatClampNeg)), (1, .int x), (2, .int y), (3, .int w)]) hx hb dX4_manyOfGuest_53 hl (k := 0) rfl (by rw [ex_7]; rfl) (by decide) rfl (fun ls hl => ?_)
          refine lv_goto (tgt := 3) hx hb dX4_manyOfGuest_56 (by decide) ?_
          exact ih_1 sv1 (x_7 : Int32) H _ ls (by omega) hB_sv1 (by omega) hM hS (lv_sub hl [0, 1, 2, 3, 4] rfl)
        · have ic_6 := gz_eqn (rfl : x_5.toInt = x_5.toInt) (rfl : x.toInt = x.toInt) c_6
          refine lv_aload_n hx hb dX4_manyOfGuest_23 rfl (lv_at hl 1 rfl) ?_
          refine gs_get (C := RX4) (T := TX4) (N := 14) hx hb hts inX4 hown hK hM 25 z.toNatClampNeg 11 (gs_sel hz_z) rfl rfl (by decide) (hts _ gm_201) (fun _ h9 => h9) rfl dX4_manyOfGuest_24 ?_
          refine lv_iload hx hb dX4_manyOfGuest_27 (lv_at hl 0 rfl) ?_
          refine gs_iald hx hb hK hM 35 z.toNatClampNeg (gs_sel hz_z) rfl (vp_in_iff.mpr ⟨by omega, by omega⟩) dX4_manyOfGuest_29 ?_
          refine lv_topi (fun x_8 ex_8 => ?_)
          have qx_8 : x_8.toInt = (sv1 35 z.toNatClampNeg (y1_0.toNatClampNeg)).toInt := congrArg Int32.toInt ex_8
          have rx_8 : x_8.toInt = ((st 35 z.toNatClampNeg (y1_0.toNatClampNeg)) : Int32).toInt := by rw [ex_8]; exact congrArg Int32.toInt ((hB_sv1.2 35 z.toNatClampNeg (y1_0.toNatClampNeg) (show (3500 : Nat) ∉ _ from by decide)))
          refine lv_iload_n hx hb dX4_manyOfGuest_30 rfl (lv_at hl 3 rfl) ?_
          refine lv_icmp_ne (tgt := 53) hx hb dX4_manyOfGuest_31 (by decide) (fun c_9 => ?_) (fun c_9 => ?_)
          · have ic_9 := gz_ne (rfl : x_8.toInt = x_8.toInt) (rfl : y.toInt = y.toInt) c_9
            obtain ⟨x_10, ex_10⟩ : ∃ y : Int32, y = y1_0 + 1 := ⟨_, rfl⟩
            try have tx_10 : x_10.toInt = y1_0.toInt + 1 := by rw [ex_10]; exact gz_addP (x := y1_0.toInt) (y := 1) rfl (by decide) (by omega) (by omega)
            refine lv_iinc (v := (x_10)) (lv' := [(4, .int x_10), (0, .ref (ad 25 z.toNatClampNeg)), (1, .int x), (2, .int y), (3, .int w)]) hx hb dX4_manyOfGuest_53 hl (k := 0) rfl (by rw [ex_10]; rfl) (by decide) rfl (fun ls hl => ?_)
            refine lv_goto (tgt := 3) hx hb dX4_manyOfGuest_56 (by decide) ?_
            exact ih_1 sv1 (x_10 : Int32) H _ ls (by omega) hB_sv1 (by omega) hM hS (lv_sub hl [0, 1, 2, 3, 4] rfl)
          · have ic_9 := gz_eqn (rfl : x_8.toInt = x_8.toInt) (rfl : y.toInt = y.toInt) c_9
            refine lv_aload_n hx hb dX4_manyOfGuest_34 rfl (lv_at hl 1 rfl) ?_
            refine gs_get (C := RX4) (T := TX4) (N := 14) hx hb hts inX4 hown hK hM 25 z.toNatClampNeg 12 (gs_sel hz_z) rfl rfl (by decide) (hts _ gm_202) (fun _ h9 => h9) rfl dX4_manyOfGuest_35 ?_
            refine lv_iload hx hb dX4_manyOfGuest_38 (lv_at hl 0 rfl) ?_
            refine gs_iald hx hb hK hM 36 z.toNatClampNeg (gs_sel hz_z) rfl (vp_in_iff.mpr ⟨by omega, by omega⟩) dX4_manyOfGuest_40 ?_
            refine lv_topi (fun x_11 ex_11 => ?_)
            have qx_11 : x_11.toInt = (sv1 36 z.toNatClampNeg (y1_0.toNatClampNeg)).toInt := congrArg Int32.toInt ex_11
            have rx_11 : x_11.toInt = ((st 36 z.toNatClampNeg (y1_0.toNatClampNeg)) : Int32).toInt := by rw [ex_11]; exact congrArg Int32.toInt ((hB_sv1.2 36 z.toNatClampNeg (y1_0.toNatClampNeg) (show (3600 : Nat) ∉ _ from by decide)))
            refine lv_iload_n hx hb dX4_manyOfGuest_41 rfl (lv_at hl 4 rfl) ?_
            refine lv_icmp_ne (tgt := 53) hx hb dX4_manyOfGuest_42 (by decide) (fun c_12 => ?_) (fun c_12 => ?_)
            · have ic_12 := gz_ne (rfl : x_11.toInt = x_11.toInt) (rfl : w.toInt = w.toInt) c_12
              obtain ⟨x_13, ex_13⟩ : ∃ y : Int32, y = y1_0 + 1 := ⟨_, rfl⟩
              try have tx_13 : x_13.toInt = y1_0.toInt + 1 := by rw [ex_13]; exact gz_addP (x := y1_0.toInt) (y := 1) rfl (by decide) (by omega) (by omega)
              refine lv_iinc (v := (x_13)) (lv' := [(4, .int x_13), (0, .ref (ad 25 z.toNatClampNeg)), (1, .int x), (2, .int y), (3, .int w)]) hx hb dX4_manyOfGuest_53 hl (k := 0) rfl (by rw [ex_13]; rfl) (by decide) rfl (fun ls hl => ?_)
              refine lv_goto (tgt := 3) hx hb dX4_manyOfGuest_56 (by decide) ?_
              exact ih_1 sv1 (x_13 : Int32) H _ ls (by omega) hB_sv1 (by omega) hM hS (lv_sub hl [0, 1, 2, 3, 4] rfl)
            · have ic_12 := gz_eqn (rfl : x_11.toInt = x_11.toInt) (rfl : w.toInt = w.toInt) c_12
              refine lv_aload_n hx hb dX4_manyOfGuest_45 rfl (lv_at hl 1 rfl) ?_
              refine gs_get (C := RX4) (T := TX4) (N := 14) hx hb hts inX4 hown hK hM 25 z.toNatClampNeg 13 (gs_sel hz_z) rfl rfl (by decide) (hts _ gm_203) (fun _ h9 => h9) rfl dX4_manyOfGuest_46 ?_
              refine lv_iload hx hb dX4_manyOfGuest_49 (lv_at hl 0 rfl) ?_
              refine gs_iald hx hb hK hM 37 z.toNatClampNeg (gs_sel hz_z) rfl (vp_in_iff.mpr ⟨by omega, by omega⟩) dX4_manyOfGuest_51 ?_
              refine lv_topi (fun x_14 ex_14 => ?_)
              have qx_14 : x_14.toInt = (sv1 37 z.toNatClampNeg (y1_0.toNatClampNeg)).toInt := congrArg Int32.toInt ex_14
              have rx_14 : x_14.toInt = ((st 37 z.toNatClampNeg (y1_0.toNatClampNeg)) : Int32).toInt := by rw [ex_14]; exact congrArg Int32.toInt ((hB_sv1.2 37 z.toNatClampNeg (y1_0.toNatClampNeg) (show (3700 : Nat) ∉ _ from by decide)))
              rw [← hQe]
              exact gs_iret hx hb hr hlocks hM hS rfl ⟨hB_sv1, trivial⟩ (by exact Nat.le_refl _) (by exact Nat.le_refl _) dX4_manyOfGuest_52
  exact lp1 ((20 - ((0 : Int32) : Int32).toInt).toNat + 1) st ((0 : Int32) : Int32) H _ ls (Nat.lt_succ_self _) hB_st (by have hl0 : (0 : Int32).toInt = 0 := (by decide); omega) hM hS (lv_sub hl [0, 1, 2, 3, 4] rfl)
