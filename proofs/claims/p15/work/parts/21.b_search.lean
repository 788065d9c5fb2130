theorem gm_854 : (Jvm.Cond.methodLink "WellCourt$Planner" (78 : Nat) ({ cls := "WellCourt$Planner", name := "openDay", desc := "(I)V" } : Jvm.MethodName)) ∈ gz_T := gz_at 854 (by decide +kernel) rfl
theorem gm_856 : (Jvm.Cond.instanceMethod ({ cls := "WellCourt$Planner", name := "openDay", desc := "(I)V" } : Jvm.MethodName)) ∈ gz_T := gz_at 856 (by decide +kernel) rfl
theorem gm_857 : (Jvm.Cond.code ({ cls := "WellCourt$Planner", name := "openDay", desc := "(I)V" } : Jvm.MethodName) prog_8_method_6_code (2 : Nat) (Option.none : Option Jvm.ClassFile.FieldType)) ∈ gz_T := gz_at 857 (by decide +kernel) rfl
theorem gm_860 : (Jvm.Cond.constant "WellCourt$Planner" (82 : Nat) (5600224 : Int32)) ∈ gz_T := gz_at 860 (by decide +kernel) rfl
theorem gm_861 : (Jvm.Cond.methodLink "WellCourt$Planner" (83 : Nat) ({ cls := "WellCourt$Planner", name := "nextAct", desc := "(I)I" } : Jvm.MethodName)) ∈ gz_T := gz_at 861 (by decide +kernel) rfl
theorem gm_863 : (Jvm.Cond.instanceMethod ({ cls := "WellCourt$Planner", name := "nextAct", desc := "(I)I" } : Jvm.MethodName)) ∈ gz_T := gz_at 863 (by decide +kernel) rfl
theorem gm_864 : (Jvm.Cond.code ({ cls := "WellCourt$Planner", name := "nextAct", desc := "(I)I" } : Jvm.MethodName) prog_8_method_7_code (6 : Nat) (Option.some Jvm.ClassFile.FieldType.int)) ∈ gz_T := gz_at 864 (by decide +kernel) rfl
theorem gm_874 : (Jvm.Cond.methodLink "WellCourt$Planner" (87 : Nat) ({ cls := "WellCourt$Planner", name := "undo", desc := "(I)V" } : Jvm.MethodName)) ∈ gz_T := gz_at 874 (by decide +kernel) rfl
theorem gm_876 : (Jvm.Cond.instanceMethod ({ cls := "WellCourt$Planner", name := "undo", desc := "(I)V" } : Jvm.MethodName)) ∈ gz_T := gz_at 876 (by decide +kernel) rfl
theorem gm_877 : (Jvm.Cond.code ({ cls := "WellCourt$Planner", name := "undo", desc := "(I)V" } : Jvm.MethodName) prog_8_method_10_code (4 : Nat) (Option.none : Option Jvm.ClassFile.FieldType)) ∈ gz_T := gz_at 877 (by decide +kernel) rfl
theorem gm_878 : (Jvm.Cond.methodLink "WellCourt$Planner" (90 : Nat) ({ cls := "WellCourt$Planner", name := "perform", desc := "(II)V" } : Jvm.MethodName)) ∈ gz_T := gz_at 878 (by decide +kernel) rfl
theorem gm_880 : (Jvm.Cond.instanceMethod ({ cls := "WellCourt$Planner", name := "perform", desc := "(II)V" } : Jvm.MethodName)) ∈ gz_T := gz_at 880 (by decide +kernel) rfl
theorem gm_881 : (Jvm.Cond.code ({ cls := "WellCourt$Planner", name := "perform", desc := "(II)V" } : Jvm.MethodName) prog_8_method_9_code (6 : Nat) (Option.none : Option Jvm.ClassFile.FieldType)) ∈ gz_T := gz_at 881 (by decide +kernel) rfl
theorem gm_882 : (Jvm.Cond.methodLink "WellCourt$Planner" (97 : Nat) ({ cls := "WellCourt$Planner", name := "isGood", desc := "(I)Z" } : Jvm.MethodName)) ∈ gz_T := gz_at 882 (by decide +kernel) rfl
theorem gm_884 : (Jvm.Cond.instanceMethod ({ cls := "WellCourt$Planner", name := "isGood", desc := "(I)Z" } : Jvm.MethodName)) ∈ gz_T := gz_at 884 (by decide +kernel) rfl
theorem gm_885 : (Jvm.Cond.code ({ cls := "WellCourt$Planner", name := "isGood", desc := "(I)Z" } : Jvm.MethodName) prog_8_method_11_code (3 : Nat) (Option.some Jvm.ClassFile.FieldType.boolean)) ∈ gz_T := gz_at 885 (by decide +kernel) rfl
theorem gm_886 : (Jvm.Cond.methodLink "WellCourt$Planner" (101 : Nat) ({ cls := "java/lang/Math", name := "max", desc := "(II)I" } : Jvm.MethodName)) ∈ gz_T := gz_at 886 (by decide +kernel) rfl
theorem gm_887 : (Jvm.Cond.methodLink "WellCourt$Planner" (107 : Nat) ({ cls := "WellCourt$Planner", name := "keepFound", desc := "(I)V" } : Jvm.MethodName)) ∈ gz_T := gz_at 887 (by decide +kernel) rfl
theorem gm_889 : (Jvm.Cond.instanceMethod ({ cls := "WellCourt$Planner", name := "keepFound", desc := "(I)V" } : Jvm.MethodName)) ∈ gz_T := gz_at 889 (by decide +kernel) rfl
theorem gm_890 : (Jvm.Cond.code ({ cls := "WellCourt$Planner", name := "keepFound", desc := "(I)V" } : Jvm.MethodName) prog_8_method_12_code (3 : Nat) (Option.none : Option Jvm.ClassFile.FieldType)) ∈ gz_T := gz_at 890 (by decide +kernel) rfl
theorem gs_24 : (Jvm.Cond.selects "WellCourt$Planner" ({ cls := "WellCourt$Planner", name := "openDay", desc := "(I)V" } : Jvm.MethodName) ({ cls := "WellCourt$Planner", name := "openDay", desc := "(I)V" } : Jvm.MethodName)) ∈ gz_T := gz_sel 24 (by decide +kernel) rfl
theorem gs_25 : (Jvm.Cond.selects "WellCourt$Planner" ({ cls := "WellCourt$Planner", name := "nextAct", desc := "(I)I" } : Jvm.MethodName) ({ cls := "WellCourt$Planner", name := "nextAct", desc := "(I)I" } : Jvm.MethodName)) ∈ gz_T := gz_sel 25 (by decide +kernel) rfl
theorem gs_27 : (Jvm.Cond.selects "WellCourt$Planner" ({ cls := "WellCourt$Planner", name := "undo", desc := "(I)V" } : Jvm.MethodName) ({ cls := "WellCourt$Planner", name := "undo", desc := "(I)V" } : Jvm.MethodName)) ∈ gz_T := gz_sel 27 (by decide +kernel) rfl
theorem gs_28 : (Jvm.Cond.selects "WellCourt$Planner" ({ cls := "WellCourt$Planner", name := "perform", desc := "(II)V" } : Jvm.MethodName) ({ cls := "WellCourt$Planner", name := "perform", desc := "(II)V" } : Jvm.MethodName)) ∈ gz_T := gz_sel 28 (by decide +kernel) rfl
theorem gs_29 : (Jvm.Cond.selects "WellCourt$Planner" ({ cls := "WellCourt$Planner", name := "isGood", desc := "(I)Z" } : Jvm.MethodName) ({ cls := "WellCourt$Planner", name := "isGood", desc := "(I)Z" } : Jvm.MethodName)) ∈ gz_T := gz_sel 29 (by decide +kernel) rfl
theorem gs_30 : (Jvm.Cond.selects "WellCourt$Planner" ({ cls := "WellCourt$Planner", name := "keepFound", desc := "(I)V" } : Jvm.MethodName) ({ cls := "WellCourt$Planner", name := "keepFound", desc := "(I)V" } : Jvm.MethodName)) ∈ gz_T := gz_sel 30 (by decide +kernel) rfl
theorem dX6_search_0 : decode cX6_search 0 = .ok (.iconst 0, 1) := by decide +kernel
theorem dX6_search_1 : decode cX6_search 1 = .ok (.istore_n 3, 1) := by decide +kernel
theorem dX6_search_2 : decode cX6_search 2 = .ok (.aload_n 0, 1) := by decide +kernel
theorem dX6_search_3 : decode cX6_search 3 = .ok (.getfield 32, 3) := by decide +kernel
theorem dX6_search_6 : decode cX6_search 6 = .ok (.iconst 0, 1) := by decide +kernel
theorem dX6_search_7 : decode cX6_search 7 = .ok (.iconst (-1), 1) := by decide +kernel
theorem dX6_search_8 : decode cX6_search 8 = .ok (.iastore, 1) := by decide +kernel
theorem dX6_search_9 : decode cX6_search 9 = .ok (.aload_n 0, 1) := by decide +kernel
theorem dX6_search_10 : decode cX6_search 10 = .ok (.iconst 1, 1) := by decide +kernel
theorem dX6_search_11 : decode cX6_search 11 = .ok (.invokevirtual 78, 3) := by decide +kernel
theorem dX6_search_14 : decode cX6_search 14 = .ok (.iconst 0, 1) := by decide +kernel
theorem dX6_search_15 : decode cX6_search 15 = .ok (.istore 4, 2) := by decide +kernel
theorem dX6_search_17 : decode cX6_search 17 = .ok (.iload 4, 2) := by decide +kernel
theorem dX6_search_19 : decode cX6_search 19 = .ok (.ldc 82, 2) := by decide +kernel
theorem dX6_search_21 : decode cX6_search 21 = .ok (.if_icmp .ge 170, 3) := by decide +kernel
theorem dX6_search_24 : decode cX6_search 24 = .ok (.iload_n 3, 1) := by decide +kernel
theorem dX6_search_25 : decode cX6_search 25 = .ok (.bipush 56, 2) := by decide +kernel
theorem dX6_search_27 : decode cX6_search 27 = .ok (.if_icmp .ge 164, 3) := by decide +kernel
theorem dX6_search_30 : decode cX6_search 30 = .ok (.aload_n 0, 1) := by decide +kernel
theorem dX6_search_31 : decode cX6_search 31 = .ok (.iload_n 3, 1) := by decide +kernel
theorem dX6_search_32 : decode cX6_search 32 = .ok (.invokevirtual 83, 3) := by decide +kernel
theorem dX6_search_35 : decode cX6_search 35 = .ok (.istore 5, 2) := by decide +kernel
theorem dX6_search_37 : decode cX6_search 37 = .ok (.iload 5, 2) := by decide +kernel
theorem dX6_search_39 : decode cX6_search 39 = .ok (.iconst (-1), 1) := by decide +kernel
theorem dX6_search_40 : decode cX6_search 40 = .ok (.if_icmp .ne 20, 3) := by decide +kernel
theorem dX6_search_43 : decode cX6_search 43 = .ok (.iinc 3 (-1), 3) := by decide +kernel
theorem dX6_search_46 : decode cX6_search 46 = .ok (.iload_n 3, 1) := by decide +kernel
theorem dX6_search_47 : decode cX6_search 47 = .ok (.ifCond .ge 5, 3) := by decide +kernel
theorem dX6_search_50 : decode cX6_search 50 = .ok (.iconst 1, 1) := by decide +kernel
theorem dX6_search_51 : decode cX6_search 51 = .ok (.ireturn, 1) := by decide +kernel
theorem dX6_search_52 : decode cX6_search 52 = .ok (.aload_n 0, 1) := by decide +kernel
theorem dX6_search_53 : decode cX6_search 53 = .ok (.iload_n 3, 1) := by decide +kernel
theorem dX6_search_54 : decode cX6_search 54 = .ok (.invokevirtual 87, 3) := by decide +kernel
theorem dX6_search_57 : decode cX6_search 57 = .ok (.goto 128, 3) := by decide +kernel
theorem dX6_search_60 : decode cX6_search 60 = .ok (.iload 5, 2) := by decide +kernel
theorem dX6_search_62 : decode cX6_search 62 = .ok (.bipush 9, 2) := by decide +kernel
theorem dX6_search_64 : decode cX6_search 64 = .ok (.if_icmp .eq 13, 3) := by decide +kernel
theorem dX6_search_67 : decode cX6_search 67 = .ok (.aload_n 0, 1) := by decide +kernel
theorem dX6_search_68 : decode cX6_search 68 = .ok (.getfield 36, 3) := by decide +kernel
theorem dX6_search_71 : decode cX6_search 71 = .ok (.iload_n 2, 1) := by decide +kernel
theorem dX6_search_72 : decode cX6_search 72 = .ok (.if_icmp .ne 5, 3) := by decide +kernel
theorem dX6_search_75 : decode cX6_search 75 = .ok (.iconst 2, 1) := by decide +kernel
theorem dX6_search_76 : decode cX6_search 76 = .ok (.ireturn, 1) := by decide +kernel
theorem dX6_search_77 : decode cX6_search 77 = .ok (.aload_n 0, 1) := by decide +kernel
theorem dX6_search_78 : decode cX6_search 78 = .ok (.dup, 1) := by decide +kernel
theorem dX6_search_79 : decode cX6_search 79 = .ok (.getfield 36, 3) := by decide +kernel
theorem dX6_search_82 : decode cX6_search 82 = .ok (.iload 5, 2) := by decide +kernel
theorem dX6_search_84 : decode cX6_search 84 = .ok (.bipush 9, 2) := by decide +kernel
theorem dX6_search_86 : decode cX6_search 86 = .ok (.if_icmp .ne 7, 3) := by decide +kernel
theorem dX6_search_89 : decode cX6_search 89 = .ok (.iconst 0, 1) := by decide +kernel
theorem dX6_search_90 : decode cX6_search 90 = .ok (.goto 4, 3) := by decide +kernel
theorem dX6_search_93 : decode cX6_search 93 = .ok (.iconst 1, 1) := by decide +kernel
theorem dX6_search_94 : decode cX6_search 94 = .ok (.iadd, 1) := by decide +kernel
theorem dX6_search_95 : decode cX6_search 95 = .ok (.putfield 36, 3) := by decide +kernel
theorem dX6_search_98 : decode cX6_search 98 = .ok (.aload_n 0, 1) := by decide +kernel
theorem dX6_search_99 : decode cX6_search 99 = .ok (.iload_n 3, 1) := by decide +kernel
theorem dX6_search_100 : decode cX6_search 100 = .ok (.iload 5, 2) := by decide +kernel
theorem dX6_search_102 : decode cX6_search 102 = .ok (.invokevirtual 90, 3) := by decide +kernel
theorem dX6_search_105 : decode cX6_search 105 = .ok (.iload_n 3, 1) := by decide +kernel
theorem dX6_search_106 : decode cX6_search 106 = .ok (.iconst 4, 1) := by decide +kernel
theorem dX6_search_107 : decode cX6_search 107 = .ok (.irem, 1) := by decide +kernel
theorem dX6_search_108 : decode cX6_search 108 = .ok (.iconst 3, 1) := by decide +kernel
theorem dX6_search_109 : decode cX6_search 109 = .ok (.if_icmp .ne 60, 3) := by decide +kernel
theorem dX6_search_112 : decode cX6_search 112 = .ok (.iload_n 3, 1) := by decide +kernel
theorem dX6_search_113 : decode cX6_search 113 = .ok (.invokestatic 94, 3) := by decide +kernel
theorem dX6_search_116 : decode cX6_search 116 = .ok (.istore 6, 2) := by decide +kernel
theorem dX6_search_118 : decode cX6_search 118 = .ok (.aload_n 0, 1) := by decide +kernel
theorem dX6_search_119 : decode cX6_search 119 = .ok (.iload 6, 2) := by decide +kernel
theorem dX6_search_121 : decode cX6_search 121 = .ok (.invokevirtual 97, 3) := by decide +kernel
theorem dX6_search_124 : decode cX6_search 124 = .ok (.ifCond .ne 11, 3) := by decide +kernel
theorem dX6_search_127 : decode cX6_search 127 = .ok (.aload_n 0, 1) := by decide +kernel
theorem dX6_search_128 : decode cX6_search 128 = .ok (.iload_n 3, 1) := by decide +kernel
theorem dX6_search_129 : decode cX6_search 129 = .ok (.invokevirtual 87, 3) := by decide +kernel
theorem dX6_search_132 : decode cX6_search 132 = .ok (.goto 53, 3) := by decide +kernel
theorem dX6_search_135 : decode cX6_search 135 = .ok (.aload_n 0, 1) := by decide +kernel
theorem dX6_search_136 : decode cX6_search 136 = .ok (.aload_n 0, 1) := by decide +kernel
theorem dX6_search_137 : decode cX6_search 137 = .ok (.getfield 39, 3) := by decide +kernel
theorem dX6_search_140 : decode cX6_search 140 = .ok (.iload 6, 2) := by decide +kernel
theorem dX6_search_142 : decode cX6_search 142 = .ok (.invokestatic 101, 3) := by decide +kernel
theorem dX6_search_145 : decode cX6_search 145 = .ok (.putfield 39, 3) := by decide +kernel
theorem dX6_search_148 : decode cX6_search 148 = .ok (.iload 6, 2) := by decide +kernel
theorem dX6_search_150 : decode cX6_search 150 = .ok (.iload_n 1, 1) := by decide +kernel
theorem dX6_search_151 : decode cX6_search 151 = .ok (.if_icmp .lt 10, 3) := by decide +kernel
theorem dX6_search_154 : decode cX6_search 154 = .ok (.aload_n 0, 1) := by decide +kernel
theorem dX6_search_155 : decode cX6_search 155 = .ok (.iload_n 1, 1) := by decide +kernel
theorem dX6_search_156 : decode cX6_search 156 = .ok (.invokevirtual 107, 3) := by decide +kernel
theorem dX6_search_159 : decode cX6_search 159 = .ok (.iconst 0, 1) := by decide +kernel
theorem dX6_search_160 : decode cX6_search 160 = .ok (.ireturn, 1) := by decide +kernel
theorem dX6_search_161 : decode cX6_search 161 = .ok (.aload_n 0, 1) := by decide +kernel
theorem dX6_search_162 : decode cX6_search 162 = .ok (.iload 6, 2) := by decide +kernel
theorem dX6_search_164 : decode cX6_search 164 = .ok (.iconst 1, 1) := by decide +kernel
theorem dX6_search_165 : decode cX6_search 165 = .ok (.iadd, 1) := by decide +kernel
theorem dX6_search_166 : decode cX6_search 166 = .ok (.invokevirtual 78, 3) := by decide +kernel
theorem dX6_search_169 : decode cX6_search 169 = .ok (.iinc 3 1, 3) := by decide +kernel
theorem dX6_search_172 : decode cX6_search 172 = .ok (.iload_n 3, 1) := by decide +kernel
theorem dX6_search_173 : decode cX6_search 173 = .ok (.bipush 56, 2) := by decide +kernel
theorem dX6_search_175 : decode cX6_search 175 = .ok (.if_icmp .ge 10, 3) := by decide +kernel
theorem dX6_search_178 : decode cX6_search 178 = .ok (.aload_n 0, 1) := by decide +kernel
theorem dX6_search_179 : decode cX6_search 179 = .ok (.getfield 32, 3) := by decide +kernel
theorem dX6_search_182 : decode cX6_search 182 = .ok (.iload_n 3, 1) := by decide +kernel
theorem dX6_search_183 : decode cX6_search 183 = .ok (.iconst (-1), 1) := by decide +kernel
theorem dX6_search_184 : decode cX6_search 184 = .ok (.iastore, 1) := by decide +kernel
theorem dX6_search_185 : decode cX6_search 185 = .ok (.iinc 4 1, 3) := by decide +kernel
theorem dX6_search_188 : decode cX6_search 188 = .ok (.goto (-171), 3) := by decide +kernel
theorem dX6_search_191 : decode cX6_search 191 = .ok (.iconst 1, 1) := by decide +kernel
theorem dX6_search_192 : decode cX6_search 192 = .ok (.ireturn, 1) := by decide +kernel
set_option maxHeartbeats 4000000 in
set_option maxRecDepth 100000 in
/-- WellCourt$Planner.search -/
theorem s_X6_search (l : Launch) (G : va_G) (cy : Nat → ClassId) (sK sV : Nat → Nat) (ad : Nat → Nat → Nat) (sz : Nat) (st : gS) (hB : gBd bX st) (x : Int32) (y : Int32) (Xx : Int) (Xy : Int) (kx : x.toInt = Xx) (ky : y.toInt = Xy) (hx0 : 1 ≤ Xx) (hx1 : Xx ≤ 14) (hds : (st 38 0 4).toInt + Xx ≤ 199) (rs : List Rl) (hLp : LXa rs st (st 38 0 3).toNatClampNeg) (hwf : ∀ r ∈ rs, wfR r) : gsMi l yX6_search cX6_search 7 (some .int) ({ frames := 5, cells := 0, slots := 0, locals := 115 } : Room) G cy sK sV (shX cy ad) cnX ad sz [.ref (ad 38 0), .int x, .int y] st (fun (r : Int32) (u : gS) => gBN bX kX [1300, 1400, 1500, 3810, 3811, 3813, 3814, 4100, 4300, 4500, 4600, 4700] st u ∧ ((tdX st u))) := by
  refine gs_start (fun A => gsQi G (shX cy ad) cnX ad _ A) (by decide) (Nat.le_of_ble_eq_true rfl) ?_
  intro p e s m below meth c A ls H hx hb hr hml hlocks hown hts hK hov hE hI hM hm hS hA hl
  have hl : lv_has ls 7 [(0, .ref (ad 38 0)), (1, .int x), (2, .int y)] := hl
  have hB_st : gBN bX kX [1300, 1400, 1500, 3810, 3811, 3813, 3814, 4100, 4300, 4500, 4600, 4700] st st := gBN.rf hB
  generalize hQe : MQ below _ _ s _ _ A = Q
  refine lv_iconst (v := 0) hx hb dX6_search_0 (by decide) ?_
  refine lv_istore_n (lv' := [(3, .int 0), (0, .ref (ad 38 0)), (1, .int x), (2, .int y)]) hx hb dX6_search_1 rfl hl (by decide) rfl (fun ls hl => ?_)
  refine lv_aload_n hx hb dX6_search_2 rfl (lv_at hl 1 rfl) ?_
  refine gs_get (C := RX6) (T := TX6) (N := 15) hx hb hts inX6 hown hK hM 38 0 9 (by decide) rfl rfl (by decide) (hts _ gm_252) (fun _ h9 => h9) rfl dX6_search_3 ?_
  refine lv_iconst (v := 0) hx hb dX6_search_6 (by decide) ?_
  refine lv_iconst (v := (-1)) hx hb dX6_search_7 (by decide) ?_
  refine gs_iast hx hb hK hI hm hM hS 46 0 (by decide) (fun _ => rfl) (vp_in_iff.mpr (by decide)) dX6_search_8 (fun st_1 H locs est_1 hM hS => ?_)
  have est_1 : st_1 = gU st 46 0 0 ((-1) : Int32) := est_1
  have hB_st_1 : gBN bX kX [1300, 1400, 1500, 3810, 3811, 3813, 3814, 4100, 4300, 4500, 4600, 4700] st st_1 := by rw [est_1]; exact hB_st.up (show (4600 : Nat) ∈ _ from by decide) (show (-1 : Int) ≤ (((-1) : Int32)).toInt from by decide) (show (((-1) : Int32)).toInt ≤ (9 : Int) from by decide)
  refine lv_aload_n hx hb dX6_search_9 rfl (lv_at hl 1 rfl) ?_
  refine lv_iconst (v := 1) hx hb dX6_search_10 (by decide) ?_
  refine gs_callv (va_runV (As := [.int 1]) (rest := []) ⟨hx, hb, hml, hown, hts⟩ (s_X6_openDay l G cy sK sV ad H.size st_1 hB_st_1.1 (1 : Int32) 1 (by decide) (by have hq0 : (st_1 38 0 4).toInt = ((st 38 0 4) : Int32).toInt := congrArg Int32.toInt (((congrFun (congrFun (congrFun est_1 38) 0) 4).trans (congrFun (congrFun (gU_k (by decide)) 0) 4))); have hb1 : (0 : Int) ≤ (st_1 38 0 4).toInt ∧ (st_1 38 0 4).toInt ≤ (199 : Int) := hB_st_1.1 38 0 4; omega) rs (show LXa rs st_1 (st_1 38 0 3).toNatClampNeg from (by rw [show st_1 38 0 3 = st 38 0 3 from ((congrFun (congrFun (congrFun est_1 38) 0) 3).trans (congrFun (congrFun (gU_k (by decide)) 0) 3))]; exact (LXa.upk hLp est_1 (by decide)))) hwf) ⟨(gz_cb (n := 1) hts gm_854 gm_11 gm_857 ⟨by decide +kernel, by decide +kernel, by decide +kernel⟩ ⟨Nat.le_of_ble_eq_true rfl, Nat.le_of_ble_eq_true rfl⟩), hts _ gm_856, hts _ gs_24⟩ (gs_preV hK hov hE hI hM hm hS hA 38 0 (by decide) rfl rfl) rfl rfl hl.1 rfl (lv_room (Nat.le_of_ble_eq_true rfl)) dX6_search_11 ⟨Nat.le_of_ble_eq_true rfl, Nat.le_of_ble_eq_true rfl⟩) hm hS hA (fun st_2 H locs hw_2 hM hS => ?_)
  obtain ⟨n_2, hw_2⟩ := hw_2
  have hB_st_2 : gBN bX kX [1300, 1400, 1500, 3810, 3811, 3813, 3814, 4100, 4300, 4500, 4600, 4700] st st_2 := hB_st_1.call n_2 (by decide)
  have hw_2_0 := hw_2
  refine lv_iconst (v := 0) hx hb dX6_search_14 (by decide) ?_
  refine lv_istore (lv' := [(4, .int 0), (3, .int 0), (0, .ref (ad 38 0)), (1, .int x), (2, .int y)]) hx hb dX6_search_15 hl (by decide) rfl (fun ls hl => ?_)
  have lp3 : ∀ (n3 : Nat) (sv3 : gS) (y3_0 : Int32) (y3_1 : Int32) (H : Heap) (locs : List Loc) (ls : Array Slot), (5600224 - y3_1.toInt).toNat < n3 → gBN bX kX [1300, 1400, 1500, 3810, 3811, 3813, 3814, 4100, 4300, 4500, 4600, 4700] st sv3 → (0 ≤ y3_0.toInt) → (y3_0.toInt ≤ 56) → (0 ≤ y3_1.toInt) → (tdX st sv3) → gM G (shX cy ad) cnX ad sv3 H → va_S A s.heap H locs → lv_has ls 7 [(4, .int y3_1), (3, .int y3_0), (0, .ref (ad 38 0)), (1, .int x), (2, .int y)] → W p l e ({ frames := 5, cells := 0, slots := 0, locals := 115 } : Room) s m [.ref (ad 38 0), .int x, .int y].toArray below meth c H locs 0 0 Q (F0 m 17 ls []) := by
    intro n3
    induction n3 with
    | zero => intro sv3 y3_0 y3_1 H locs ls h9; exact absurd h9 (Nat.not_lt_zero _)
    | succ n3 ih_3 =>
      intro sv3 y3_0 y3_1 H locs ls hme3 hB_sv3 hv3_0 hv3_1 hv3_2 hv3_3 hM hS hl
      refine lv_iload hx hb dX6_search_17 (lv_at hl 0 rfl) ?_
      refine lv_ldc (v := 5600224) hx hb hown (hts _ gm_860) dX6_search_19 ?_
      refine lv_icmp_ge (tgt := 191) hx hb dX6_search_21 (by decide) (fun c_4 => ?_) (fun c_4 => ?_)
      · have ic_4 := gz_le (by decide : (5600224 : Int32).toInt = 5600224) (rfl : y3_1.toInt = y3_1.toInt) c_4
        refine lv_iconst (v := 1) hx hb dX6_search_191 (by decide) ?_
        rw [← hQe]
        exact gs_iret hx hb hr hlocks hM hS rfl ⟨hB_sv3, hv3_3⟩ (by exact Nat.le_refl _) (by exact Nat.le_refl _) dX6_search_192
      · have ic_4 := gz_nle (by decide : (5600224 : Int32).toInt = 5600224) (rfl : y3_1.toInt = y3_1.toInt) c_4
        refine lv_iload_n hx hb dX6_search_24 rfl (lv_at hl 1 rfl) ?_
        refine lv_bipush (v := 56) hx hb dX6_search_25 (by decide) ?_
        refine lv_icmp_ge (tgt := 191) hx hb dX6_search_27 (by decide) (fun c_5 => ?_) (fun c_5 => ?_)
        · have ic_5 := gz_le (by decide : (56 : Int32).toInt = 56) (rfl : y3_0.toInt = y3_0.toInt) c_5
          refine lv_iconst (v := 1) hx hb dX6_search_191 (by decide) ?_
          rw [← hQe]
          exact gs_iret hx hb hr hlocks hM hS rfl ⟨hB_sv3, hv3_3⟩ (by exact Nat.le_refl _) (by exact Nat.le_refl _) dX6_search_192
        · have ic_5 := gz_nle (by decide : (56 : Int32).toInt = 56) (rfl : y3_0.toInt = y3_0.toInt) c_5
          refine lv_aload_n hx hb dX6_search_30 rfl (lv_at hl 2 rfl) ?_
          refine lv_iload_n hx hb dX6_search_31 rfl (lv_at hl 1 rfl) ?_
          refine gs_calli (va_runV (As := [.int y3_0]) (rest := []) ⟨hx, hb, hml, hown, hts⟩ (s_X6_nextAct l G cy sK sV ad H.size sv3 hB_sv3.1 y3_0 y3_0.toInt rfl (by first | decide | omega) (by first | decide | omega) rs (show LXa rs sv3 (sv3 38 0 3).toNatClampNeg from (by rw [show sv3 38 0 3 = st 38 0 3 from (hB_sv3.2 38 0 3 (show (3803 : Nat) ∉ _ from by decide))]; exact (LXa.keep hLp hB_sv3.2 (by decide)))) hwf) ⟨(gz_cb (n := 1) hts gm_861 gm_11 gm_864 ⟨by decide +kernel, by decide +kernel, by decide +kernel⟩ ⟨Nat.le_of_ble_eq_true rfl, Nat.le_of_ble_eq_true rfl⟩), hts _ gm_863, hts _ gs_25⟩ (gs_preV hK hov hE hI hM hm hS hA 38 0 (by decide) rfl rfl) rfl rfl hl.1 rfl (lv_room (Nat.le_of_ble_eq_true rfl)) dX6_search_32 ⟨Nat.le_of_ble_eq_true rfl, Nat.le_of_ble_eq_true rfl⟩) hm hS hA (fun r_6 st_6 H locs hw_6 hM hS => ?_)
          obtain ⟨n_6, hw_6⟩ := hw_6
          have n_6 := gBN.nil n_6
          subst n_6
          have hw_6_0 := hw_6
          refine lv_istore (lv' := [(5, .int r_6), (4, .int y3_1), (3, .int y3_0), (0, .ref (ad 38 0)), (1, .int x), (2, .int y)]) hx hb dX6_search_35 hl (by decide) rfl (fun ls hl => ?_)
          refine lv_iload hx hb dX6_search_37 (lv_at hl 0 rfl) ?_
          refine lv_iconst (v := (-1)) hx hb dX6_search_39 (by decide) ?_
          refine lv_icmp_ne (tgt := 60) hx hb dX6_search_40 (by decide) (fun c_7 => ?_) (fun c_7 => ?_)
          · have ic_7 := gz_ne (rfl : r_6.toInt = r_6.toInt) (by decide : ((-1) : Int32).toInt = -1) c_7
            refine lv_iload hx hb dX6_search_60 (lv_at hl 0 rfl) ?_
            refine lv_bipush (v := 9) hx hb dX6_search_62 (by decide) ?_
            refine lv_icmp_eq (tgt := 77) hx hb dX6_search_64 (by decide) (fun c_8 => ?_) (fun c_8 => ?_)
            · have ic_8 := gz_eq (rfl : r_6.toInt = r_6.toInt) (by decide : (9 : Int32).toInt = 9) c_8
              refine lv_aload_n hx hb dX6_search_77 rfl (lv_at hl 3 rfl) ?_
              refine lv_dup hx hb dX6_search_78 rfl ?_
              refine gs_get (C := RX6) (T := TX6) (N := 15) hx hb hts inX6 hown hK hM 38 0 10 (by decide) rfl rfl (by decide) (hts _ gm_253) (fun _ h9 => h9) rfl dX6_search_79 ?_
              refine lv_iload hx hb dX6_search_82 (lv_at hl 0 rfl) ?_
              refine lv_bipush (v := 9) hx hb dX6_search_84 (by decide) ?_
              refine lv_icmp_ne (tgt := 93) hx hb dX6_search_86 (by decide) (fun c_10 => ?_) (fun c_10 => ?_)
              · have ic_10 := gz_ne (rfl : r_6.toInt = r_6.toInt) (by decide : (9 : Int32).toInt = 9) c_10
                refine lv_iconst (v := 1) hx hb dX6_search_93 (by decide) ?_
                refine lv_iadd hx hb dX6_search_94 ?_
                refine lv_topi (fun x_11 ex_11 => ?_)
                try have tx_11 : x_11.toInt = (sv3 38 0 10).toInt + 1 := by rw [ex_11]; exact gz_addP (x := (sv3 38 0 10).toInt) (y := 1) rfl (by decide) (by omega) (by omega)
                refine gs_put (C := RX6) (T := TX6) (N := 15) (ty := .int) (val := .int x_11) hx hb hts inX6 tyX6 tyX6_ok nmX6 hown hK hI hm hM hS 38 0 10 (by decide) rfl rfl (by decide) (hts _ gm_253) (fun _ h9 => h9) rfl (x_11 : Int32) rfl (by decide +kernel) rfl rfl (Nat.le_of_ble_eq_true rfl) dX6_search_95 (fun st_12 H locs est_12 hM hS => ?_)
                have hB_st_12 : gBN bX kX [1300, 1400, 1500, 3810, 3811, 3813, 3814, 4100, 4300, 4500, 4600, 4700] st st_12 := by rw [est_12]; exact hB_sv3.up (show (3810 : Nat) ∈ _ from by decide) (gi_lo _) (gi_hi _)
                refine lv_aload_n hx hb dX6_search_98 rfl (lv_at hl 3 rfl) ?_
                refine lv_iload_n hx hb dX6_search_99 rfl (lv_at hl 2 rfl) ?_
                refine lv_iload hx hb dX6_search_100 (lv_at hl 0 rfl) ?_
                refine gs_callv (va_runV (As := [.int y3_0, .int r_6]) (rest := []) ⟨hx, hb, hml, hown, hts⟩ (s_X6_perform l G cy sK sV ad H.size st_12 hB_st_12.1 y3_0 r_6 y3_0.toInt r_6.toInt rfl rfl (by first | decide | omega) (by first | decide | omega) (by first | decide | omega)) ⟨(gz_cb (n := 2) hts gm_878 gm_11 gm_881 ⟨by decide +kernel, by decide +kernel, by decide +kernel⟩ ⟨Nat.le_of_ble_eq_true rfl, Nat.le_of_ble_eq_true rfl⟩), hts _ gm_880, hts _ gs_28⟩ (gs_preV hK hov hE hI hM hm hS hA 38 0 (by decide) rfl rfl) rfl rfl hl.1 rfl (lv_room (Nat.le_of_ble_eq_true rfl)) dX6_search_102 ⟨Nat.le_of_ble_eq_true rfl, Nat.le_of_ble_eq_true rfl⟩) hm hS hA (fun st_13 H locs hw_13 hM hS => ?_)
                obtain ⟨n_13, hw_13⟩ := hw_13
                have hB_st_13 : gBN bX kX [1300, 1400, 1500, 3810, 3811, 3813, 3814, 4100, 4300, 4500, 4600, 4700] st st_13 := hB_st_12.call n_13 (by decide)
                have hw_13_0 := hw_13
                refine lv_iload_n hx hb dX6_search_105 rfl (lv_at hl 2 rfl) ?_
                refine lv_iconst (v := 4) hx hb dX6_search_106 (by decide) ?_
                refine lv_irem hx hb dX6_search_107 (by decide) ?_
                refine lv_topi (fun x_14 ex_14 => ?_)
                try have tx_14 := gs_rem (y := 4) (by decide) (show 0 ≤ y3_0.toInt from by omega) (by omega) ex_14
                refine lv_iconst (v := 3) hx hb dX6_search_108 (by decide) ?_
                refine lv_icmp_ne (tgt := 169) hx hb dX6_search_109 (by decide) (fun c_15 => ?_) (fun c_15 => ?_)
                · have ic_15 := gz_ne (rfl : x_14.toInt = x_14.toInt) (by decide : (3 : Int32).toInt = 3) c_15
                  obtain ⟨x_16, ex_16⟩ : ∃ y : Int32, y = y3_0 + 1 := ⟨_, rfl⟩
                  try have tx_16 : x_16.toInt = y3_0.toInt + 1 := by rw [ex_16]; exact gz_addP (x := y3_0.toInt) (y := 1) rfl (by decide) (by omega) (by omega)
                  refine lv_iinc (v := (x_16)) (lv' := [(3, .int x_16), (5, .int r_6), (4, .int y3_1), (0, .ref (ad 38 0)), (1, .int x), (2, .int y)]) hx hb dX6_search_169 hl (k := 2) rfl (by rw [ex_16]; rfl) (by decide) rfl (fun ls hl => ?_)
                  refine lv_iload_n hx hb dX6_search_172 rfl (lv_at hl 0 rfl) ?_
                  refine lv_bipush (v := 56) hx hb dX6_search_173 (by decide) ?_
                  refine lv_icmp_ge (tgt := 185) hx hb dX6_search_175 (by decide) (fun c_17 => ?_) (fun c_17 => ?_)
                  · have ic_17 := gz_le (by decide : (56 : Int32).toInt = 56) (rfl : x_16.toInt = x_16.toInt) c_17
                    obtain ⟨x_18, ex_18⟩ : ∃ y : Int32, y = y3_1 + 1 := ⟨_, rfl⟩
                    try have tx_18 : x_18.toInt = y3_1.toInt + 1 := by rw [ex_18]; exact gz_addP (x := y3_1.toInt) (y := 1) rfl (by decide) (by omega) (by omega)
                    refine lv_iinc (v := (x_18)) (lv' := [(4, .int x_18), (3, .int x_16), (5, .int r_6), (0, .ref (ad 38 0)), (1, .int x), (2, .int y)]) hx hb dX6_search_185 hl (k := 2) rfl (by rw [ex_18]; rfl) (by decide) rfl (fun ls hl => ?_)
                    refine lv_goto (tgt := 17) hx hb dX6_search_188 (by decide) ?_
                    exact ih_3 st_13 (x_16 : Int32) (x_18 : Int32) H _ ls (by omega) hB_st_13 (by omega) (by omega) (by omega) (tdX.trans (tdX.trans hv3_3 (tdX.upk est_12 (by decide))) hw_13_0) hM hS (lv_sub hl [0, 1, 3, 4, 5] rfl)
                  · have ic_17 := gz_nle (by decide : (56 : Int32).toInt = 56) (rfl : x_16.toInt = x_16.toInt) c_17
                    refine lv_aload_n hx hb dX6_search_178 rfl (lv_at hl 3 rfl) ?_
                    refine gs_get (C := RX6) (T := TX6) (N := 15) hx hb hts inX6 hown hK hM 38 0 9 (by decide) rfl rfl (by decide) (hts _ gm_252) (fun _ h9 => h9) rfl dX6_search_179 ?_
                    refine lv_iload_n hx hb dX6_search_182 rfl (lv_at hl 0 rfl) ?_
                    refine lv_iconst (v := (-1)) hx hb dX6_search_183 (by decide) ?_
                    refine gs_iast hx hb hK hI hm hM hS 46 0 (by decide) (fun _ => rfl) (vp_in_iff.mpr ⟨by omega, by omega⟩) dX6_search_184 (fun st_19 H locs est_19 hM hS => ?_)
                    have hB_st_19 : gBN bX kX [1300, 1400, 1500, 3810, 3811, 3813, 3814, 4100, 4300, 4500, 4600, 4700] st st_19 := by rw [est_19]; exact hB_st_13.up (show (4600 : Nat) ∈ _ from by decide) (show (-1 : Int) ≤ (((-1) : Int32)).toInt from by decide) (show (((-1) : Int32)).toInt ≤ (9 : Int) from by decide)
                    obtain ⟨x_20, ex_20⟩ : ∃ y : Int32, y = y3_1 + 1 := ⟨_, rfl⟩
                    try have tx_20 : x_20.toInt = y3_1.toInt + 1 := by rw [ex_20]; exact gz_addP (x := y3_1.toInt) (y := 1) rfl (by decide) (by omega) (by omega)
                    refine lv_iinc (v := (x_20)) (lv' := [(4, .int x_20), (3, .int x_16), (5, .int r_6), (0, .ref (ad 38 0)), (1, .int x), (2, .int y)]) hx hb dX6_search_185 hl (k := 2) rfl (by rw [ex_20]; rfl) (by decide) rfl (fun ls hl => ?_)
                    refine lv_goto (tgt := 17) hx hb dX6_search_188 (by decide) ?_
                    exact ih_3 st_19 (x_16 : Int32) (x_20 : Int32) H _ ls (by omega) hB_st_19 (by omega) (by omega) (by omega) (tdX.trans (tdX.trans (tdX.trans hv3_3 (tdX.upk est_12 (by decide))) hw_13_0) (tdX.upk est_19 (by decide))) hM hS (lv_sub hl [0, 1, 3, 4, 5] rfl)
                · have ic_15 := gz_eqn (rfl : x_14.toInt = x_14.toInt) (by decide : (3 : Int32).toInt = 3) c_15
                  refine lv_iload_n hx hb dX6_search_112 rfl (lv_at hl 2 rfl) ?_
                  refine gs_calli (va_runS (As := [.int y3_0]) (rest := []) ⟨hx, hb, hml, hown, hts⟩ (s_X6_rowOf l G cy sK sV ad H.size st_13 hB_st_13.1 y3_0 y3_0.toInt rfl (by first | decide | omega) (by first | decide | omega)) ⟨(gz_cb (n := 1) hts gm_865 gm_11 gm_867 ⟨by decide +kernel, by decide +kernel, by decide +kernel⟩ ⟨Nat.le_of_ble_eq_true rfl, Nat.le_of_ble_eq_true rfl⟩), hts _ gm_866⟩ (gs_preS hK hov hE hI hM hm hS hA) rfl rfl hl.1 rfl (lv_room (Nat.le_of_ble_eq_true rfl)) dX6_search_113 ⟨Nat.le_of_ble_eq_true rfl, Nat.le_of_ble_eq_true rfl⟩) hm hS hA (fun r_21 st_21 H locs hw_21 hM hS => ?_)
                  obtain ⟨n_21, hw_21⟩ := hw_21
                  have n_21 := gBN.nil n_21
                  subst n_21
                  obtain ⟨hw_21_0, hw_21_1, hw_21_2, hw_21_3⟩ := hw_21
                  refine lv_istore (lv' := [(6, .int r_21), (5, .int r_6), (4, .int y3_1), (3, .int y3_0), (0, .ref (ad 38 0)), (1, .int x), (2, .int y)]) hx hb dX6_search_116 hl (by decide) rfl (fun ls hl => ?_)
                  refine lv_aload_n hx hb dX6_search_118 rfl (lv_at hl 4 rfl) ?_
                  refine lv_iload hx hb dX6_search_119 (lv_at hl 0 rfl) ?_
                  refine gs_calli (va_runV (As := [.int r_21]) (rest := []) ⟨hx, hb, hml, hown, hts⟩ (s_X6_isGood l G cy sK sV ad H.size st_13 hB_st_13.1 r_21 r_21.toInt rfl (by first | decide | omega) (by first | decide | omega)) ⟨(gz_cb (n := 1) hts gm_882 gm_11 gm_885 ⟨by decide +kernel, by decide +kernel, by decide +kernel⟩ ⟨Nat.le_of_ble_eq_true rfl, Nat.le_of_ble_eq_true rfl⟩), hts _ gm_884, hts _ gs_29⟩ (gs_preV hK hov hE hI hM hm hS hA 38 0 (by decide) rfl rfl) rfl rfl hl.1 rfl (lv_room (Nat.le_of_ble_eq_true rfl)) dX6_search_121 ⟨Nat.le_of_ble_eq_true rfl, Nat.le_of_ble_eq_true rfl⟩) hm hS hA (fun r_22 st_22 H locs hw_22 hM hS => ?_)
                  obtain ⟨n_22, hw_22⟩ := hw_22
                  have n_22 := gBN.nil n_22
                  subst n_22
                  rcases hw_22 with rfl | rfl
                  · skip
                    refine lv_if_ne (tgt := 135) hx hb dX6_search_124 (by decide) (fun _ => ?_) (fun h9 => absurd h9 (by decide))
                    refine lv_aload_n hx hb dX6_search_135 rfl (lv_at hl 4 rfl) ?_
                    refine lv_aload_n hx hb dX6_search_136 rfl (lv_at hl 4 rfl) ?_
                    refine gs_get (C := RX6) (T := TX6) (N := 15) hx hb hts inX6 hown hK hM 38 0 11 (by decide) rfl rfl (by decide) (hts _ gm_255) (fun _ h9 => h9) rfl dX6_search_137 ?_
                    refine lv_topi (fun x_23 ex_23 => ?_)
                    have ex_23 : (sv3 38 0 11) = x_23 := Eq.symm (ex_23.trans ((n_13.2 38 0 11 (show (3811 : Nat) ∉ _ from by decide)).trans ((congrFun (congrFun (congrFun est_12 38) 0) 11).trans (gU_other (by decide)))))
                    subst ex_23
                    refine lv_iload hx hb dX6_search_140 (lv_at hl 0 rfl) ?_
                    refine va_mmax hx hb (hml.trans hl.1.symm) hown (hts _ gm_886) (hts _ gm_537) (hts _ gm_17) (hts _ gm_538) (Nat.le_of_ble_eq_true rfl) (Nat.le_of_ble_eq_true rfl) (Nat.le_of_ble_eq_true rfl) (Nat.le_of_ble_eq_true rfl) dX6_search_142 ?_
                    refine lv_topi (fun x_25 ex_25 => ?_)
                    have tx_25 := gs_max ex_25
                    refine gs_put (C := RX6) (T := TX6) (N := 15) (ty := .int) (val := .int x_25) hx hb hts inX6 tyX6 tyX6_ok nmX6 hown hK hI hm hM hS 38 0 11 (by decide) rfl rfl (by decide) (hts _ gm_255) (fun _ h9 => h9) rfl (x_25 : Int32) rfl (by decide +kernel) rfl rfl (Nat.le_of_ble_eq_true rfl) dX6_search_145 (fun st_26 H locs est_26 hM hS => ?_)
                    have hB_st_26 : gBN bX kX [1300, 1400, 1500, 3810, 3811, 3813, 3814, 4100, 4300, 4500, 4600, 4700] st st_26 := by rw [est_26]; exact hB_st_13.up (show (3811 : Nat) ∈ _ from by decide) (gi_lo _) (gi_hi _)
                    refine lv_iload hx hb dX6_search_148 (lv_at hl 0 rfl) ?_
                    refine lv_iload_n hx hb dX6_search_150 rfl (lv_at hl 5 rfl) ?_
                    refine lv_icmp_lt (tgt := 161) hx hb dX6_search_151 (by decide) (fun c_27 => ?_) (fun c_27 => ?_)
                    · have ic_27 := gz_lt (rfl : r_21.toInt = r_21.toInt) (rfl : x.toInt = x.toInt) c_27
                      have lc_27 := gi_hi x
                      refine lv_aload_n hx hb dX6_search_161 rfl (lv_at hl 4 rfl) ?_
                      refine lv_iload hx hb dX6_search_162 (lv_at hl 0 rfl) ?_
                      refine lv_iconst (v := 1) hx hb dX6_search_164 (by decide) ?_
                      refine lv_iadd hx hb dX6_search_165 ?_
                      refine lv_topi (fun x_28 ex_28 => ?_)
                      try have tx_28 : x_28.toInt = r_21.toInt + 1 := by rw [ex_28]; exact gz_addP (x := r_21.toInt) (y := 1) rfl (by decide) (by omega) (by omega)
                      refine gs_callv (va_runV (As := [.int x_28]) (rest := []) ⟨hx, hb, hml, hown, hts⟩ (s_X6_openDay l G cy sK sV ad H.size st_26 hB_st_26.1 x_28 x_28.toInt rfl (by have hq0 : (st_26 38 0 4).toInt = ((st 38 0 4) : Int32).toInt := congrArg Int32.toInt ((((congrFun (congrFun (congrFun est_26 38) 0) 4).trans (gU_other (by decide))).trans ((n_13.2 38 0 4 (show (3804 : Nat) ∉ _ from by decide)).trans (((congrFun (congrFun (congrFun est_12 38) 0) 4).trans (gU_other (by decide))).trans (hB_sv3.2 38 0 4 (show (3804 : Nat) ∉ _ from by decide)))))); have hb1 : (0 : Int) ≤ (st_26 38 0 4).toInt ∧ (st_26 38 0 4).toInt ≤ (199 : Int) := hB_st_26.1 38 0 4; omega) rs (show LXa rs st_26 (st_26 38 0 3).toNatClampNeg from (by rw [show st_26 38 0 3 = st 38 0 3 from (((congrFun (congrFun (congrFun est_26 38) 0) 3).trans (gU_other (by decide))).trans ((n_13.2 38 0 3 (show (3803 : Nat) ∉ _ from by decide)).trans (((congrFun (congrFun (congrFun est_12 38) 0) 3).trans (gU_other (by decide))).trans (hB_sv3.2 38 0 3 (show (3803 : Nat) ∉ _ from by decide)))))]; exact (LXa.upk (LXa.keep (LXa.upk (LXa.keep hLp hB_sv3.2 (by decide)) est_12 (by decide)) n_13.2 (by decide)) est_26 (by decide)))) hwf) ⟨(gz_cb (n := 1) hts gm_854 gm_11 gm_857 ⟨by decide +kernel, by decide +kernel, by decide +kernel⟩ ⟨Nat.le_of_ble_eq_true rfl, Nat.le_of_ble_eq_true rfl⟩), hts _ gm_856, hts _ gs_24⟩ (gs_preV hK hov hE hI hM hm hS hA 38 0 (by decide) rfl rfl) rfl rfl hl.1 rfl (lv_room (Nat.le_of_ble_eq_true rfl)) dX6_search_166 ⟨Nat.le_of_ble_eq_true rfl, Nat.le_of_ble_eq_true rfl⟩) hm hS hA (fun st_29 H locs hw_29 hM hS => ?_)
                      obtain ⟨n_29, hw_29⟩ := hw_29
                      have hB_st_29 : gBN bX kX [1300, 1400, 1500, 3810, 3811, 3813, 3814, 4100, 4300, 4500, 4600, 4700] st st_29 := hB_st_26.call n_29 (by decide)
                      have hw_29_0 := hw_29
                      obtain ⟨x_30, ex_30⟩ : ∃ y : Int32, y = y3_0 + 1 := ⟨_, rfl⟩
                      try have tx_30 : x_30.toInt = y3_0.toInt + 1 := by rw [ex_30]; exact gz_addP (x := y3_0.toInt) (y := 1) rfl (by decide) (by omega) (by omega)
                      refine lv_iinc (v := (x_30)) (lv' := [(3, .int x_30), (6, .int r_21), (5, .int r_6), (4, .int y3_1), (0, .ref (ad 38 0)), (1, .int x), (2, .int y)]) hx hb dX6_search_169 hl (k := 3) rfl (by rw [ex_30]; rfl) (by decide) rfl (fun ls hl => ?_)
                      refine lv_iload_n hx hb dX6_search_172 rfl (lv_at hl 0 rfl) ?_
                      refine lv_bipush (v := 56) hx hb dX6_search_173 (by decide) ?_
                      refine lv_icmp_ge (tgt := 185) hx hb dX6_search_175 (by decide) (fun c_31 => ?_) (fun c_31 => ?_)
                      · have ic_31 := gz_le (by decide : (56 : Int32).toInt = 56) (rfl : x_30.toInt = x_30.toInt) c_31
                        obtain ⟨x_32, ex_32⟩ : ∃ y : Int32, y = y3_1 + 1 := ⟨_, rfl⟩
                        try have tx_32 : x_32.toInt = y3_1.toInt + 1 := by rw [ex_32]; exact gz_addP (x := y3_1.toInt) (y := 1) rfl (by decide) (by omega) (by omega)
                        refine lv_iinc (v := (x_32)) (lv' := [(4, .int x_32), (3, .int x_30), (6, .int r_21), (5, .int r_6), (0, .ref (ad 38 0)), (1, .int x), (2, .int y)]) hx hb dX6_search_185 hl (k := 3) rfl (by rw [ex_32]; rfl) (by decide) rfl (fun ls hl => ?_)
                        refine lv_goto (tgt := 17) hx hb dX6_search_188 (by decide) ?_
                        exact ih_3 st_29 (x_30 : Int32) (x_32 : Int32) H _ ls (by omega) hB_st_29 (by omega) (by omega) (by omega) (tdX.trans (tdX.trans (tdX.trans (tdX.trans hv3_3 (tdX.upk est_12 (by decide))) hw_13_0) (tdX.upk est_26 (by decide))) hw_29_0) hM hS (lv_sub hl [0, 1, 4, 5, 6] rfl)
                      · have ic_31 := gz_nle (by decide : (56 : Int32).toInt = 56) (rfl : x_30.toInt = x_30.toInt) c_31
                        refine lv_aload_n hx hb dX6_search_178 rfl (lv_at hl 4 rfl) ?_
                        refine gs_get (C := RX6) (T := TX6) (N := 15) hx hb hts inX6 hown hK hM 38 0 9 (by decide) rfl rfl (by decide) (hts _ gm_252) (fun _ h9 => h9) rfl dX6_search_179 ?_
                        refine lv_iload_n hx hb dX6_search_182 rfl (lv_at hl 0 rfl) ?_
                        refine lv_iconst (v := (-1)) hx hb dX6_search_183 (by decide) ?_
                        refine gs_iast hx hb hK hI hm hM hS 46 0 (by decide) (fun _ => rfl) (vp_in_iff.mpr ⟨by omega, by omega⟩) dX6_search_184 (fun st_33 H locs est_33 hM hS => ?_)
                        have hB_st_33 : gBN bX kX [1300, 1400, 1500, 3810, 3811, 3813, 3814, 4100, 4300, 4500, 4600, 4700] st st_33 := by rw [est_33]; exact hB_st_29.up (show (4600 : Nat) ∈ _ from by decide) (show (-1 : Int) ≤ (((-1) : Int32)).toInt from by decide) (show (((-1) : Int32)).toInt ≤ (9 : Int) from by decide)
                        obtain ⟨x_34, ex_34⟩ : ∃ y : Int32, y = y3_1 + 1 := ⟨_, rfl⟩
                        try have tx_34 : x_34.toInt = y3_1.toInt + 1 := by rw [ex_34]; exact gz_addP (x := y3_1.toInt) (y := 1) rfl (by decide) (by omega) (by omega)
                        refine lv_iinc (v := (x_34)) (lv' := [(4, .int x_34), (3, .int x_30), (6, .int r_21), (5, .int r_6), (0, .ref (ad 38 0)), (1, .int x), (2, .int y)]) hx hb dX6_search_185 hl (k := 3) rfl (by rw [ex_34]; rfl) (by decide) rfl (fun ls hl => ?_)
                        refine lv_goto (tgt := 17) hx hb dX6_search_188 (by decide) ?_
                        exact ih_3 st_33 (x_30 : Int32) (x_34 : Int32) H _ ls (by omega) hB_st_33 (by omega) (by omega) (by omega) (tdX.trans (tdX.trans (tdX.trans (tdX.trans (tdX.trans hv3_3 (tdX.upk est_12 (by decide))) hw_13_0) (tdX.upk est_26 (by decide))) hw_29_0) (tdX.upk est_33 (by decide))) hM hS (lv_sub hl [0, 1, 4, 5, 6] rfl)
                    · have ic_27 := gz_nlt (rfl : r_21.toInt = r_21.toInt) (rfl : x.toInt = x.toInt) c_27
                      refine lv_aload_n hx hb dX6_search_154 rfl (lv_at hl 4 rfl) ?_
                      refine lv_iload_n hx hb dX6_search_155 rfl (lv_at hl 5 rfl) ?_
                      refine gs_callv (va_runV (As := [.int x]) (rest := []) ⟨hx, hb, hml, hown, hts⟩ (s_X6_keepFound l G cy sK sV ad H.size st_26 hB_st_26.1 x x.toInt rfl (by first | decide | omega) (by first | decide | omega)) ⟨(gz_cb (n := 1) hts gm_887 gm_11 gm_890 ⟨by decide +kernel, by decide +kernel, by decide +kernel⟩ ⟨Nat.le_of_ble_eq_true rfl, Nat.le_of_ble_eq_true rfl⟩), hts _ gm_889, hts _ gs_30⟩ (gs_preV hK hov hE hI hM hm hS hA 38 0 (by decide) rfl rfl) rfl rfl hl.1 rfl (lv_room (Nat.le_of_ble_eq_true rfl)) dX6_search_156 ⟨Nat.le_of_ble_eq_true rfl, Nat.le_of_ble_eq_true rfl⟩) hm hS hA (fun st_35 H locs hw_35 hM hS => ?_)
                      obtain ⟨n_35, hw_35⟩ := hw_35
                      have hB_st_35 : gBN bX kX [1300, 1400, 1500, 3810, 3811, 3813, 3814, 4100, 4300, 4500, 4600, 4700] st st_35 := hB_st_26.call n_35 (by decide)
                      refine lv_iconst (v := 0) hx hb dX6_search_159 (by decide) ?_
                      rw [← hQe]
                      exact gs_iret hx hb hr hlocks hM hS rfl ⟨hB_st_35, (tdX.trans (tdX.trans (tdX.trans (tdX.trans hv3_3 (tdX.upk est_12 (by decide))) hw_13_0) (tdX.upk est_26 (by decide))) (tdX.frame n_35.2 (by decide)))⟩ (by exact Nat.le_refl _) (by exact Nat.le_refl _) dX6_search_160
                  · skip
                    refine lv_if_ne (tgt := 135) hx hb dX6_search_124 (by decide) (fun h9 => absurd (by decide) h9) (fun _ => ?_)
                    refine lv_aload_n hx hb dX6_search_127 rfl (lv_at hl 4 rfl) ?_
                    refine lv_iload_n hx hb dX6_search_128 rfl (lv_at hl 3 rfl) ?_
                    refine gs_callv (va_runV (As := [.int y3_0]) (rest := []) ⟨hx, hb, hml, hown, hts⟩ (s_X6_undo l G cy sK sV ad H.size st_13 hB_st_13.1 y3_0 y3_0.toInt rfl (by first | decide | omega) (by first | decide | omega)) ⟨(gz_cb (n := 1) hts gm_874 gm_11 gm_877 ⟨by decide +kernel, by decide +kernel, by decide +kernel⟩ ⟨Nat.le_of_ble_eq_true rfl, Nat.le_of_ble_eq_true rfl⟩), hts _ gm_876, hts _ gs_27⟩ (gs_preV hK hov hE hI hM hm hS hA 38 0 (by decide) rfl rfl) rfl rfl hl.1 rfl (lv_room (Nat.le_of_ble_eq_true rfl)) dX6_search_129 ⟨Nat.le_of_ble_eq_true rfl, Nat.le_of_ble_eq_true rfl⟩) hm hS hA (fun st_36 H locs hw_36 hM hS => ?_)
                    obtain ⟨n_36, hw_36⟩ := hw_36
                    have hB_st_36 : gBN bX kX [1300, 1400, 1500, 3810, 3811, 3813, 3814, 4100, 4300, 4500, 4600, 4700] st st_36 := hB_st_13.call n_36 (by decide)
                    have hw_36_0 := hw_36
                    refine lv_goto (tgt := 185) hx hb dX6_search_132 (by decide) ?_
                    obtain ⟨x_37, ex_37⟩ : ∃ y : Int32, y = y3_1 + 1 := ⟨_, rfl⟩
                    try have tx_37 : x_37.toInt = y3_1.toInt + 1 := by rw [ex_37]; exact gz_addP (x := y3_1.toInt) (y := 1) rfl (by decide) (by omega) (by omega)
                    refine lv_iinc (v := (x_37)) (lv' := [(4, .int x_37), (6, .int r_21), (5, .int r_6), (3, .int y3_0), (0, .ref (ad 38 0)), (1, .int x), (2, .int y)]) hx hb dX6_search_185 hl (k := 2) rfl (by rw [ex_37]; rfl) (by decide) rfl (fun ls hl => ?_)
                    refine lv_goto (tgt := 17) hx hb dX6_search_188 (by decide) ?_
                    exact ih_3 st_36 (y3_0 : Int32) (x_37 : Int32) H _ ls (by omega) hB_st_36 (by omega) (by omega) (by omega) (tdX.trans (tdX.trans (tdX.trans hv3_3 (tdX.upk est_12 (by decide))) hw_13_0) hw_36_0) hM hS (lv_sub hl [0, 3, 4, 5, 6] rfl)
              · have ic_10 := gz_eqn (rfl : r_6.toInt = r_6.toInt) (by decide : (9 : Int32).toInt = 9) c_10
                refine lv_iconst (v := 0) hx hb dX6_search_89 (by decide) ?_
                refine lv_goto (tgt := 94) hx hb dX6_search_90 (by decide) ?_
                refine lv_iadd hx hb dX6_search_94 ?_
                refine lv_topi (fun x_38 ex_38 => ?_)
                try have tx_38 : x_38.toInt = (sv3 38 0 10).toInt + 0 := by rw [ex_38]; exact gz_addP (x := (sv3 38 0 10).toInt) (y := 0) rfl (by decide) (by omega) (by omega)
                refine gs_put (C := RX6) (T := TX6) (N := 15) (ty := .int) (val := .int x_38) hx hb hts inX6 tyX6 tyX6_ok nmX6 hown hK hI hm hM hS 38 0 10 (by decide) rfl rfl (by decide) (hts _ gm_253) (fun _ h9 => h9) rfl (x_38 : Int32) rfl (by decide +kernel) rfl rfl (Nat.le_of_ble_eq_true rfl) dX6_search_95 (fun st_39 H locs est_39 hM hS => ?_)
                have hB_st_39 : gBN bX kX [1300, 1400, 1500, 3810, 3811, 3813, 3814, 4100, 4300, 4500, 4600, 4700] st st_39 := by rw [est_39]; exact hB_sv3.up (show (3810 : Nat) ∈ _ from by decide) (gi_lo _) (gi_hi _)
                refine lv_aload_n hx hb dX6_search_98 rfl (lv_at hl 3 rfl) ?_
                refine lv_iload_n hx hb dX6_search_99 rfl (lv_at hl 2 rfl) ?_
                refine lv_iload hx hb dX6_search_100 (lv_at hl 0 rfl) ?_
                refine gs_callv (va_runV (As := [.int y3_0, .int r_6]) (rest := []) ⟨hx, hb, hml, hown, hts⟩ (s_X6_perform l G cy sK sV ad H.size st_39 hB_st_39.1 y3_0 r_6 y3_0.toInt r_6.toInt rfl rfl (by first | decide | omega) (by first | decide | omega) (by first | decide | omega)) ⟨(gz_cb (n := 2) hts gm_878 gm_11 gm_881 ⟨by decide +kernel, by decide +kernel, by decide +kernel⟩ ⟨Nat.le_of_ble_eq_true rfl, Nat.le_of_ble_eq_true rfl⟩), hts _ gm_880, hts _ gs_28⟩ (gs_preV hK hov hE hI hM hm hS hA 38 0 (by decide) rfl rfl) rfl rfl hl.1 rfl (lv_room (Nat.le_of_ble_eq_true rfl)) dX6_search_102 ⟨Nat.le_of_ble_eq_true rfl, Nat.le_of_ble_eq_true rfl⟩) hm hS hA (fun st_40 H locs hw_40 hM hS => ?_)
                obtain ⟨n_40, hw_40⟩ := hw_40
                have hB_st_40 : gBN bX kX [1300, 1400, 1500, 3810, 3811, 3813, 3814, 4100, 4300, 4500, 4600, 4700] st st_40 := hB_st_39.call n_40 (by decide)
                have hw_40_0 := hw_40
                refine lv_iload_n hx hb dX6_search_105 rfl (lv_at hl 2 rfl) ?_
                refine lv_iconst (v := 4) hx hb dX6_search_106 (by decide) ?_
                refine lv_irem hx hb dX6_search_107 (by decide) ?_
                refine lv_topi (fun x_41 ex_41 => ?_)
                try have tx_41 := gs_rem (y := 4) (by decide) (show 0 ≤ y3_0.toInt from by omega) (by omega) ex_41
                refine lv_iconst (v := 3) hx hb dX6_search_108 (by decide) ?_
                refine lv_icmp_ne (tgt := 169) hx hb dX6_search_109 (by decide) (fun c_42 => ?_) (fun c_42 => ?_)
                · have ic_42 := gz_ne (rfl : x_41.toInt = x_41.toInt) (by decide : (3 : Int32).toInt = 3) c_42
                  obtain ⟨x_43, ex_43⟩ : ∃ y : Int32, y = y3_0 + 1 := ⟨_, rfl⟩
                  try have tx_43 : x_43.toInt = y3_0.toInt + 1 := by rw [ex_43]; exact gz_addP (x := y3_0.toInt) (y := 1) rfl (by decide) (by omega) (by omega)
                  refine lv_iinc (v := (x_43)) (lv' := [(3, .int x_43), (5, .int r_6), (4, .int y3_1), (0, .ref (ad 38 0)), (1, .int x), (2, .int y)]) hx hb dX6_search_169 hl (k := 2) rfl (by rw [ex_43]; rfl) (by decide) rfl (fun ls hl => ?_)
                  refine lv_iload_n hx hb dX6_search_172 rfl (lv_at hl 0 rfl) ?_
                  refine lv_bipush (v := 56) hx hb dX6_search_173 (by decide) ?_
                  refine lv_icmp_ge (tgt := 185) hx hb dX6_search_175 (by decide) (fun c_44 => ?_) (fun c_44 => ?_)
                  · have ic_44 := gz_le (by decide : (56 : Int32).toInt = 56) (rfl : x_43.toInt = x_43.toInt) c_44
                    obtain ⟨x_45, ex_45⟩ : ∃ y : Int32, y = y3_1 + 1 := ⟨_, rfl⟩
                    try have tx_45 : x_45.toInt = y3_1.toInt + 1 := by rw [ex_45]; exact gz_addP (x := y3_1.toInt) (y := 1) rfl (by decide) (by omega) (by omega)
                    refine lv_iinc (v := (x_45)) (lv' := [(4, .int x_45), (3, .int x_43), (5, .int r_6), (0, .ref (ad 38 0)), (1, .int x), (2, .int y)]) hx hb dX6_search_185 hl (k := 2) rfl (by rw [ex_45]; rfl) (by decide) rfl (fun ls hl => ?_)
                    refine lv_goto (tgt := 17) hx hb dX6_search_188 (by decide) ?_
                    exact ih_3 st_40 (x_43 : Int32) (x_45 : Int32) H _ ls (by omega) hB_st_40 (by omega) (by omega) (by omega) (tdX.trans (tdX.trans hv3_3 (tdX.upk est_39 (by decide))) hw_40_0) hM hS (lv_sub hl [0, 1, 3, 4, 5] rfl)
                  · have ic_44 := gz_nle (by decide : (56 : Int32).toInt = 56) (rfl : x_43.toInt = x_43.toInt) c_44
                    refine lv_aload_n hx hb dX6_search_178 rfl (lv_at hl 3 rfl) ?_
                    refine gs_get (C := RX6) (T := TX6) (N := 15) hx hb hts inX6 hown hK hM 38 0 9 (by decide) rfl rfl (by decide) (hts _ gm_252) (fun _ h9 => h9) rfl dX6_search_179 ?_
                    refine lv_iload_n hx hb dX6_search_182 rfl (lv_at hl 0 rfl) ?_
                    refine lv_iconst (v := (-1)) hx hb dX6_search_183 (by decide) ?_
                    refine gs_iast hx hb hK hI hm hM hS 46 0 (by decide) (fun _ => rfl) (vp_in_iff.mpr ⟨by omega, by omega⟩) dX6_search_184 (fun st_46 H locs est_46 hM hS => ?_)
                    have hB_st_46 : gBN bX kX [1300, 1400, 1500, 3810, 3811, 3813, 3814, 4100, 4300, 4500, 4600, 4700] st st_46 := by rw [est_46]; exact hB_st_40.up (show (4600 : Nat) ∈ _ from by decide) (show (-1 : Int) ≤ (((-1) : Int32)).toInt from by decide) (show (((-1) : Int32)).toInt ≤ (9 : Int) from by decide)
                    obtain ⟨x_47, ex_47⟩ : ∃ y : Int32, y = y3_1 + 1 := ⟨_, rfl⟩
                    try have tx_47 : x_47.toInt = y3_1.toInt + 1 := by rw [ex_47]; exact gz_addP (x := y3_1.toInt) (y := 1) rfl (by decide) (by omega) (by omega)
                    refine lv_iinc (v := (x_47)) (lv' := [(4, .int x_47), (3, .int x_43), (5, .int r_6), (0, .ref (ad 38 0)), (1, .int x), (2, .int y)]) hx hb dX6_search_185 hl (k := 2) rfl (by rw [ex_47]; rfl) (by decide) rfl (fun ls hl => ?_)
                    refine lv_goto (tgt := 17) hx hb dX6_search_188 (by decide) ?_
                    exact ih_3 st_46 (x_43 : Int32) (x_47 : Int32) H _ ls (by omega) hB_st_46 (by omega) (by omega) (by omega) (tdX.trans (tdX.trans (tdX.trans hv3_3 (tdX.upk est_39 (by decide))) hw_40_0) (tdX.upk est_46 (by decide))) hM hS (lv_sub hl [0, 1, 3, 4, 5] rfl)
                · have ic_42 := gz_eqn (rfl : x_41.toInt = x_41.toInt) (by decide : (3 : Int32).toInt = 3) c_42
                  refine lv_iload_n hx hb dX6_search_112 rfl (lv_at hl 2 rfl) ?_
                  refine gs_calli (va_runS (As := [.int y3_0]) (rest := []) ⟨hx, hb, hml, hown, hts⟩ (s_X6_rowOf l G cy sK sV ad H.size st_40 hB_st_40.1 y3_0 y3_0.toInt rfl (by first | decide | omega) (by first | decide | omega)) ⟨(gz_cb (n := 1) hts gm_865 gm_11 gm_867 ⟨by decide +kernel, by decide +kernel, by decide +kernel⟩ ⟨Nat.le_of_ble_eq_true rfl, Nat.le_of_ble_eq_true rfl⟩), hts _ gm_866⟩ (gs_preS hK hov hE hI hM hm hS hA) rfl rfl hl.1 rfl (lv_room (Nat.le_of_ble_eq_true rfl)) dX6_search_113 ⟨Nat.le_of_ble_eq_true rfl, Nat.le_of_ble_eq_true rfl⟩) hm hS hA (fun r_48 st_48 H locs hw_48 hM hS => ?_)
                  obtain ⟨n_48, hw_48⟩ := hw_48
                  have n_48 := gBN.nil n_48
                  subst n_48
                  obtain ⟨hw_48_0, hw_48_1, hw_48_2, hw_48_3⟩ := hw_48
                  refine lv_istore (lv' := [(6, .int r_48), (5, .int r_6), (4, .int y3_1), (3, .int y3_0), (0, .ref (ad 38 0)), (1, .int x), (2, .int y)]) hx hb dX6_search_116 hl (by decide) rfl (fun ls hl => ?_)
                  refine lv_aload_n hx hb dX6_search_118 rfl (lv_at hl 4 rfl) ?_
                  refine lv_iload hx hb dX6_search_119 (lv_at hl 0 rfl) ?_
                  refine gs_calli (va_runV (As := [.int r_48]) (rest := []) ⟨hx, hb, hml, hown, hts⟩ (s_X6_isGood l G cy sK sV ad H.size st_40 hB_st_40.1 r_48 r_48.toInt rfl (by first | decide | omega) (by first | decide | omega)) ⟨(gz_cb (n := 1) hts gm_882 gm_11 gm_885 ⟨by decide +kernel, by decide +kernel, by decide +kernel⟩ ⟨Nat.le_of_ble_eq_true rfl, Nat.le_of_ble_eq_true rfl⟩), hts _ gm_884, hts _ gs_29⟩ (gs_preV hK hov hE hI hM hm hS hA 38 0 (by decide) rfl rfl) rfl rfl hl.1 rfl (lv_room (Nat.le_of_ble_eq_true rfl)) dX6_search_121 ⟨Nat.le_of_ble_eq_true rfl, Nat.le_of_ble_eq_true rfl⟩) hm hS hA (fun r_49 st_49 H locs hw_49 hM hS => ?_)
                  obtain ⟨n_49, hw_49⟩ := hw_49
                  have n_49 := gBN.nil n_49
                  subst n_49
                  rcases hw_49 with rfl | rfl
                  · skip
                    refine lv_if_ne (tgt := 135) hx hb dX6_search_124 (by decide) (fun _ => ?_) (fun h9 => absurd h9 (by decide))
                    refine lv_aload_n hx hb dX6_search_135 rfl (lv_at hl 4 rfl) ?_
                    refine lv_aload_n hx hb dX6_search_136 rfl (lv_at hl 4 rfl) ?_
                    refine gs_get (C := RX6) (T := TX6) (N := 15) hx hb hts inX6 hown hK hM 38 0 11 (by decide) rfl rfl (by decide) (hts _ gm_255) (fun _ h9 => h9) rfl dX6_search_137 ?_
                    refine lv_topi (fun x_50 ex_50 => ?_)
                    have ex_50 : (sv3 38 0 11) = x_50 := Eq.symm (ex_50.trans ((n_40.2 38 0 11 (show (3811 : Nat) ∉ _ from by decide)).trans ((congrFun (congrFun (congrFun est_39 38) 0) 11).trans (gU_other (by decide)))))
                    subst ex_50
                    refine lv_iload hx hb dX6_search_140 (lv_at hl 0 rfl) ?_
                    refine va_mmax hx hb (hml.trans hl.1.symm) hown (hts _ gm_886) (hts _ gm_537) (hts _ gm_17) (hts _ gm_538) (Nat.le_of_ble_eq_true rfl) (Nat.le_of_ble_eq_true rfl) (Nat.le_of_ble_eq_true rfl) (Nat.le_of_ble_eq_true rfl) dX6_search_142 ?_
                    refine lv_topi (fun x_52 ex_52 => ?_)
                    have tx_52 := gs_max ex_52
                    refine gs_put (C := RX6) (T := TX6) (N := 15) (ty := .int) (val := .int x_52) hx hb hts inX6 tyX6 tyX6_ok nmX6 hown hK hI hm hM hS 38 0 11 (by decide) rfl rfl (by decide) (hts _ gm_255) (fun _ h9 => h9) rfl (x_52 : Int32) rfl (by decide +kernel) rfl rfl (Nat.le_of_ble_eq_true rfl) dX6_search_145 (fun st_53 H locs est_53 hM hS => ?_)
                    have hB_st_53 : gBN bX kX [1300, 1400, 1500, 3810, 3811, 3813, 3814, 4100, 4300, 4500, 4600, 4700] st st_53 := by rw [est_53]; exact hB_st_40.up (show (3811 : Nat) ∈ _ from by decide) (gi_lo _) (gi_hi _)
                    refine lv_iload hx hb dX6_search_148 (lv_at hl 0 rfl) ?_
                    refine lv_iload_n hx hb dX6_search_150 rfl (lv_at hl 5 rfl) ?_
                    refine lv_icmp_lt (tgt := 161) hx hb dX6_search_151 (by decide) (fun c_54 => ?_) (fun c_54 => ?_)
                    · have ic_54 := gz_lt (rfl : r_48.toInt = r_48.toInt) (rfl : x.toInt = x.toInt) c_54
                      have lc_54 := gi_hi x
                      refine lv_aload_n hx hb dX6_search_161 rfl (lv_at hl 4 rfl) ?_
                      refine lv_iload hx hb dX6_search_162 (lv_at hl 0 rfl) ?_
                      refine lv_iconst (v := 1) hx hb dX6_search_164 (by decide) ?_
                      refine lv_iadd hx hb dX6_search_165 ?_
                      refine lv_topi (fun x_55 ex_55 => ?_)
                      try have tx_55 : x_55.toInt = r_48.toInt + 1 := by rw [ex_55]; exact gz_addP (x := r_48.toInt) (y := 1) rfl (by decide) (by omega) (by omega)
                      refine gs_callv (va_runV (As := [.int x_55]) (rest := []) ⟨hx, hb, hml, hown, hts⟩ (s_X6_openDay l G cy sK sV ad H.size st_53 hB_st_53.1 x_55 x_55.toInt rfl (by have hq0 : (st_53 38 0 4).toInt = ((st 38 0 4) : Int32).toInt := congrArg Int32.toInt ((((congrFun (congrFun (congrFun est_53 38) 0) 4).trans (gU_other (by decide))).trans ((n_40.2 38 0 4 (show (3804 : Nat) ∉ _ from by decide)).trans (((congrFun (congrFun (congrFun est_39 38) 0) 4).trans (gU_other (by decide))).trans (hB_sv3.2 38 0 4 (show (3804 : Nat) ∉ _ from by decide)))))); have hb1 : (0 : Int) ≤ (st_53 38 0 4).toInt ∧ (st_53 38 0 4).toInt ≤ (199 : Int) := hB_st_53.1 38 0 4; omega) rs (show LXa rs st_53 (st_53 38 0 3).toNatClampNeg from (by rw [show st_53 38 0 3 = st 38 0 3 from (((congrFun (congrFun (congrFun est_53 38) 0) 3).trans (gU_other (by decide))).trans ((n_40.2 38 0 3 (show (3803 : Nat) ∉ _ from by decide)).trans (((congrFun (congrFun (congrFun est_39 38) 0) 3).trans (gU_other (by decide))).trans (hB_sv3.2 38 0 3 (show (3803 : Nat) ∉ _ from by decide)))))]; exact (LXa.upk (LXa.keep (LXa.upk (LXa.keep hLp hB_sv3.2 (by decide)) est_39 (by decide)) n_40.2 (by decide)) est_53 (by decide)))) hwf) ⟨(gz_cb (n := 1) hts gm_854 gm_11 gm_857 ⟨by decide +kernel, by decide +kernel, by decide +kernel⟩ ⟨Nat.le_of_ble_eq_true rfl, Nat.le_of_ble_eq_true rfl⟩), hts _ gm_856, hts _ gs_24⟩ (gs_preV hK hov hE hI hM hm hS hA 38 0 (by decide) rfl rfl) rfl rfl hl.1 rfl (lv_room (Nat.le_of_ble_eq_true rfl)) dX6_search_166 ⟨Nat.le_of_ble_eq_true rfl, Nat.le_of_ble_eq_true rfl⟩) hm hS hA (fun st_56 H locs hw_56 hM hS => ?_)
                      obtain ⟨n_56, hw_56⟩ := hw_56
                      have hB_st_56 : gBN bX kX [1300, 1400, 1500, 3810, 3811, 3813, 3814, 4100, 4300, 4500, 4600, 4700] st st_56 := hB_st_53.call n_56 (by decide)
                      have hw_56_0 := hw_56
                      obtain ⟨x_57, ex_57⟩ : ∃ y : Int32, y = y3_0 + 1 := ⟨_, rfl⟩
                      try have tx_57 : x_57.toInt = y3_0.toInt + 1 := by rw [ex_57]; exact gz_addP (x := y3_0.toInt) (y := 1) rfl (by decide) (by omega) (by omega)
                      refine lv_iinc (v := (x_57)) (lv' := [(3, .int x_57), (6, .int r_48), (5, .int r_6), (4, .int y3_1), (0, .ref (ad 38 0)), (1, .int x), (2, .int y)]) hx hb dX6_search_169 hl (k := 3) rfl (by rw [ex_57]; rfl) (by decide) rfl (fun ls hl => ?_)
                      refine lv_iload_n hx hb dX6_search_172 rfl (lv_at hl 0 rfl) ?_
                      refine lv_bipush (v := 56) hx hb dX6_search_173 (by decide) ?_
                      refine lv_icmp_ge (tgt := 185) hx hb dX6_search_175 (by decide) (fun c_58 => ?_) (fun c_58 => ?_)
                      · have ic_58 := gz_le (by decide : (56 : Int32).toInt = 56) (rfl : x_57.toInt = x_57.toInt) c_58
                        obtain ⟨x_59, ex_59⟩ : ∃ y : Int32, y = y3_1 + 1 := ⟨_, rfl⟩
                        try have tx_59 : x_59.toInt = y3_1.toInt + 1 := by rw [ex_59]; exact gz_addP (x := y3_1.toInt) (y := 1) rfl (by decide) (by omega) (by omega)
                        refine lv_iinc (v := (x_59)) (lv' := [(4, .int x_59), (3, .int x_57), (6, .int r_48), (5, .int r_6), (0, .ref (ad 38 0)), (1, .int x), (2, .int y)]) hx hb dX6_search_185 hl (k := 3) rfl (by rw [ex_59]; rfl) (by decide) rfl (fun ls hl => ?_)
                        refine lv_goto (tgt := 17) hx hb dX6_search_188 (by decide) ?_
                        exact ih_3 st_56 (x_57 : Int32) (x_59 : Int32) H _ ls (by omega) hB_st_56 (by omega) (by omega) (by omega) (tdX.trans (tdX.trans (tdX.trans (tdX.trans hv3_3 (tdX.upk est_39 (by decide))) hw_40_0) (tdX.upk est_53 (by decide))) hw_56_0) hM hS (lv_sub hl [0, 1, 4, 5, 6] rfl)
                      · have ic_58 := gz_nle (by decide : (56 : Int32).toInt = 56) (rfl : x_57.toInt = x_57.toInt) c_58
                        refine lv_aload_n hx hb dX6_search_178 rfl (lv_at hl 4 rfl) ?_
                        refine gs_get (C := RX6) (T := TX6) (N := 15) hx hb hts inX6 hown hK hM 38 0 9 (by decide) rfl rfl (by decide) (hts _ gm_252) (fun _ h9 => h9) rfl dX6_search_179 ?_
                        refine lv_iload_n hx hb dX6_search_182 rfl (lv_at hl 0 rfl) ?_
                        refine lv_iconst (v := (-1)) hx hb dX6_search_183 (by decide) ?_
                        refine gs_iast hx hb hK hI hm hM hS 46 0 (by decide) (fun _ => rfl) (vp_in_iff.mpr ⟨by omega, by omega⟩) dX6_search_184 (fun st_60 H locs est_60 hM hS => ?_)
                        have hB_st_60 : gBN bX kX [1300, 1400, 1500, 3810, 3811, 3813, 3814, 4100, 4300, 4500, 4600, 4700] st st_60 := by rw [est_60]; exact hB_st_56.up (show (4600 : Nat) ∈ _ from by decide) (show (-1 : Int) ≤ (((-1) : Int32)).toInt from by decide) (show (((-1) : Int32)).toInt ≤ (9 : Int) from by decide)
                        obtain ⟨x_61, ex_61⟩ : ∃ y : Int32, y = y3_1 + 1 := ⟨_, rfl⟩
                        try have tx_61 : x_61.toInt = y3_1.toInt + 1 := by rw [ex_61]; exact gz_addP (x := y3_1.toInt) (y := 1) rfl (by decide) (by omega) (by omega)
                        refine lv_iinc (v := (x_61)) (lv' := [(4, .int x_61), (3, .int x_57), (6, .int r_48), (5, .int r_6), (0, .ref (ad 38 0)), (1, .int x), (2, .int y)]) hx hb dX6_search_185 hl (k := 3) rfl (by rw [ex_61]; rfl) (by decide) rfl (fun ls hl => ?_)
                        refine lv_goto (tgt := 17) hx hb dX6_search_188 (by decide) ?_
                        exact ih_3 st_60 (x_57 : Int32) (x_61 : Int32) H _ ls (by omega) hB_st_60 (by omega) (by omega) (by omega) (tdX.trans (tdX.trans (tdX.trans (tdX.trans (tdX.trans hv3_3 (tdX.upk est_39 (by decide))) hw_40_0) (tdX.upk est_53 (by decide))) hw_56_0) (tdX.upk est_60 (by decide))) hM hS (lv_sub hl [0, 1, 4, 5, 6] rfl)
                    · have ic_54 := gz_nlt (rfl : r_48.toInt = r_48.toInt) (rfl : x.toInt = x.toInt) c_54
                      refine lv_aload_n hx hb dX6_search_154 rfl (lv_at hl 4 rfl) ?_
                      refine lv_iload_n hx hb dX6_search_155 rfl (lv_at hl 5 rfl) ?_
                      refine gs_callv (va_runV (As := [.int x]) (rest := []) ⟨hx, hb, hml, hown, hts⟩ (s_X6_keepFound l G cy sK sV ad H.size st_53 hB_st_53.1 x x.toInt rfl (by first | decide | omega) (by first | decide | omega)) ⟨(gz_cb (n := 1) hts gm_887 gm_11 gm_890 ⟨by decide +kernel, by decide +kernel, by decide +kernel⟩ ⟨Nat.le_of_ble_eq_true rfl, Nat.le_of_ble_eq_true rfl⟩), hts _ gm_889, hts _ gs_30⟩ (gs_preV hK hov hE hI hM hm hS hA 38 0 (by decide) rfl rfl) rfl rfl hl.1 rfl (lv_room (Nat.le_of_ble_eq_true rfl)) dX6_search_156 ⟨Nat.le_of_ble_eq_true rfl, Nat.le_of_ble_eq_true rfl⟩) hm hS hA (fun st_62 H locs hw_62 hM hS => ?_)
                      obtain ⟨n_62, hw_62⟩ := hw_62
                      have hB_st_62 : gBN bX kX [1300, 1400, 1500, 3810, 3811, 3813, 3814, 4100, 4300, 4500, 4600, 4700] st st_62 := hB_st_53.call n_62 (by decide)
                      refine lv_iconst (v := 0) hx hb dX6_search_159 (by decide) ?_
                      rw [← hQe]
                      exact gs_iret hx hb hr hlocks hM hS rfl ⟨hB_st_62, (tdX.trans (tdX.trans (tdX.trans (tdX.trans hv3_3 (tdX.upk est_39 (by decide))) hw_40_0) (tdX.upk est_53 (by decide))) (tdX.frame n_62.2 (by decide)))⟩ (by exact Nat.le_refl _) (by exact Nat.le_refl _) dX6_search_160
                  · skip
                    refine lv_if_ne (tgt := 135) hx hb dX6_search_124 (by decide) (fun h9 => absurd (by decide) h9) (fun _ => ?_)
                    refine lv_aload_n hx hb dX6_search_127 rfl (lv_at hl 4 rfl) ?_
                    refine lv_iload_n hx hb dX6_search_128 rfl (lv_at hl 3 rfl) ?_
                    refine gs_callv (va_runV (As := [.int y3_0]) (rest := []) ⟨hx, hb, hml, hown, hts⟩ (s_X6_undo l G cy sK sV ad H.size st_40 hB_st_40.1 y3_0 y3_0.toInt rfl (by first | decide | omega) (by first | decide | omega)) ⟨(gz_cb (n := 1) hts gm_874 gm_11 gm_877 ⟨by decide +kernel, by decide +kernel, by decide +kernel⟩ ⟨Nat.le_of_ble_eq_true rfl, Nat.le_of_ble_eq_true rfl⟩), hts _ gm_876, hts _ gs_27⟩ (gs_preV hK hov hE hI hM hm hS hA 38 0 (by decide) rfl rfl) rfl rfl hl.1 rfl (lv_room (Nat.le_of_ble_eq_true rfl)) dX6_search_129 ⟨Nat.le_of_ble_eq_true rfl, Nat.le_of_ble_eq_true rfl⟩) hm hS hA (fun st_63 H locs hw_63 hM hS => ?_)
                    obtain ⟨n_63, hw_63⟩ := hw_63
                    have hB_st_63 : gBN bX kX [1300, 1400, 1500, 3810, 3811, 3813, 3814, 4100, 4300, 4500, 4600, 4700] st st_63 := hB_st_40.call n_63 (by decide)
                    have hw_63_0 := hw_63
                    refine lv_goto (tgt := 185) hx hb dX6_search_132 (by decide) ?_
                    obtain ⟨x_64, ex_64⟩ : ∃ y : Int32, y = y3_1 + 1 := ⟨_, rfl⟩
                    try have tx_64 : x_64.toInt = y3_1.toInt + 1 := by rw [ex_64]; exact gz_addP (x := y3_1.toInt) (y := 1) rfl (by decide) (by omega) (by omega)
                    refine lv_iinc (v := (x_64)) (lv' := [(4, .int x_64), (6, .int r_48), (5, .int r_6), (3, .int y3_0), (0, .ref (ad 38 0)), (1, .int x), (2, .int y)]) hx hb dX6_search_185 hl (k := 2) rfl (by rw [ex_64]; rfl) (by decide) rfl (fun ls hl => ?_)
                    refine lv_goto (tgt := 17) hx hb dX6_search_188 (by decide) ?_
                    exact ih_3 st_63 (y3_0 : Int32) (x_64 : Int32) H _ ls (by omega) hB_st_63 (by omega) (by omega) (by omega) (tdX.trans (tdX.trans (tdX.trans hv3_3 (tdX.upk est_39 (by decide))) hw_40_0) hw_63_0) hM hS (lv_sub hl [0, 3, 4, 5, 6] rfl)
            · have ic_8 := gz_ne (rfl : r_6.toInt = r_6.toInt) (by decide : (9 : Int32).toInt = 9) c_8
              refine lv_aload_n hx hb dX6_search_67 rfl (lv_at hl 3 rfl) ?_
              refine gs_get (C := RX6) (T := TX6) (N := 15) hx hb hts inX6 hown hK hM 38 0 10 (by decide) rfl rfl (by decide) (hts _ gm_253) (fun _ h9 => h9) rfl dX6_search_68 ?_
              refine lv_iload_n hx hb dX6_search_71 rfl (lv_at hl 5 rfl) ?_
              refine lv_icmp_ne (tgt := 77) hx hb dX6_search_72 (by decide) (fun c_66 => ?_) (fun c_66 => ?_)
              · have ic_66 := gz_ne (rfl : (sv3 38 0 10).toInt = (sv3 38 0 10).toInt) (rfl : y.toInt = y.toInt) c_66
                refine lv_aload_n hx hb dX6_search_77 rfl (lv_at hl 3 rfl) ?_
                refine lv_dup hx hb dX6_search_78 rfl ?_
                refine gs_get (C := RX6) (T := TX6) (N := 15) hx hb hts inX6 hown hK hM 38 0 10 (by decide) rfl rfl (by decide) (hts _ gm_253) (fun _ h9 => h9) rfl dX6_search_79 ?_
                refine lv_iload hx hb dX6_search_82 (lv_at hl 0 rfl) ?_
                refine lv_bipush (v := 9) hx hb dX6_search_84 (by decide) ?_
                refine lv_icmp_ne (tgt := 93) hx hb dX6_search_86 (by decide) (fun c_68 => ?_) (fun c_68 => ?_)
                · have ic_68 := gz_ne (rfl : r_6.toInt = r_6.toInt) (by decide : (9 : Int32).toInt = 9) c_68
                  refine lv_iconst (v := 1) hx hb dX6_search_93 (by decide) ?_
                  refine lv_iadd hx hb dX6_search_94 ?_
                  refine lv_topi (fun x_69 ex_69 => ?_)
                  try have tx_69 : x_69.toInt = (sv3 38 0 10).toInt + 1 := by rw [ex_69]; exact gz_addP (x := (sv3 38 0 10).toInt) (y := 1) rfl (by decide) (by omega) (by omega)
                  refine gs_put (C := RX6) (T := TX6) (N := 15) (ty := .int) (val := .int x_69) hx hb hts inX6 tyX6 tyX6_ok nmX6 hown hK hI hm hM hS 38 0 10 (by decide) rfl rfl (by decide) (hts _ gm_253) (fun _ h9 => h9) rfl (x_69 : Int32) rfl (by decide +kernel) rfl rfl (Nat.le_of_ble_eq_true rfl) dX6_search_95 (fun st_70 H locs est_70 hM hS => ?_)
                  have hB_st_70 : gBN bX kX [1300, 1400, 1500, 3810, 3811, 3813, 3814, 4100, 4300, 4500, 4600, 4700] st st_70 := by rw [est_70]; exact hB_sv3.up (show (3810 : Nat) ∈ _ from by decide) (gi_lo _) (gi_hi _)
                  refine lv_aload_n hx hb dX6_search_98 rfl (lv_at hl 3 rfl) ?_
                  refine lv_iload_n hx hb dX6_search_99 rfl (lv_at hl 2 rfl) ?_
                  refine lv_iload hx hb dX6_search_100 (lv_at hl 0 rfl) ?_
                  refine gs_callv (va_runV (As := [.int y3_0, .int r_6]) (rest := []) ⟨hx, hb, hml, hown, hts⟩ (s_X6_perform l G cy sK sV ad H.size st_70 hB_st_70.1 y3_0 r_6 y3_0.toInt r_6.toInt rfl rfl (by first | decide | omega) (by first | decide | omega) (by first | decide | omega)) ⟨(gz_cb (n := 2) hts gm_878 gm_11 gm_881 ⟨by decide +kernel, by decide +kernel, by decide +kernel⟩ ⟨Nat.le_of_ble_eq_true rfl, Nat.le_of_ble_eq_true rfl⟩), hts _ gm_880, hts _ gs_28⟩ (gs_preV hK hov hE hI hM hm hS hA 38 0 (by decide) rfl rfl) rfl rfl hl.1 rfl (lv_room (Nat.le_of_ble_eq_true rfl)) dX6_search_102 ⟨Nat.le_of_ble_eq_true rfl, Nat.le_of_ble_eq_true rfl⟩) hm hS hA (fun st_71 H locs hw_71 hM hS => ?_)
                  obtain ⟨n_71, hw_71⟩ := hw_71
                  have hB_st_71 : gBN bX kX [1300, 1400, 1500, 3810, 3811, 3813, 3814, 4100, 4300, 4500, 4600, 4700] st st_71 := hB_st_70.call n_71 (by decide)
                  have hw_71_0 := hw_71
                  refine lv_iload_n hx hb dX6_search_105 rfl (lv_at hl 2 rfl) ?_
                  refine lv_iconst (v := 4) hx hb dX6_search_106 (by decide) ?_
                  refine lv_irem hx hb dX6_search_107 (by decide) ?_
                  refine lv_topi (fun x_72 ex_72 => ?_)
                  try have tx_72 := gs_rem (y := 4) (by decide) (show 0 ≤ y3_0.toInt from by omega) (by omega) ex_72
                  refine lv_iconst (v := 3) hx hb dX6_search_108 (by decide) ?_
                  refine lv_icmp_ne (tgt := 169) hx hb dX6_search_109 (by decide) (fun c_73 => ?_) (fun c_73 => ?_)
                  · have ic_73 := gz_ne (rfl : x_72.toInt = x_72.toInt) (by decide : (3 : Int32).toInt = 3) c_73
                    obtain ⟨x_74, ex_74⟩ : ∃ y : Int32, y = y3_0 + 1 := ⟨_, rfl⟩
                    try have tx_74 : x_74.toInt = y3_0.toInt + 1 := by rw [ex_74]; exact gz_addP (x := y3_0.toInt) (y := 1) rfl (by decide) (by omega) (by omega)
                    refine lv_iinc (v := (x_74)) (lv' := [(3, .int x_74), (5, .int r_6), (4, .int y3_1), (0, .ref (ad 38 0)), (1, .int x), (2, .int y)]) hx hb dX6_search_169 hl (k := 2) rfl (by rw [ex_74]; rfl) (by decide) rfl (fun ls hl => ?_)
                    refine lv_iload_n hx hb dX6_search_172 rfl (lv_at hl 0 rfl) ?_
                    refine lv_bipush (v := 56) hx hb dX6_search_173 (by decide) ?_
                    refine lv_icmp_ge (tgt := 185) hx hb dX6_search_175 (by decide) (fun c_75 => ?_) (fun c_75 => ?_)
                    · have ic_75 := gz_le (by decide : (56 : Int32).toInt = 56) (rfl : x_74.toInt = x_74.toInt) c_75
                      obtain ⟨x_76, ex_76⟩ : ∃ y : Int32, y = y3_1 + 1 := ⟨_, rfl⟩
                      try have tx_76 : x_76.toInt = y3_1.toInt + 1 := by rw [ex_76]; exact gz_addP (x := y3_1.toInt) (y := 1) rfl (by decide) (by omega) (by omega)
                      refine lv_iinc (v := (x_76)) (lv' := [(4, .int x_76), (3, .int x_74), (5, .int r_6), (0, .ref (ad 38 0)), (1, .int x), (2, .int y)]) hx hb dX6_search_185 hl (k := 2) rfl (by rw [ex_76]; rfl) (by decide) rfl (fun ls hl => ?_)
                      refine lv_goto (tgt := 17) hx hb dX6_search_188 (by decide) ?_
                      exact ih_3 st_71 (x_74 : Int32) (x_76 : Int32) H _ ls (by omega) hB_st_71 (by omega) (by omega) (by omega) (tdX.trans (tdX.trans hv3_3 (tdX.upk est_70 (by decide))) hw_71_0) hM hS (lv_sub hl [0, 1, 3, 4, 5] rfl)
                    · have ic_75 := gz_nle (by decide : (56 : Int32).toInt = 56) (rfl : x_74.toInt = x_74.toInt) c_75
                      refine lv_aload_n hx hb dX6_search_178 rfl (lv_at hl 3 rfl) ?_
                      refine gs_get (C := RX6) (T := TX6) (N := 15) hx hb hts inX6 hown hK hM 38 0 9 (by decide) rfl rfl (by decide) (hts _ gm_252) (fun _ h9 => h9) rfl dX6_search_179 ?_
                      refine lv_iload_n hx hb dX6_search_182 rfl (lv_at hl 0 rfl) ?_
                      refine lv_iconst (v := (-1)) hx hb dX6_search_183 (by decide) ?_
                      refine gs_iast hx hb hK hI hm hM hS 46 0 (by decide) (fun _ => rfl) (vp_in_iff.mpr ⟨by omega, by omega⟩) dX6_search_184 (fun st_77 H locs est_77 hM hS => ?_)
                      have hB_st_77 : gBN bX kX [1300, 1400, 1500, 3810, 3811, 3813, 3814, 4100, 4300, 4500, 4600, 4700] st st_77 := by rw [est_77]; exact hB_st_71.up (show (4600 : Nat) ∈ _ from by decide) (show (-1 : Int) ≤ (((-1) : Int32)).toInt from by decide) (show (((-1) : Int32)).toInt ≤ (9 : Int) from by decide)
                      obtain ⟨x_78, ex_78⟩ : ∃ y : Int32, y = y3_1 + 1 := ⟨_, rfl⟩
                      try have tx_78 : x_78.toInt = y3_1.toInt + 1 := by rw [ex_78]; exact gz_addP (x := y3_1.toInt) (y := 1) rfl (by decide) (by omega) (by omega)
                      refine lv_iinc (v := (x_78)) (lv' := [(4, .int x_78), (3, .int x_74), (5, .int r_6), (0, .ref (ad 38 0)), (1, .int x), (2, .int y)]) hx hb dX6_search_185 hl (k := 2) rfl (by rw [ex_78]; rfl) (by decide) rfl (fun ls hl => ?_)
                      refine lv_goto (tgt := 17) hx hb dX6_search_188 (by decide) ?_
                      exact ih_3 st_77 (x_74 : Int32) (x_78 : Int32) H _ ls (by omega) hB_st_77 (by omega) (by omega) (by omega) (tdX.trans (tdX.trans (tdX.trans hv3_3 (tdX.upk est_70 (by decide))) hw_71_0) (tdX.upk est_77 (by decide))) hM hS (lv_sub hl [0, 1, 3, 4, 5] rfl)
                  · have ic_73 := gz_eqn (rfl : x_72.toInt = x_72.toInt) (by decide : (3 : Int32).toInt = 3) c_73
                    refine lv_iload_n hx hb dX6_search_112 rfl (lv_at hl 2 rfl) ?_
                    refine gs_calli (va_runS (As := [.int y3_0]) (rest := []) ⟨hx, hb, hml, hown, hts⟩ (s_X6_rowOf l G cy sK sV ad H.size st_71 hB_st_71.1 y3_0 y3_0.toInt rfl (by first | decide | omega) (by first | decide | omega)) ⟨(gz_cb (n := 1) hts gm_865 gm_11 gm_867 ⟨by decide +kernel, by decide +kernel, by decide +kernel⟩ ⟨Nat.le_of_ble_eq_true rfl, Nat.le_of_ble_eq_true rfl⟩), hts _ gm_866⟩ (gs_preS hK hov hE hI hM hm hS hA) rfl rfl hl.1 rfl (lv_room (Nat.le_of_ble_eq_true rfl)) dX6_search_113 ⟨Nat.le_of_ble_eq_true rfl, Nat.le_of_ble_eq_true rfl⟩) hm hS hA (fun r_79 st_79 H locs hw_79 hM hS => ?_)
                    obtain ⟨n_79, hw_79⟩ := hw_79
                    have n_79 := gBN.nil n_79
                    subst n_79
                    obtain ⟨hw_79_0, hw_79_1, hw_79_2, hw_79_3⟩ := hw_79
                    refine lv_istore (lv' := [(6, .int r_79), (5, .int r_6), (4, .int y3_1), (3, .int y3_0), (0, .ref (ad 38 0)), (1, .int x), (2, .int y)]) hx hb dX6_search_116 hl (by decide) rfl (fun ls hl => ?_)
                    refine lv_aload_n hx hb dX6_search_118 rfl (lv_at hl 4 rfl) ?_
                    refine lv_iload hx hb dX6_search_119 (lv_at hl 0 rfl) ?_
                    refine gs_calli (va_runV (As := [.int r_79]) (rest := []) ⟨hx, hb, hml, hown, hts⟩ (s_X6_isGood l G cy sK sV ad H.size st_71 hB_st_71.1 r_79 r_79.toInt rfl (by first | decide | omega) (by first | decide | omega)) ⟨(gz_cb (n := 1) hts gm_882 gm_11 gm_885 ⟨by decide +kernel, by decide +kernel, by decide +kernel⟩ ⟨Nat.le_of_ble_eq_true rfl, Nat.le_of_ble_eq_true rfl⟩), hts _ gm_884, hts _ gs_29⟩ (gs_preV hK hov hE hI hM hm hS hA 38 0 (by decide) rfl rfl) rfl rfl hl.1 rfl (lv_room (Nat.le_of_ble_eq_true rfl)) dX6_search_121 ⟨Nat.le_of_ble_eq_true rfl, Nat.le_of_ble_eq_true rfl⟩) hm hS hA (fun r_80 st_80 H locs hw_80 hM hS => ?_)
                    obtain ⟨n_80, hw_80⟩ := hw_80
                    have n_80 := gBN.nil n_80
                    subst n_80
                    rcases hw_80 with rfl | rfl
                    · skip
                      refine lv_if_ne (tgt := 135) hx hb dX6_search_124 (by decide) (fun _ => ?_) (fun h9 => absurd h9 (by decide))
                      refine lv_aload_n hx hb dX6_search_135 rfl (lv_at hl 4 rfl) ?_
                      refine lv_aload_n hx hb dX6_search_136 rfl (lv_at hl 4 rfl) ?_
                      refine gs_get (C := RX6) (T := TX6) (N := 15) hx hb hts inX6 hown hK hM 38 0 11 (by decide) rfl rfl (by decide) (hts _ gm_255) (fun _ h9 => h9) rfl dX6_search_137 ?_
                      refine lv_topi (fun x_81 ex_81 => ?_)
                      have ex_81 : (sv3 38 0 11) = x_81 := Eq.symm (ex_81.trans ((n_71.2 38 0 11 (show (3811 : Nat) ∉ _ from by decide)).trans ((congrFun (congrFun (congrFun est_70 38) 0) 11).trans (gU_other (by decide)))))
                      subst ex_81
                      refine lv_iload hx hb dX6_search_140 (lv_at hl 0 rfl) ?_
                      refine va_mmax hx hb (hml.trans hl.1.symm) hown (hts _ gm_886) (hts _ gm_537) (hts _ gm_17) (hts _ gm_538) (Nat.le_of_ble_eq_true rfl) (Nat.le_of_ble_eq_true rfl) (Nat.le_of_ble_eq_true rfl) (Nat.le_of_ble_eq_true rfl) dX6_search_142 ?_
                      refine lv_topi (fun x_83 ex_83 => ?_)
                      have tx_83 := gs_max ex_83
                      refine gs_put (C := RX6) (T := TX6) (N := 15) (ty := .int) (val := .int x_83) hx hb hts inX6 tyX6 tyX6_ok nmX6 hown hK hI hm hM hS 38 0 11 (by decide) rfl rfl (by decide) (hts _ gm_255) (fun _ h9 => h9) rfl (x_83 : Int32) rfl (by decide +kernel) rfl rfl (Nat.le_of_ble_eq_true rfl) dX6_search_145 (fun st_84 H locs est_84 hM hS => ?_)
                      have hB_st_84 : gBN bX kX [1300, 1400, 1500, 3810, 3811, 3813, 3814, 4100, 4300, 4500, 4600, 4700] st st_84 := by rw [est_84]; exact hB_st_71.up (show (3811 : Nat) ∈ _ from by decide) (gi_lo _) (gi_hi _)
                      refine lv_iload hx hb dX6_search_148 (lv_at hl 0 rfl) ?_
                      refine lv_iload_n hx hb dX6_search_150 rfl (lv_at hl 5 rfl) ?_
                      refine lv_icmp_lt (tgt := 161) hx hb dX6_search_151 (by decide) (fun c_85 => ?_) (fun c_85 => ?_)
                      · have ic_85 := gz_lt (rfl : r_79.toInt = r_79.toInt) (rfl : x.toInt = x.toInt) c_85
                        have lc_85 := gi_hi x
                        refine lv_aload_n hx hb dX6_search_161 rfl (lv_at hl 4 rfl) ?_
                        refine lv_iload hx hb dX6_search_162 (lv_at hl 0 rfl) ?_
                        refine lv_iconst (v := 1) hx hb dX6_search_164 (by decide) ?_
                        refine lv_iadd hx hb dX6_search_165 ?_
                        refine lv_topi (fun x_86 ex_86 => ?_)
                        try have tx_86 : x_86.toInt = r_79.toInt + 1 := by rw [ex_86]; exact gz_addP (x := r_79.toInt) (y := 1) rfl (by decide) (by omega) (by omega)
                        refine gs_callv (va_runV (As := [.int x_86]) (rest := []) ⟨hx, hb, hml, hown, hts⟩ (s_X6_openDay l G cy sK sV ad H.size st_84 hB_st_84.1 x_86 x_86.toInt rfl (by have hq0 : (st_84 38 0 4).toInt = ((st 38 0 4) : Int32).toInt := congrArg Int32.toInt ((((congrFun (congrFun (congrFun est_84 38) 0) 4).trans (gU_other (by decide))).trans ((n_71.2 38 0 4 (show (3804 : Nat) ∉ _ from by decide)).trans (((congrFun (congrFun (congrFun est_70 38) 0) 4).trans (gU_other (by decide))).trans (hB_sv3.2 38 0 4 (show (3804 : Nat) ∉ _ from by decide)))))); have hb1 : (0 : Int) ≤ (st_84 38 0 4).toInt ∧ (st_84 38 0 4).toInt ≤ (199 : Int) := hB_st_84.1 38 0 4; omega) rs (show LXa rs st_84 (st_84 38 0 3).toNatClampNeg from (by rw [show st_84 38 0 3 = st 38 0 3 from (((congrFun (congrFun (congrFun est_84 38) 0) 3).trans (gU_other (by decide))).trans ((n_71.2 38 0 3 (show (3803 : Nat) ∉ _ from by decide)).trans (((congrFun (congrFun (congrFun est_70 38) 0) 3).trans (gU_other (by decide))).trans (hB_sv3.2 38 0 3 (show (3803 : Nat) ∉ _ from by decide)))))]; exact (LXa.upk (LXa.keep (LXa.upk (LXa.keep hLp hB_sv3.2 (by decide)) est_70 (by decide)) n_71.2 (by decide)) est_84 (by decide)))) hwf) ⟨(gz_cb (n := 1) hts gm_854 gm_11 gm_857 ⟨by decide +kernel, by decide +kernel, by decide +kernel⟩ ⟨Nat.le_of_ble_eq_true rfl, Nat.le_of_ble_eq_true rfl⟩), hts _ gm_856, hts _ gs_24⟩ (gs_preV hK hov hE hI hM hm hS hA 38 0 (by decide) rfl rfl) rfl rfl hl.1 rfl (lv_room (Nat.le_of_ble_eq_true rfl)) dX6_search_166 ⟨Nat.le_of_ble_eq_true rfl, Nat.le_of_ble_eq_true rfl⟩) hm hS hA (fun st_87 H locs hw_87 hM hS => ?_)
                        obtain ⟨n_87, hw_87⟩ := hw_87
                        have hB_st_87 : gBN bX kX [1300, 1400, 1500, 3810, 3811, 3813, 3814, 4100, 4300, 4500, 4600, 4700] st st_87 := hB_st_84.call n_87 (by decide)
                        have hw_87_0 := hw_87
                        obtain ⟨x_88, ex_88⟩ : ∃ y : Int32, y = y3_0 + 1 := ⟨_, rfl⟩
                        try have tx_88 : x_88.toInt = y3_0.toInt + 1 := by rw [ex_88]; exact gz_addP (x := y3_0.toInt) (y := 1) rfl (by decide) (by omega) (by omega)
                        refine lv_iinc (v := (x_88)) (lv' := [(3, .int x_88), (6, .int r_79), (5, .int r_6), (4, .int y3_1), (0, .ref (ad 38 0)), (1, .int x), (2, .int y)]) hx hb dX6_search_169 hl (k := 3) rfl (by rw [ex_88]; rfl) (by decide) rfl (fun ls hl => ?_)
                        refine lv_iload_n hx hb dX6_search_172 rfl (lv_at hl 0 rfl) ?_
                        refine lv_bipush (v := 56) hx hb dX6_search_173 (by decide) ?_
                        refine lv_icmp_ge (tgt := 185) hx hb dX6_search_175 (by decide) (fun c_89 => ?_) (fun c_89 => ?_)
                        · have ic_89 := gz_le (by decide : (56 : Int32).toInt = 56) (rfl : x_88.toInt = x_88.toInt) c_89
                          obtain ⟨x_90, ex_90⟩ : ∃ y : Int32, y = y3_1 + 1 := ⟨_, rfl⟩
                          try have tx_90 : x_90.toInt = y3_1.toInt + 1 := by rw [ex_90]; exact gz_addP (x := y3_1.toInt) (y := 1) rfl (by decide) (by omega) (by omega)
                          refine lv_iinc (v := (x_90)) (lv' := [(4, .int x_90), (3, .int x_88), (6, .int r_79), (5, .int r_6), (0, .ref (ad 38 0)), (1, .int x), (2, .int y)]) hx hb dX6_search_185 hl (k := 3) rfl (by rw [ex_90]; rfl) (by decide) rfl (fun ls hl => ?_)
                          refine lv_goto (tgt := 17) hx hb dX6_search_188 (by decide) ?_
                          exact ih_3 st_87 (x_88 : Int32) (x_90 : Int32) H _ ls (by omega) hB_st_87 (by omega) (by omega) (by omega) (tdX.trans (tdX.trans (tdX.trans (tdX.trans hv3_3 (tdX.upk est_70 (by decide))) hw_71_0) (tdX.upk est_84 (by decide))) hw_87_0) hM hS (lv_sub hl [0, 1, 4, 5, 6] rfl)
                        · have ic_89 := gz_nle (by decide : (56 : Int32).toInt = 56) (rfl : x_88.toInt = x_88.toInt) c_89
                          refine lv_aload_n hx hb dX6_search_178 rfl (lv_at hl 4 rfl) ?_
                          refine gs_get (C := RX6) (T := TX6) (N := 15) hx hb hts inX6 hown hK hM 38 0 9 (by decide) rfl rfl (by decide) (hts _ gm_252) (fun _ h9 => h9) rfl dX6_search_179 ?_
                          refine lv_iload_n hx hb dX6_search_182 rfl (lv_at hl 0 rfl) ?_
                          refine lv_iconst (v := (-1)) hx hb dX6_search_183 (by decide) ?_
                          refine gs_iast hx hb hK hI hm hM hS 46 0 (by decide) (fun _ => rfl) (vp_in_iff.mpr ⟨by omega, by omega⟩) dX6_search_184 (fun st_91 H locs est_91 hM hS => ?_)
                          have hB_st_91 : gBN bX kX [1300, 1400, 1500, 3810, 3811, 3813, 3814, 4100, 4300, 4500, 4600, 4700] st st_91 := by rw [est_91]; exact hB_st_87.up (show (4600 : Nat) ∈ _ from by decide) (show (-1 : Int) ≤ (((-1) : Int32)).toInt from by decide) (show (((-1) : Int32)).toInt ≤ (9 : Int) from by decide)
                          obtain ⟨x_92, ex_92⟩ : ∃ y : Int32, y = y3_1 + 1 := ⟨_, rfl⟩
                          try have tx_92 : x_92.toInt = y3_1.toInt + 1 := by rw [ex_92]; exact gz_addP (x := y3_1.toInt) (y := 1) rfl (by decide) (by omega) (by omega)
                          refine lv_iinc (v := (x_92)) (lv' := [(4, .int x_92), (3, .int x_88), (6, .int r_79), (5, .int r_6), (0, .ref (ad 38 0)), (1, .int x), (2, .int y)]) hx hb dX6_search_185 hl (k := 3) rfl (by rw [ex_92]; rfl) (by decide) rfl (fun ls hl => ?_)
                          refine lv_goto (tgt := 17) hx hb dX6_search_188 (by decide) ?_
                          exact ih_3 st_91 (x_88 : Int32) (x_92 : Int32) H _ ls (by omega) hB_st_91 (by omega) (by omega) (by omega) (tdX.trans (tdX.trans (tdX.trans (tdX.trans (tdX.trans hv3_3 (tdX.upk est_70 (by decide))) hw_71_0) (tdX.upk est_84 (by decide))) hw_87_0) (tdX.upk est_91 (by decide))) hM hS (lv_sub hl [0, 1, 4, 5, 6] rfl)
                      · have ic_85 := gz_nlt (rfl : r_79.toInt = r_79.toInt) (rfl : x.toInt = x.toInt) c_85
                        refine lv_aload_n hx hb dX6_search_154 rfl (lv_at hl 4 rfl) ?_
                        refine lv_iload_n hx hb dX6_search_155 rfl (lv_at hl 5 rfl) ?_
                        refine gs_callv (va_runV (As := [.int x]) (rest := []) ⟨hx, hb, hml, hown, hts⟩ (s_X6_keepFound l G cy sK sV ad H.size st_84 hB_st_84.1 x x.toInt rfl (by first | decide | omega) (by first | decide | omega)) ⟨(gz_cb (n := 1) hts gm_887 gm_11 gm_890 ⟨by decide +kernel, by decide +kernel, by decide +kernel⟩ ⟨Nat.le_of_ble_eq_true rfl, Nat.le_of_ble_eq_true rfl⟩), hts _ gm_889, hts _ gs_30⟩ (gs_preV hK hov hE hI hM hm hS hA 38 0 (by decide) rfl rfl) rfl rfl hl.1 rfl (lv_room (Nat.le_of_ble_eq_true rfl)) dX6_search_156 ⟨Nat.le_of_ble_eq_true rfl, Nat.le_of_ble_eq_true rfl⟩) hm hS hA (fun st_93 H locs hw_93 hM hS => ?_)
                        obtain ⟨n_93, hw_93⟩ := hw_93
                        have hB_st_93 : gBN bX kX [1300, 1400, 1500, 3810, 3811, 3813, 3814, 4100, 4300, 4500, 4600, 4700] st st_93 := hB_st_84.call n_93 (by decide)
                        refine lv_iconst (v := 0) hx hb dX6_search_159 (by decide) ?_
                        rw [← hQe]
                        exact gs_iret hx hb hr hlocks hM hS rfl ⟨hB_st_93, (tdX.trans (tdX.trans (tdX.trans (tdX.trans hv3_3 (tdX.upk est_70 (by decide))) hw_71_0) (tdX.upk est_84 (by decide))) (tdX.frame n_93.2 (by decide)))⟩ (by exact Nat.le_refl _) (by exact Nat.le_refl _) dX6_search_160
                    · skip
                      refine lv_if_ne (tgt := 135) hx hb dX6_search_124 (by decide) (fun h9 => absurd (by decide) h9) (fun _ => ?_)
                      refine lv_aload_n hx hb dX6_search_127 rfl (lv_at hl 4 rfl) ?_
                      refine lv_iload_n hx hb dX6_search_128 rfl (lv_at hl 3 rfl) ?_
                      refine gs_callv (va_runV (As := [.int y3_0]) (rest := []) ⟨hx, hb, hml, hown, hts⟩ (s_X6_undo l G cy sK sV ad H.size st_71 hB_st_71.1 y3_0 y3_0.toInt rfl (by first | decide | omega) (by first | decide | omega)) ⟨(gz_cb (n := 1) hts gm_874 gm_11 gm_877 ⟨by decide +kernel, by decide +kernel, by decide +kernel⟩ ⟨Nat.le_of_ble_eq_true rfl, Nat.le_of_ble_eq_true rfl⟩), hts _ gm_876, hts _ gs_27⟩ (gs_preV hK hov hE hI hM hm hS hA 38 0 (by decide) rfl rfl) rfl rfl hl.1 rfl (lv_room (Nat.le_of_ble_eq_true rfl)) dX6_search_129 ⟨Nat.le_of_ble_eq_true rfl, Nat.le_of_ble_eq_true rfl⟩) hm hS hA (fun st_94 H locs hw_94 hM hS => ?_)
                      obtain ⟨n_94, hw_94⟩ := hw_94
                      have hB_st_94 : gBN bX kX [1300, 1400, 1500, 3810, 3811, 3813, 3814, 4100, 4300, 4500, 4600, 4700] st st_94 := hB_st_71.call n_94 (by decide)
                      have hw_94_0 := hw_94
                      refine lv_goto (tgt := 185) hx hb dX6_search_132 (by decide) ?_
                      obtain ⟨x_95, ex_95⟩ : ∃ y : Int32, y = y3_1 + 1 := ⟨_, rfl⟩
                      try have tx_95 : x_95.toInt = y3_1.toInt + 1 := by rw [ex_95]; exact gz_addP (x := y3_1.toInt) (y := 1) rfl (by decide) (by omega) (by omega)
                      refine lv_iinc (v := (x_95)) (lv' := [(4, .int x_95), (6, .int r_79), (5, .int r_6), (3, .int y3_0), (0, .ref (ad 38 0)), (1, .int x), (2, .int y)]) hx hb dX6_search_185 hl (k := 2) rfl (by rw [ex_95]; rfl) (by decide) rfl (fun ls hl => ?_)
                      refine lv_goto (tgt := 17) hx hb dX6_search_188 (by decide) ?_
                      exact ih_3 st_94 (y3_0 : Int32) (x_95 : Int32) H _ ls (by omega) hB_st_94 (by omega) (by omega) (by omega) (tdX.trans (tdX.trans (tdX.trans hv3_3 (tdX.upk est_70 (by decide))) hw_71_0) hw_94_0) hM hS (lv_sub hl [0, 3, 4, 5, 6] rfl)
                · have ic_68 := gz_eqn (rfl : r_6.toInt = r_6.toInt) (by decide : (9 : Int32).toInt = 9) c_68
                  refine lv_iconst (v := 0) hx hb dX6_search_89 (by decide) ?_
                  refine lv_goto (tgt := 94) hx hb dX6_search_90 (by decide) ?_
                  refine lv_iadd hx hb dX6_search_94 ?_
                  refine lv_topi (fun x_96 ex_96 => ?_)
                  try have tx_96 : x_96.toInt = (sv3 38 0 10).toInt + 0 := by rw [ex_96]; exact gz_addP (x := (sv3 38 0 10).toInt) (y := 0) rfl (by decide) (by omega) (by omega)
                  refine gs_put (C := RX6) (T := TX6) (N := 15) (ty := .int) (val := .int x_96) hx hb hts inX6 tyX6 tyX6_ok nmX6 hown hK hI hm hM hS 38 0 10 (by decide) rfl rfl (by decide) (hts _ gm_253) (fun _ h9 => h9) rfl (x_96 : Int32) rfl (by decide +kernel) rfl rfl (Nat.le_of_ble_eq_true rfl) dX6_search_95 (fun st_97 H locs est_97 hM hS => ?_)
                  have hB_st_97 : gBN bX kX [1300, 1400, 1500, 3810, 3811, 3813, 3814, 4100, 4300, 4500, 4600, 4700] st st_97 := by rw [est_97]; exact hB_sv3.up (show (3810 : Nat) ∈ _ from by decide) (gi_lo _) (gi_hi _)
                  refine lv_aload_n hx hb dX6_search_98 rfl (lv_at hl 3 rfl) ?_
                  refine lv_iload_n hx hb dX6_search_99 rfl (lv_at hl 2 rfl) ?_
                  refine lv_iload hx hb dX6_search_100 (lv_at hl 0 rfl) ?_
                  refine gs_callv (va_runV (As := [.int y3_0, .int r_6]) (rest := []) ⟨hx, hb, hml, hown, hts⟩ (s_X6_perform l G cy sK sV ad H.size st_97 hB_st_97.1 y3_0 r_6 y3_0.toInt r_6.toInt rfl rfl (by first | decide | omega) (by first | decide | omega) (by first | decide | omega)) ⟨(gz_cb (n := 2) hts gm_878 gm_11 gm_881 ⟨by decide +kernel, by decide +kernel, by decide +kernel⟩ ⟨Nat.le_of_ble_eq_true rfl, Nat.le_of_ble_eq_true rfl⟩), hts _ gm_880, hts _ gs_28⟩ (gs_preV hK hov hE hI hM hm hS hA 38 0 (by decide) rfl rfl) rfl rfl hl.1 rfl (lv_room (Nat.le_of_ble_eq_true rfl)) dX6_search_102 ⟨Nat.le_of_ble_eq_true rfl, Nat.le_of_ble_eq_true rfl⟩) hm hS hA (fun st_98 H locs hw_98 hM hS => ?_)
                  obtain ⟨n_98, hw_98⟩ := hw_98
                  have hB_st_98 : gBN bX kX [1300, 1400, 1500, 3810, 3811, 3813, 3814, 4100, 4300, 4500, 4600, 4700] st st_98 := hB_st_97.call n_98 (by decide)
                  have hw_98_0 := hw_98
                  refine lv_iload_n hx hb dX6_search_105 rfl (lv_at hl 2 rfl) ?_
                  refine lv_iconst (v := 4) hx hb dX6_search_106 (by decide) ?_
                  refine lv_irem hx hb dX6_search_107 (by decide) ?_
                  refine lv_topi (fun x_99 ex_99 => ?_)
                  try have tx_99 := gs_rem (y := 4) (by decide) (show 0 ≤ y3_0.toInt from by omega) (by omega) ex_99
                  refine lv_iconst (v := 3) hx hb dX6_search_108 (by decide) ?_
                  refine lv_icmp_ne (tgt := 169) hx hb dX6_search_109 (by decide) (fun c_100 => ?_) (fun c_100 => ?_)
                  · have ic_100 := gz_ne (rfl : x_99.toInt = x_99.toInt) (by decide : (3 : Int32).toInt = 3) c_100
                    obtain ⟨x_101, ex_101⟩ : ∃ y : Int32, y = y3_0 + 1 := ⟨_, rfl⟩
                    try have tx_101 : x_101.toInt = y3_0.toInt + 1 := by rw [ex_101]; exact gz_addP (x := y3_0.toInt) (y := 1) rfl (by decide) (by omega) (by omega)
                    refine lv_iinc (v := (x_101)) (lv' := [(3, .int x_101), (5, .int r_6), (4, .int y3_1), (0, .ref (ad 38 0)), (1, .int x), (2, .int y)]) hx hb dX6_search_169 hl (k := 2) rfl (by rw [ex_101]; rfl) (by decide) rfl (fun ls hl => ?_)
                    refine lv_iload_n hx hb dX6_search_172 rfl (lv_at hl 0 rfl) ?_
                    refine lv_bipush (v := 56) hx hb dX6_search_173 (by decide) ?_
                    refine lv_icmp_ge (tgt := 185) hx hb dX6_search_175 (by decide) (fun c_102 => ?_) (fun c_102 => ?_)
                    · have ic_102 := gz_le (by decide : (56 : Int32).toInt = 56) (rfl : x_101.toInt = x_101.toInt) c_102
                      obtain ⟨x_103, ex_103⟩ : ∃ y : Int32, y = y3_1 + 1 := ⟨_, rfl⟩
                      try have tx_103 : x_103.toInt = y3_1.toInt + 1 := by rw [ex_103]; exact gz_addP (x := y3_1.toInt) (y := 1) rfl (by decide) (by omega) (by omega)
                      refine lv_iinc (v := (x_103)) (lv' := [(4, .int x_103), (3, .int x_101), (5, .int r_6), (0, .ref (ad 38 0)), (1, .int x), (2, .int y)]) hx hb dX6_search_185 hl (k := 2) rfl (by rw [ex_103]; rfl) (by decide) rfl (fun ls hl => ?_)
                      refine lv_goto (tgt := 17) hx hb dX6_search_188 (by decide) ?_
                      exact ih_3 st_98 (x_101 : Int32) (x_103 : Int32) H _ ls (by omega) hB_st_98 (by omega) (by omega) (by omega) (tdX.trans (tdX.trans hv3_3 (tdX.upk est_97 (by decide))) hw_98_0) hM hS (lv_sub hl [0, 1, 3, 4, 5] rfl)
                    · have ic_102 := gz_nle (by decide : (56 : Int32).toInt = 56) (rfl : x_101.toInt = x_101.toInt) c_102
                      refine lv_aload_n hx hb dX6_search_178 rfl (lv_at hl 3 rfl) ?_
                      refine gs_get (C := RX6) (T := TX6) (N := 15) hx hb hts inX6 hown hK hM 38 0 9 (by decide) rfl rfl (by decide) (hts _ gm_252) (fun _ h9 => h9) rfl dX6_search_179 ?_
                      refine lv_iload_n hx hb dX6_search_182 rfl (lv_at hl 0 rfl) ?_
                      refine lv_iconst (v := (-1)) hx hb dX6_search_183 (by decide) ?_
                      refine gs_iast hx hb hK hI hm hM hS 46 0 (by decide) (fun _ => rfl) (vp_in_iff.mpr ⟨by omega, by omega⟩) dX6_search_184 (fun st_104 H locs est_104 hM hS => ?_)
                      have hB_st_104 : gBN bX kX [1300, 1400, 1500, 3810, 3811, 3813, 3814, 4100, 4300, 4500, 4600, 4700] st st_104 := by rw [est_104]; exact hB_st_98.up (show (4600 : Nat) ∈ _ from by decide) (show (-1 : Int) ≤ (((-1) : Int32)).toInt from by decide) (show (((-1) : Int32)).toInt ≤ (9 : Int) from by decide)
                      obtain ⟨x_105, ex_105⟩ : ∃ y : Int32, y = y3_1 + 1 := ⟨_, rfl⟩
                      try have tx_105 : x_105.toInt = y3_1.toInt + 1 := by rw [ex_105]; exact gz_addP (x := y3_1.toInt) (y := 1) rfl (by decide) (by omega) (by omega)
                      refine lv_iinc (v := (x_105)) (lv' := [(4, .int x_105), (3, .int x_101), (5, .int r_6), (0, .ref (ad 38 0)), (1, .int x), (2, .int y)]) hx hb dX6_search_185 hl (k := 2) rfl (by rw [ex_105]; rfl) (by decide) rfl (fun ls hl => ?_)
                      refine lv_goto (tgt := 17) hx hb dX6_search_188 (by decide) ?_
                      exact ih_3 st_104 (x_101 : Int32) (x_105 : Int32) H _ ls (by omega) hB_st_104 (by omega) (by omega) (by omega) (tdX.trans (tdX.trans (tdX.trans hv3_3 (tdX.upk est_97 (by decide))) hw_98_0) (tdX.upk est_104 (by decide))) hM hS (lv_sub hl [0, 1, 3, 4, 5] rfl)
                  · have ic_100 := gz_eqn (rfl : x_99.toInt = x_99.toInt) (by decide : (3 : Int32).toInt = 3) c_100
                    refine lv_iload_n hx hb dX6_search_112 rfl (lv_at hl 2 rfl) ?_
                    refine gs_calli (va_runS (As := [.int y3_0]) (rest := []) ⟨hx, hb, hml, hown, hts⟩ (s_X6_rowOf l G cy sK sV ad H.size st_98 hB_st_98.1 y3_0 y3_0.toInt rfl (by first | decide | omega) (by first | decide | omega)) ⟨(gz_cb (n := 1) hts gm_865 gm_11 gm_867 ⟨by decide +kernel, by decide +kernel, by decide +kernel⟩ ⟨Nat.le_of_ble_eq_true rfl, Nat.le_of_ble_eq_true rfl⟩), hts _ gm_866⟩ (gs_preS hK hov hE hI hM hm hS hA) rfl rfl hl.1 rfl (lv_room (Nat.le_of_ble_eq_true rfl)) dX6_search_113 ⟨Nat.le_of_ble_eq_true rfl, Nat.le_of_ble_eq_true rfl⟩) hm hS hA (fun r_106 st_106 H locs hw_106 hM hS => ?_)
                    obtain ⟨n_106, hw_106⟩ := hw_106
                    have n_106 := gBN.nil n_106
                    subst n_106
                    obtain ⟨hw_106_0, hw_106_1, hw_106_2, hw_106_3⟩ := hw_106
                    refine lv_istore (lv' := [(6, .int r_106), (5, .int r_6), (4, .int y3_1), (3, .int y3_0), (0, .ref (ad 38 0)), (1, .int x), (2, .int y)]) hx hb dX6_search_116 hl (by decide) rfl (fun ls hl => ?_)
                    refine lv_aload_n hx hb dX6_search_118 rfl (lv_at hl 4 rfl) ?_
                    refine lv_iload hx hb dX6_search_119 (lv_at hl 0 rfl) ?_
                    refine gs_calli (va_runV (As := [.int r_106]) (rest := []) ⟨hx, hb, hml, hown, hts⟩ (s_X6_isGood l G cy sK sV ad H.size st_98 hB_st_98.1 r_106 r_106.toInt rfl (by first | decide | omega) (by first | decide | omega)) ⟨(gz_cb (n := 1) hts gm_882 gm_11 gm_885 ⟨by decide +kernel, by decide +kernel, by decide +kernel⟩ ⟨Nat.le_of_ble_eq_true rfl, Nat.le_of_ble_eq_true rfl⟩), hts _ gm_884, hts _ gs_29⟩ (gs_preV hK hov hE hI hM hm hS hA 38 0 (by decide) rfl rfl) rfl rfl hl.1 rfl (lv_room (Nat.le_of_ble_eq_true rfl)) dX6_search_121 ⟨Nat.le_of_ble_eq_true rfl, Nat.le_of_ble_eq_true rfl⟩) hm hS hA (fun r_107 st_107 H locs hw_107 hM hS => ?_)
                    obtain ⟨n_107, hw_107⟩ := hw_107
                    have n_107 := gBN.nil n_107
                    subst n_107
                    rcases hw_107 with rfl | rfl
                    · skip
                      refine lv_if_ne (tgt := 135) hx hb dX6_search_124 (by decide) (fun _ => ?_) (fun h9 => absurd h9 (by decide))
                      refine lv_aload_n hx hb dX6_search_135 rfl (lv_at hl 4 rfl) ?_
                      refine lv_aload_n hx hb dX6_search_136 rfl (lv_at hl 4 rfl) ?_
                      refine gs_get (C := RX6) (T := TX6) (N := 15) hx hb hts inX6 hown hK hM 38 0 11 (by decide) rfl rfl (by decide) (hts _ gm_255) (fun _ h9 => h9) rfl dX6_search_137 ?_
                      refine lv_topi (fun x_108 ex_108 => ?_)
                      have ex_108 : (sv3 38 0 11) = x_108 := Eq.symm (ex_108.trans ((n_98.2 38 0 11 (show (3811 : Nat) ∉ _ from by decide)).trans ((congrFun (congrFun (congrFun est_97 38) 0) 11).trans (gU_other (by decide)))))
                      subst ex_108
                      refine lv_iload hx hb dX6_search_140 (lv_at hl 0 rfl) ?_
                      refine va_mmax hx hb (hml.trans hl.1.symm) hown (hts _ gm_886) (hts _ gm_537) (hts _ gm_17) (hts _ gm_538) (Nat.le_of_ble_eq_true rfl) (Nat.le_of_ble_eq_true rfl) (Nat.le_of_ble_eq_true rfl) (Nat.le_of_ble_eq_true rfl) dX6_search_142 ?_
                      refine lv_topi (fun x_110 ex_110 => ?_)
                      have tx_110 := gs_max ex_110
                      refine gs_put (C := RX6) (T := TX6) (N := 15) (ty := .int) (val := .int x_110) hx hb hts inX6 tyX6 tyX6_ok nmX6 hown hK hI hm hM hS 38 0 11 (by decide) rfl rfl (by decide) (hts _ gm_255) (fun _ h9 => h9) rfl (x_110 : Int32) rfl (by decide +kernel) rfl rfl (Nat.le_of_ble_eq_true rfl) dX6_search_145 (fun st_111 H locs est_111 hM hS => ?_)
                      have hB_st_111 : gBN bX kX [1300, 1400, 1500, 3810, 3811, 3813, 3814, 4100, 4300, 4500, 4600, 4700] st st_111 := by rw [est_111]; exact hB_st_98.up (show (3811 : Nat) ∈ _ from by decide) (gi_lo _) (gi_hi _)
                      refine lv_iload hx hb dX6_search_148 (lv_at hl 0 rfl) ?_
                      refine lv_iload_n hx hb dX6_search_150 rfl (lv_at hl 5 rfl) ?_
                      refine lv_icmp_lt (tgt := 161) hx hb dX6_search_151 (by decide) (fun c_112 => ?_) (fun c_112 => ?_)
                      · have ic_112 := gz_lt (rfl : r_106.toInt = r_106.toInt) (rfl : x.toInt = x.toInt) c_112
                        have lc_112 := gi_hi x
                        refine lv_aload_n hx hb dX6_search_161 rfl (lv_at hl 4 rfl) ?_
                        refine lv_iload hx hb dX6_search_162 (lv_at hl 0 rfl) ?_
                        refine lv_iconst (v := 1) hx hb dX6_search_164 (by decide) ?_
                        refine lv_iadd hx hb dX6_search_165 ?_
                        refine lv_topi (fun x_113 ex_113 => ?_)
                        try have tx_113 : x_113.toInt = r_106.toInt + 1 := by rw [ex_113]; exact gz_addP (x := r_106.toInt) (y := 1) rfl (by decide) (by omega) (by omega)
                        refine gs_callv (va_runV (As := [.int x_113]) (rest := []) ⟨hx, hb, hml, hown, hts⟩ (s_X6_openDay l G cy sK sV ad H.size st_111 hB_st_111.1 x_113 x_113.toInt rfl (by have hq0 : (st_111 38 0 4).toInt = ((st 38 0 4) : Int32).toInt := congrArg Int32.toInt ((((congrFun (congrFun (congrFun est_111 38) 0) 4).trans (gU_other (by decide))).trans ((n_98.2 38 0 4 (show (3804 : Nat) ∉ _ from by decide)).trans (((congrFun (congrFun (congrFun est_97 38) 0) 4).trans (gU_other (by decide))).trans (hB_sv3.2 38 0 4 (show (3804 : Nat) ∉ _ from by decide)))))); have hb1 : (0 : Int) ≤ (st_111 38 0 4).toInt ∧ (st_111 38 0 4).toInt ≤ (199 : Int) := hB_st_111.1 38 0 4; omega) rs (show LXa rs st_111 (st_111 38 0 3).toNatClampNeg from (by rw [show st_111 38 0 3 = st 38 0 3 from (((congrFun (congrFun (congrFun est_111 38) 0) 3).trans (gU_other (by decide))).trans ((n_98.2 38 0 3 (show (3803 : Nat) ∉ _ from by decide)).trans (((congrFun (congrFun (congrFun est_97 38) 0) 3).trans (gU_other (by decide))).trans (hB_sv3.2 38 0 3 (show (3803 : Nat) ∉ _ from by decide)))))]; exact (LXa.upk (LXa.keep (LXa.upk (LXa.keep hLp hB_sv3.2 (by decide)) est_97 (by decide)) n_98.2 (by decide)) est_111 (by decide)))) hwf) ⟨(gz_cb (n := 1) hts gm_854 gm_11 gm_857 ⟨by decide +kernel, by decide +kernel, by decide +kernel⟩ ⟨Nat.le_of_ble_eq_true rfl, Nat.le_of_ble_eq_true rfl⟩), hts _ gm_856, hts _ gs_24⟩ (gs_preV hK hov hE hI hM hm hS hA 38 0 (by decide) rfl rfl) rfl rfl hl.1 rfl (lv_room (Nat.le_of_ble_eq_true rfl)) dX6_search_166 ⟨Nat.le_of_ble_eq_true rfl, Nat.le_of_ble_eq_true rfl⟩) hm hS hA (fun st_114 H locs hw_114 hM hS => ?_)
                        obtain ⟨n_114, hw_114⟩ := hw_114
                        have hB_st_114 : gBN bX kX [1300, 1400, 1500, 3810, 3811, 3813, 3814, 4100, 4300, 4500, 4600, 4700] st st_114 := hB_st_111.call n_114 (by decide)
                        have hw_114_0 := hw_114
                        obtain ⟨x_115, ex_115⟩ : ∃ y : Int32, y = y3_0 + 1 := ⟨_, rfl⟩
                        try have tx_115 : x_115.toInt = y3_0.toInt + 1 := by rw [ex_115]; exact gz_addP (x := y3_0.toInt) (y := 1) rfl (by decide) (by omega) (by omega)
                        refine lv_iinc (v := (x_115)) (lv' := [(3, .int x_115), (6, .int r_106), (5, .int r_6), (4, .int y3_1), (0, .ref (ad 38 0)), (1, .int x), (2, .int y)]) hx hb dX6_search_169 hl (k := 3) rfl (by rw [ex_115]; rfl) (by decide) rfl (fun ls hl => ?_)
                        refine lv_iload_n hx hb dX6_search_172 rfl (lv_at hl 0 rfl) ?_
                        refine lv_bipush (v := 56) hx hb dX6_search_173 (by decide) ?_
                        refine lv_icmp_ge (tgt := 185) hx hb dX6_search_175 (by decide) (fun c_116 => ?_) (fun c_116 => ?_)
                        · have ic_116 := gz_le (by decide : (56 : Int32).toInt = 56) (rfl : x_115.toInt = x_115.toInt) c_116
                          obtain ⟨x_117, ex_117⟩ : ∃ y : Int32, y = y3_1 + 1 := ⟨_, rfl⟩
                          try have tx_117 : x_117.toInt = y3_1.toInt + 1 := by rw [ex_117]; exact gz_addP (x := y3_1.toInt) (y := 1) rfl (by decide) (by omega) (by omega)
                          refine lv_iinc (v := (x_117)) (lv' := [(4, .int x_117), (3, .int x_115), (6, .int r_106), (5, .int r_6), (0, .ref (ad 38 0)), (1, .int x), (2, .int y)]) hx hb dX6_search_185 hl (k := 3) rfl (by rw [ex_117]; rfl) (by decide) rfl (fun ls hl => ?_)
                          refine lv_goto (tgt := 17) hx hb dX6_search_188 (by decide) ?_
                          exact ih_3 st_114 (x_115 : Int32) (x_117 : Int32) H _ ls (by omega) hB_st_114 (by omega) (by omega) (by omega) (tdX.trans (tdX.trans (tdX.trans (tdX.trans hv3_3 (tdX.upk est_97 (by decide))) hw_98_0) (tdX.upk est_111 (by decide))) hw_114_0) hM hS (lv_sub hl [0, 1, 4, 5, 6] rfl)
                        · have ic_116 := gz_nle (by decide : (56 : Int32).toInt = 56) (rfl : x_115.toInt = x_115.toInt) c_116
                          refine lv_aload_n hx hb dX6_search_178 rfl (lv_at hl 4 rfl) ?_
                          refine gs_get (C := RX6) (T := TX6) (N := 15) hx hb hts inX6 hown hK hM 38 0 9 (by decide) rfl rfl (by decide) (hts _ gm_252) (fun _ h9 => h9) rfl dX6_search_179 ?_
                          refine lv_iload_n hx hb dX6_search_182 rfl (lv_at hl 0 rfl) ?_
                          refine lv_iconst (v := (-1)) hx hb dX6_search_183 (by decide) ?_
                          refine gs_iast hx hb hK hI hm hM hS 46 0 (by decide) (fun _ => rfl) (vp_in_iff.mpr ⟨by omega, by omega⟩) dX6_search_184 (fun st_118 H locs est_118 hM hS => ?_)
                          have hB_st_118 : gBN bX kX [1300, 1400, 1500, 3810, 3811, 3813, 3814, 4100, 4300, 4500, 4600, 4700] st st_118 := by rw [est_118]; exact hB_st_114.up (show (4600 : Nat) ∈ _ from by decide) (show (-1 : Int) ≤ (((-1) : Int32)).toInt from by decide) (show (((-1) : Int32)).toInt ≤ (9 : Int) from by decide)
                          obtain ⟨x_119, ex_119⟩ : ∃ y : Int32, y = y3_1 + 1 := ⟨_, rfl⟩
                          try have tx_119 : x_119.toInt = y3_1.toInt + 1 := by rw [ex_119]; exact gz_addP (x := y3_1.toInt) (y := 1) rfl (by decide) (by omega) (by omega)
                          refine lv_iinc (v := (x_119)) (lv' := [(4, .int x_119), (3, .int x_115), (6, .int r_106), (5, .int r_6), (0, .ref (ad 38 0)), (1, .int x), (2, .int y)]) hx hb dX6_search_185 hl (k := 3) rfl (by rw [ex_119]; rfl) (by decide) rfl (fun ls hl => ?_)
                          refine lv_goto (tgt := 17) hx hb dX6_search_188 (by decide) ?_
                          exact ih_3 st_118 (x_115 : Int32) (x_119 : Int32) H _ ls (by omega) hB_st_118 (by omega) (by omega) (by omega) (tdX.trans (tdX.trans (tdX.trans (tdX.trans (tdX.trans hv3_3 (tdX.upk est_97 (by decide))) hw_98_0) (tdX.upk est_111 (by decide))) hw_114_0) (tdX.upk est_118 (by decide))) hM hS (lv_sub hl [0, 1, 4, 5, 6] rfl)
                      · have ic_112 := gz_nlt (rfl : r_106.toInt = r_106.toInt) (rfl : x.toInt = x.toInt) c_112
                        refine lv_aload_n hx hb dX6_search_154 rfl (lv_at hl 4 rfl) ?_
                        refine lv_iload_n hx hb dX6_search_155 rfl (lv_at hl 5 rfl) ?_
                        refine gs_callv (va_runV (As := [.int x]) (rest := []) ⟨hx, hb, hml, hown, hts⟩ (s_X6_keepFound l G cy sK sV ad H.size st_111 hB_st_111.1 x x.toInt rfl (by first | decide | omega) (by first | decide | omega)) ⟨(gz_cb (n := 1) hts gm_887 gm_11 gm_890 ⟨by decide +kernel, by decide +kernel, by decide +kernel⟩ ⟨Nat.le_of_ble_eq_true rfl, Nat.le_of_ble_eq_true rfl⟩), hts _ gm_889, hts _ gs_30⟩ (gs_preV hK hov hE hI hM hm hS hA 38 0 (by decide) rfl rfl) rfl rfl hl.1 rfl (lv_room (Nat.le_of_ble_eq_true rfl)) dX6_search_156 ⟨Nat.le_of_ble_eq_true rfl, Nat.le_of_ble_eq_true rfl⟩) hm hS hA (fun st_120 H locs hw_120 hM hS => ?_)
                        obtain ⟨n_120, hw_120⟩ := hw_120
                        have hB_st_120 : gBN bX kX [1300, 1400, 1500, 3810, 3811, 3813, 3814, 4100, 4300, 4500, 4600, 4700] st st_120 := hB_st_111.call n_120 (by decide)
                        refine lv_iconst (v := 0) hx hb dX6_search_159 (by decide) ?_
                        rw [← hQe]
                        exact gs_iret hx hb hr hlocks hM hS rfl ⟨hB_st_120, (tdX.trans (tdX.trans (tdX.trans (tdX.trans hv3_3 (tdX.upk est_97 (by decide))) hw_98_0) (tdX.upk est_111 (by decide))) (tdX.frame n_120.2 (by decide)))⟩ (by exact Nat.le_refl _) (by exact Nat.le_refl _) dX6_search_160
                    · skip
                      refine lv_if_ne (tgt := 135) hx hb dX6_search_124 (by decide) (fun h9 => absurd (by decide) h9) (fun _ => ?_)
                      refine lv_aload_n hx hb dX6_search_127 rfl (lv_at hl 4 rfl) ?_
                      refine lv_iload_n hx hb dX6_search_128 rfl (lv_at hl 3 rfl) ?_
                      refine gs_callv (va_runV (As := [.int y3_0]) (rest := []) ⟨hx, hb, hml, hown, hts⟩ (s_X6_undo l G cy sK sV ad H.size st_98 hB_st_98.1 y3_0 y3_0.toInt rfl (by first | decide | omega) (by first | decide | omega)) ⟨(gz_cb (n := 1) hts gm_874 gm_11 gm_877 ⟨by decide +kernel, by decide +kernel, by decide +kernel⟩ ⟨Nat.le_of_ble_eq_true rfl, Nat.le_of_ble_eq_true rfl⟩), hts _ gm_876, hts _ gs_27⟩ (gs_preV hK hov hE hI hM hm hS hA 38 0 (by decide) rfl rfl) rfl rfl hl.1 rfl (lv_room (Nat.le_of_ble_eq_true rfl)) dX6_search_129 ⟨Nat.le_of_ble_eq_true rfl, Nat.le_of_ble_eq_true rfl⟩) hm hS hA (fun st_121 H locs hw_121 hM hS => ?_)
                      obtain ⟨n_121, hw_121⟩ := hw_121
                      have hB_st_121 : gBN bX kX [1300, 1400, 1500, 3810, 3811, 3813, 3814, 4100, 4300, 4500, 4600, 4700] st st_121 := hB_st_98.call n_121 (by decide)
                      have hw_121_0 := hw_121
                      refine lv_goto (tgt := 185) hx hb dX6_search_132 (by decide) ?_
                      obtain ⟨x_122, ex_122⟩ : ∃ y : Int32, y = y3_1 + 1 := ⟨_, rfl⟩
                      try have tx_122 : x_122.toInt = y3_1.toInt + 1 := by rw [ex_122]; exact gz_addP (x := y3_1.toInt) (y := 1) rfl (by decide) (by omega) (by omega)
                      refine lv_iinc (v := (x_122)) (lv' := [(4, .int x_122), (6, .int r_106), (5, .int r_6), (3, .int y3_0), (0, .ref (ad 38 0)), (1, .int x), (2, .int y)]) hx hb dX6_search_185 hl (k := 2) rfl (by rw [ex_122]; rfl) (by decide) rfl (fun ls hl => ?_)
                      refine lv_goto (tgt := 17) hx hb dX6_search_188 (by decide) ?_
                      exact ih_3 st_121 (y3_0 : Int32) (x_122 : Int32) H _ ls (by omega) hB_st_121 (by omega) (by omega) (by omega) (tdX.trans (tdX.trans (tdX.trans hv3_3 (tdX.upk est_97 (by decide))) hw_98_0) hw_121_0) hM hS (lv_sub hl [0, 3, 4, 5, 6] rfl)
              · have ic_66 := gz_eqn (rfl : (sv3 38 0 10).toInt = (sv3 38 0 10).toInt) (rfl : y.toInt = y.toInt) c_66
                refine lv_iconst (v := 2) hx hb dX6_search_75 (by decide) ?_
                rw [← hQe]
                exact gs_iret hx hb hr hlocks hM hS rfl ⟨hB_sv3, hv3_3⟩ (by exact Nat.le_refl _) (by exact Nat.le_refl _) dX6_search_76
          · have ic_7 := gz_eqn (rfl : r_6.toInt = r_6.toInt) (by decide : ((-1) : Int32).toInt = -1) c_7
            obtain ⟨x_123, ex_123⟩ : ∃ y : Int32, y = y3_0 + (-1) := ⟨_, rfl⟩
            try have tx_123 : x_123.toInt = y3_0.toInt + (-1) := by rw [ex_123]; exact gz_addI (x := y3_0.toInt) (y := (-1)) rfl (by decide) (by omega) (by omega)
            refine lv_iinc (v := (x_123)) (lv' := [(3, .int x_123), (5, .int r_6), (4, .int y3_1), (0, .ref (ad 38 0)), (1, .int x), (2, .int y)]) hx hb dX6_search_43 hl (k := 2) rfl (by rw [ex_123]; rfl) (by decide) rfl (fun ls hl => ?_)
            refine lv_iload_n hx hb dX6_search_46 rfl (lv_at hl 0 rfl) ?_
            refine lv_if_ge (tgt := 52) hx hb dX6_search_47 (by decide) (fun c_124 => ?_) (fun c_124 => ?_)
            · have ic_124 := gz_le (by decide : (0 : Int32).toInt = 0) (rfl : x_123.toInt = x_123.toInt) c_124
              refine lv_aload_n hx hb dX6_search_52 rfl (lv_at hl 3 rfl) ?_
              refine lv_iload_n hx hb dX6_search_53 rfl (lv_at hl 0 rfl) ?_
              refine gs_callv (va_runV (As := [.int x_123]) (rest := []) ⟨hx, hb, hml, hown, hts⟩ (s_X6_undo l G cy sK sV ad H.size sv3 hB_sv3.1 x_123 x_123.toInt rfl (by first | decide | omega) (by first | decide | omega)) ⟨(gz_cb (n := 1) hts gm_874 gm_11 gm_877 ⟨by decide +kernel, by decide +kernel, by decide +kernel⟩ ⟨Nat.le_of_ble_eq_true rfl, Nat.le_of_ble_eq_true rfl⟩), hts _ gm_876, hts _ gs_27⟩ (gs_preV hK hov hE hI hM hm hS hA 38 0 (by decide) rfl rfl) rfl rfl hl.1 rfl (lv_room (Nat.le_of_ble_eq_true rfl)) dX6_search_54 ⟨Nat.le_of_ble_eq_true rfl, Nat.le_of_ble_eq_true rfl⟩) hm hS hA (fun st_125 H locs hw_125 hM hS => ?_)
              obtain ⟨n_125, hw_125⟩ := hw_125
              have hB_st_125 : gBN bX kX [1300, 1400, 1500, 3810, 3811, 3813, 3814, 4100, 4300, 4500, 4600, 4700] st st_125 := hB_sv3.call n_125 (by decide)
              have hw_125_0 := hw_125
              refine lv_goto (tgt := 185) hx hb dX6_search_57 (by decide) ?_
              obtain ⟨x_126, ex_126⟩ : ∃ y : Int32, y = y3_1 + 1 := ⟨_, rfl⟩
              try have tx_126 : x_126.toInt = y3_1.toInt + 1 := by rw [ex_126]; exact gz_addP (x := y3_1.toInt) (y := 1) rfl (by decide) (by omega) (by omega)
              refine lv_iinc (v := (x_126)) (lv' := [(4, .int x_126), (3, .int x_123), (5, .int r_6), (0, .ref (ad 38 0)), (1, .int x), (2, .int y)]) hx hb dX6_search_185 hl (k := 2) rfl (by rw [ex_126]; rfl) (by decide) rfl (fun ls hl => ?_)
              refine lv_goto (tgt := 17) hx hb dX6_search_188 (by decide) ?_
              exact ih_3 st_125 (x_123 : Int32) (x_126 : Int32) H _ ls (by omega) hB_st_125 (by omega) (by omega) (by omega) (tdX.trans hv3_3 hw_125_0) hM hS (lv_sub hl [0, 1, 3, 4, 5] rfl)
            · have ic_124 := gz_nle (by decide : (0 : Int32).toInt = 0) (rfl : x_123.toInt = x_123.toInt) c_124
              refine lv_iconst (v := 1) hx hb dX6_search_50 (by decide) ?_
              rw [← hQe]
              exact gs_iret hx hb hr hlocks hM hS rfl ⟨hB_sv3, hv3_3⟩ (by exact Nat.le_refl _) (by exact Nat.le_refl _) dX6_search_51
  exact lp3 ((5600224 - ((0 : Int32) : Int32).toInt).toNat + 1) st_2 ((0 : Int32) : Int32) ((0 : Int32) : Int32) H _ ls (Nat.lt_succ_self _) hB_st_2 (by have hl0 : (0 : Int32).toInt = 0 := (by decide); have hl1 : (0 : Int32).toInt = 0 := (by decide); omega) (by have hl0 : (0 : Int32).toInt = 0 := (by decide); have hl1 : (0 : Int32).toInt = 0 := (by decide); omega) (by have hl0 : (0 : Int32).toInt = 0 := (by decide); have hl1 : (0 : Int32).toInt = 0 := (by decide); omega) (tdX.trans (tdX.trans tdX.rf (tdX.upk est_1 (by decide))) hw_2_0) hM hS (lv_sub hl [0, 1, 2, 3, 4] rfl)
