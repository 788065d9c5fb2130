theorem gm_931 : (Jvm.Cond.fieldLink "WellCourtModel" (204 : Nat) "WellCourtModel" "fresh" "I") ∈ gz_T := gz_at 931 (by decide +kernel) rfl
theorem gm_1118 : (Jvm.Cond.constantLong "WellCourtModel" (223 : Nat) (500186639987 : Int64)) ∈ gz_T := gz_at 1118 (by decide +kernel) rfl
theorem gm_1123 : (Jvm.Cond.constantLong "WellCourtModel" (225 : Nat) (444351214452 : Int64)) ∈ gz_T := gz_at 1123 (by decide +kernel) rfl
theorem gm_1124 : (Jvm.Cond.constantLong "WellCourtModel" (227 : Nat) (7824740 : Int64)) ∈ gz_T := gz_at 1124 (by decide +kernel) rfl
theorem gm_1125 : (Jvm.Cond.constantLong "WellCourtModel" (229 : Nat) (28273320707713140 : Int64)) ∈ gz_T := gz_at 1125 (by decide +kernel) rfl
theorem gm_1126 : (Jvm.Cond.constantLong "WellCourtModel" (231 : Nat) (6582905 : Int64)) ∈ gz_T := gz_at 1126 (by decide +kernel) rfl
theorem gm_1135 : (Jvm.Cond.methodLink "WellCourtModel" (233 : Nat) ({ cls := "WellCourtModel", name := "turns", desc := "(I)Z" } : Jvm.MethodName)) ∈ gz_T := gz_at 1135 (by decide +kernel) rfl
theorem gm_1137 : (Jvm.Cond.instanceMethod ({ cls := "WellCourtModel", name := "turns", desc := "(I)Z" } : Jvm.MethodName)) ∈ gz_T := gz_at 1137 (by decide +kernel) rfl
theorem gm_1138 : (Jvm.Cond.code ({ cls := "WellCourtModel", name := "turns", desc := "(I)Z" } : Jvm.MethodName) prog_12_method_21_code (5 : Nat) (Option.some Jvm.ClassFile.FieldType.boolean)) ∈ gz_T := gz_at 1138 (by decide +kernel) rfl
theorem gm_1153 : (Jvm.Cond.methodLink "WellCourtModel" (236 : Nat) ({ cls := "WellCourtModel", name := "guest", desc := "(I)Z" } : Jvm.MethodName)) ∈ gz_T := gz_at 1153 (by decide +kernel) rfl
theorem gm_1155 : (Jvm.Cond.instanceMethod ({ cls := "WellCourtModel", name := "guest", desc := "(I)Z" } : Jvm.MethodName)) ∈ gz_T := gz_at 1155 (by decide +kernel) rfl
theorem gm_1156 : (Jvm.Cond.code ({ cls := "WellCourtModel", name := "guest", desc := "(I)Z" } : Jvm.MethodName) prog_12_method_22_code (2 : Nat) (Option.some Jvm.ClassFile.FieldType.boolean)) ∈ gz_T := gz_at 1156 (by decide +kernel) rfl
theorem gm_1163 : (Jvm.Cond.methodLink "WellCourtModel" (239 : Nat) ({ cls := "WellCourtModel", name := "wed", desc := "(I)Z" } : Jvm.MethodName)) ∈ gz_T := gz_at 1163 (by decide +kernel) rfl
theorem gm_1165 : (Jvm.Cond.instanceMethod ({ cls := "WellCourtModel", name := "wed", desc := "(I)Z" } : Jvm.MethodName)) ∈ gz_T := gz_at 1165 (by decide +kernel) rfl
theorem gm_1166 : (Jvm.Cond.code ({ cls := "WellCourtModel", name := "wed", desc := "(I)Z" } : Jvm.MethodName) prog_12_method_23_code (2 : Nat) (Option.some Jvm.ClassFile.FieldType.boolean)) ∈ gz_T := gz_at 1166 (by decide +kernel) rfl
theorem gm_1167 : (Jvm.Cond.methodLink "WellCourtModel" (242 : Nat) ({ cls := "WellCourtModel", name := "drought", desc := "(I)Z" } : Jvm.MethodName)) ∈ gz_T := gz_at 1167 (by decide +kernel) rfl
theorem gm_1169 : (Jvm.Cond.instanceMethod ({ cls := "WellCourtModel", name := "drought", desc := "(I)Z" } : Jvm.MethodName)) ∈ gz_T := gz_at 1169 (by decide +kernel) rfl
theorem gm_1170 : (Jvm.Cond.code ({ cls := "WellCourtModel", name := "drought", desc := "(I)Z" } : Jvm.MethodName) prog_12_method_24_code (2 : Nat) (Option.some Jvm.ClassFile.FieldType.boolean)) ∈ gz_T := gz_at 1170 (by decide +kernel) rfl
theorem gm_1172 : (Jvm.Cond.methodLink "WellCourtModel" (245 : Nat) ({ cls := "WellCourtModel", name := "dry", desc := "(I)Z" } : Jvm.MethodName)) ∈ gz_T := gz_at 1172 (by decide +kernel) rfl
theorem gm_1174 : (Jvm.Cond.instanceMethod ({ cls := "WellCourtModel", name := "dry", desc := "(I)Z" } : Jvm.MethodName)) ∈ gz_T := gz_at 1174 (by decide +kernel) rfl
theorem gm_1175 : (Jvm.Cond.code ({ cls := "WellCourtModel", name := "dry", desc := "(I)Z" } : Jvm.MethodName) prog_12_method_25_code (2 : Nat) (Option.some Jvm.ClassFile.FieldType.boolean)) ∈ gz_T := gz_at 1175 (by decide +kernel) rfl
theorem gs_38 : (Jvm.Cond.selects "WellCourtModel" ({ cls := "WellCourtModel", name := "turns", desc := "(I)Z" } : Jvm.MethodName) ({ cls := "WellCourtModel", name := "turns", desc := "(I)Z" } : Jvm.MethodName)) ∈ gz_T := gz_sel 38 (by decide +kernel) rfl
theorem gs_42 : (Jvm.Cond.selects "WellCourtModel" ({ cls := "WellCourtModel", name := "guest", desc := "(I)Z" } : Jvm.MethodName) ({ cls := "WellCourtModel", name := "guest", desc := "(I)Z" } : Jvm.MethodName)) ∈ gz_T := gz_sel 42 (by decide +kernel) rfl
theorem gs_44 : (Jvm.Cond.selects "WellCourtModel" ({ cls := "WellCourtModel", name := "wed", desc := "(I)Z" } : Jvm.MethodName) ({ cls := "WellCourtModel", name := "wed", desc := "(I)Z" } : Jvm.MethodName)) ∈ gz_T := gz_sel 44 (by decide +kernel) rfl
theorem gs_45 : (Jvm.Cond.selects "WellCourtModel" ({ cls := "WellCourtModel", name := "drought", desc := "(I)Z" } : Jvm.MethodName) ({ cls := "WellCourtModel", name := "drought", desc := "(I)Z" } : Jvm.MethodName)) ∈ gz_T := gz_sel 45 (by decide +kernel) rfl
theorem gs_46 : (Jvm.Cond.selects "WellCourtModel" ({ cls := "WellCourtModel", name := "dry", desc := "(I)Z" } : Jvm.MethodName) ({ cls := "WellCourtModel", name := "dry", desc := "(I)Z" } : Jvm.MethodName)) ∈ gz_T := gz_sel 46 (by decide +kernel) rfl
theorem dX10_rule_0 : decode cX10_rule 0 = .ok (.aload_n 0, 1) := by decide +kernel
theorem dX10_rule_1 : decode cX10_rule 1 = .ok (.ldc2_w 223, 3) := by decide +kernel
theorem dX10_rule_4 : decode cX10_rule 4 = .ok (.invokevirtual 187, 3) := by decide +kernel
theorem dX10_rule_7 : decode cX10_rule 7 = .ok (.ifCond .eq 7, 3) := by decide +kernel
theorem dX10_rule_10 : decode cX10_rule 10 = .ok (.iconst 0, 1) := by decide +kernel
theorem dX10_rule_11 : decode cX10_rule 11 = .ok (.goto 60, 3) := by decide +kernel
theorem dX10_rule_14 : decode cX10_rule 14 = .ok (.aload_n 0, 1) := by decide +kernel
theorem dX10_rule_15 : decode cX10_rule 15 = .ok (.ldc2_w 225, 3) := by decide +kernel
theorem dX10_rule_18 : decode cX10_rule 18 = .ok (.invokevirtual 187, 3) := by decide +kernel
theorem dX10_rule_21 : decode cX10_rule 21 = .ok (.ifCond .eq 7, 3) := by decide +kernel
theorem dX10_rule_24 : decode cX10_rule 24 = .ok (.iconst 1, 1) := by decide +kernel
theorem dX10_rule_25 : decode cX10_rule 25 = .ok (.goto 46, 3) := by decide +kernel
theorem dX10_rule_28 : decode cX10_rule 28 = .ok (.aload_n 0, 1) := by decide +kernel
theorem dX10_rule_29 : decode cX10_rule 29 = .ok (.ldc2_w 227, 3) := by decide +kernel
theorem dX10_rule_32 : decode cX10_rule 32 = .ok (.invokevirtual 187, 3) := by decide +kernel
theorem dX10_rule_35 : decode cX10_rule 35 = .ok (.ifCond .eq 7, 3) := by decide +kernel
theorem dX10_rule_38 : decode cX10_rule 38 = .ok (.iconst 2, 1) := by decide +kernel
theorem dX10_rule_39 : decode cX10_rule 39 = .ok (.goto 32, 3) := by decide +kernel
theorem dX10_rule_42 : decode cX10_rule 42 = .ok (.aload_n 0, 1) := by decide +kernel
theorem dX10_rule_43 : decode cX10_rule 43 = .ok (.ldc2_w 229, 3) := by decide +kernel
theorem dX10_rule_46 : decode cX10_rule 46 = .ok (.invokevirtual 187, 3) := by decide +kernel
theorem dX10_rule_49 : decode cX10_rule 49 = .ok (.ifCond .eq 7, 3) := by decide +kernel
theorem dX10_rule_52 : decode cX10_rule 52 = .ok (.iconst 3, 1) := by decide +kernel
theorem dX10_rule_53 : decode cX10_rule 53 = .ok (.goto 18, 3) := by decide +kernel
theorem dX10_rule_56 : decode cX10_rule 56 = .ok (.aload_n 0, 1) := by decide +kernel
theorem dX10_rule_57 : decode cX10_rule 57 = .ok (.ldc2_w 231, 3) := by decide +kernel
theorem dX10_rule_60 : decode cX10_rule 60 = .ok (.invokevirtual 187, 3) := by decide +kernel
theorem dX10_rule_63 : decode cX10_rule 63 = .ok (.ifCond .eq 7, 3) := by decide +kernel
theorem dX10_rule_66 : decode cX10_rule 66 = .ok (.iconst 4, 1) := by decide +kernel
theorem dX10_rule_67 : decode cX10_rule 67 = .ok (.goto 4, 3) := by decide +kernel
theorem dX10_rule_70 : decode cX10_rule 70 = .ok (.iconst (-1), 1) := by decide +kernel
theorem dX10_rule_71 : decode cX10_rule 71 = .ok (.istore_n 1, 1) := by decide +kernel
theorem dX10_rule_72 : decode cX10_rule 72 = .ok (.iload_n 1, 1) := by decide +kernel
theorem dX10_rule_73 : decode cX10_rule 73 = .ok (.ifCond .ge 8, 3) := by decide +kernel
theorem dX10_rule_76 : decode cX10_rule 76 = .ok (.aload_n 0, 1) := by decide +kernel
theorem dX10_rule_77 : decode cX10_rule 77 = .ok (.invokevirtual 180, 3) := by decide +kernel
theorem dX10_rule_80 : decode cX10_rule 80 = .ok (.ireturn, 1) := by decide +kernel
theorem dX10_rule_81 : decode cX10_rule 81 = .ok (.aload_n 0, 1) := by decide +kernel
theorem dX10_rule_82 : decode cX10_rule 82 = .ok (.getfield 204, 3) := by decide +kernel
theorem dX10_rule_85 : decode cX10_rule 85 = .ok (.bipush 20, 2) := by decide +kernel
theorem dX10_rule_87 : decode cX10_rule 87 = .ok (.if_icmp .ne 13, 3) := by decide +kernel
theorem dX10_rule_90 : decode cX10_rule 90 = .ok (.aload_n 0, 1) := by decide +kernel
theorem dX10_rule_91 : decode cX10_rule 91 = .ok (.iconst 4, 1) := by decide +kernel
theorem dX10_rule_92 : decode cX10_rule 92 = .ok (.aload_n 0, 1) := by decide +kernel
theorem dX10_rule_93 : decode cX10_rule 93 = .ok (.getfield 150, 3) := by decide +kernel
theorem dX10_rule_96 : decode cX10_rule 96 = .ok (.invokevirtual 176, 3) := by decide +kernel
theorem dX10_rule_99 : decode cX10_rule 99 = .ok (.ireturn, 1) := by decide +kernel
theorem dX10_rule_100 : decode cX10_rule 100 = .ok (.bipush 24, 2) := by decide +kernel
theorem dX10_rule_102 : decode cX10_rule 102 = .ok (.aload_n 0, 1) := by decide +kernel
theorem dX10_rule_103 : decode cX10_rule 103 = .ok (.getfield 201, 3) := by decide +kernel
theorem dX10_rule_106 : decode cX10_rule 106 = .ok (.imul, 1) := by decide +kernel
theorem dX10_rule_107 : decode cX10_rule 107 = .ok (.aload_n 0, 1) := by decide +kernel
theorem dX10_rule_108 : decode cX10_rule 108 = .ok (.getfield 204, 3) := by decide +kernel
theorem dX10_rule_111 : decode cX10_rule 111 = .ok (.iadd, 1) := by decide +kernel
theorem dX10_rule_112 : decode cX10_rule 112 = .ok (.istore_n 2, 1) := by decide +kernel
theorem dX10_rule_113 : decode cX10_rule 113 = .ok (.aload_n 0, 1) := by decide +kernel
theorem dX10_rule_114 : decode cX10_rule 114 = .ok (.getfield 37, 3) := by decide +kernel
theorem dX10_rule_117 : decode cX10_rule 117 = .ok (.iload_n 2, 1) := by decide +kernel
theorem dX10_rule_118 : decode cX10_rule 118 = .ok (.iload_n 1, 1) := by decide +kernel
theorem dX10_rule_119 : decode cX10_rule 119 = .ok (.iastore, 1) := by decide +kernel
theorem dX10_rule_120 : decode cX10_rule 120 = .ok (.aload_n 0, 1) := by decide +kernel
theorem dX10_rule_121 : decode cX10_rule 121 = .ok (.invokevirtual 184, 3) := by decide +kernel
theorem dX10_rule_124 : decode cX10_rule 124 = .ok (.iload_n 1, 1) := by decide +kernel
theorem dX10_rule_125 : decode cX10_rule 125 = .ok (.ifCond .ne 11, 3) := by decide +kernel
theorem dX10_rule_128 : decode cX10_rule 128 = .ok (.aload_n 0, 1) := by decide +kernel
theorem dX10_rule_129 : decode cX10_rule 129 = .ok (.iload_n 2, 1) := by decide +kernel
theorem dX10_rule_130 : decode cX10_rule 130 = .ok (.invokevirtual 233, 3) := by decide +kernel
theorem dX10_rule_133 : decode cX10_rule 133 = .ok (.goto 47, 3) := by decide +kernel
theorem dX10_rule_136 : decode cX10_rule 136 = .ok (.iload_n 1, 1) := by decide +kernel
theorem dX10_rule_137 : decode cX10_rule 137 = .ok (.iconst 1, 1) := by decide +kernel
theorem dX10_rule_138 : decode cX10_rule 138 = .ok (.if_icmp .ne 11, 3) := by decide +kernel
theorem dX10_rule_141 : decode cX10_rule 141 = .ok (.aload_n 0, 1) := by decide +kernel
theorem dX10_rule_142 : decode cX10_rule 142 = .ok (.iload_n 2, 1) := by decide +kernel
theorem dX10_rule_143 : decode cX10_rule 143 = .ok (.invokevirtual 236, 3) := by decide +kernel
theorem dX10_rule_146 : decode cX10_rule 146 = .ok (.goto 34, 3) := by decide +kernel
theorem dX10_rule_149 : decode cX10_rule 149 = .ok (.iload_n 1, 1) := by decide +kernel
theorem dX10_rule_150 : decode cX10_rule 150 = .ok (.iconst 2, 1) := by decide +kernel
theorem dX10_rule_151 : decode cX10_rule 151 = .ok (.if_icmp .ne 11, 3) := by decide +kernel
theorem dX10_rule_154 : decode cX10_rule 154 = .ok (.aload_n 0, 1) := by decide +kernel
theorem dX10_rule_155 : decode cX10_rule 155 = .ok (.iload_n 2, 1) := by decide +kernel
theorem dX10_rule_156 : decode cX10_rule 156 = .ok (.invokevirtual 239, 3) := by decide +kernel
theorem dX10_rule_159 : decode cX10_rule 159 = .ok (.goto 21, 3) := by decide +kernel
theorem dX10_rule_162 : decode cX10_rule 162 = .ok (.iload_n 1, 1) := by decide +kernel
theorem dX10_rule_163 : decode cX10_rule 163 = .ok (.iconst 3, 1) := by decide +kernel
theorem dX10_rule_164 : decode cX10_rule 164 = .ok (.if_icmp .ne 11, 3) := by decide +kernel
theorem dX10_rule_167 : decode cX10_rule 167 = .ok (.aload_n 0, 1) := by decide +kernel
theorem dX10_rule_168 : decode cX10_rule 168 = .ok (.iload_n 2, 1) := by decide +kernel
theorem dX10_rule_169 : decode cX10_rule 169 = .ok (.invokevirtual 242, 3) := by decide +kernel
theorem dX10_rule_172 : decode cX10_rule 172 = .ok (.goto 8, 3) := by decide +kernel
theorem dX10_rule_175 : decode cX10_rule 175 = .ok (.aload_n 0, 1) := by decide +kernel
theorem dX10_rule_176 : decode cX10_rule 176 = .ok (.iload_n 2, 1) := by decide +kernel
theorem dX10_rule_177 : decode cX10_rule 177 = .ok (.invokevirtual 245, 3) := by decide +kernel
theorem dX10_rule_180 : decode cX10_rule 180 = .ok (.istore_n 3, 1) := by decide +kernel
theorem dX10_rule_181 : decode cX10_rule 181 = .ok (.iload_n 3, 1) := by decide +kernel
theorem dX10_rule_182 : decode cX10_rule 182 = .ok (.ifCond .eq 12, 3) := by decide +kernel
theorem dX10_rule_185 : decode cX10_rule 185 = .ok (.aload_n 0, 1) := by decide +kernel
theorem dX10_rule_186 : decode cX10_rule 186 = .ok (.bipush 59, 2) := by decide +kernel
theorem dX10_rule_188 : decode cX10_rule 188 = .ok (.invokevirtual 248, 3) := by decide +kernel
theorem dX10_rule_191 : decode cX10_rule 191 = .ok (.ifCond .ne 5, 3) := by decide +kernel
theorem dX10_rule_194 : decode cX10_rule 194 = .ok (.iconst 0, 1) := by decide +kernel
theorem dX10_rule_195 : decode cX10_rule 195 = .ok (.ireturn, 1) := by decide +kernel
theorem dX10_rule_196 : decode cX10_rule 196 = .ok (.aload_n 0, 1) := by decide +kernel
theorem dX10_rule_197 : decode cX10_rule 197 = .ok (.dup, 1) := by decide +kernel
theorem dX10_rule_198 : decode cX10_rule 198 = .ok (.getfield 204, 3) := by decide +kernel
theorem dX10_rule_201 : decode cX10_rule 201 = .ok (.iconst 1, 1) := by decide +kernel
theorem dX10_rule_202 : decode cX10_rule 202 = .ok (.iadd, 1) := by decide +kernel
theorem dX10_rule_203 : decode cX10_rule 203 = .ok (.putfield 204, 3) := by decide +kernel
theorem dX10_rule_206 : decode cX10_rule 206 = .ok (.iconst 1, 1) := by decide +kernel
theorem dX10_rule_207 : decode cX10_rule 207 = .ok (.ireturn, 1) := by decide +kernel
set_option maxHeartbeats 4000000 in
set_option maxRecDepth 100000 in
/-- WellCourtModel.rule -/
theorem m_rule (l : Launch) (G : va_G) (cy : Nat → ClassId) (sK sV : Nat → Nat) (ad : Nat → Nat → Nat) (sz : Nat) (st : gS) (hB : gBd bM st) (F : Nat → Int32) (N : Int) (hF : st 7 0 = F) (hN : (st 0 0 10).toInt = N) (P : Int) (hC : mCur F N P st) (rs : List Rl) (ro : List Rl) (bk : Nat) (hbk : (st 0 0 28).toInt = (bk : Int)) (hfr : (st 0 0 30).toInt = (rs.length : Int)) (hLM : LM rs st bk) (hwf : ∀ r ∈ rs, wfR r) (hLO : LM ro st (1 - bk)) (hwo : ∀ r ∈ ro, wfR r) (hlo : ro.length ≤ 20) : gsMi l yX10_rule cX10_rule 4 (some .boolean) ({ frames := 4, cells := 0, slots := 0, locals := 90 } : Room) G cy sK sV (shM cy ad) cnM ad sz [.ref (ad 0 0)] st (fun (r : Int32) (u : gS) => gBN bM kM [11, 12, 13, 14, 15, 16, 17, 18, 19, 30, 59, 800, 900, 1000, 1100, 1200, 1300, 1400, 1500] st u ∧ ((r = 1 ∧ (∃ (r9 : Rl) (e9 : Int), pRule F N (mLex F N) rs P = some (r9, e9) ∧ mCur F N e9 u ∧ wfR r9 ∧ LM (rs ++ [r9]) u bk) ∧ ((u 0 0 30).toInt = (st 0 0 30).toInt + 1) ∧ (LM ro u (1 - bk))) ∨ (r = 0 ∧ (pRule F N (mLex F N) rs P = none ∨ (rs.length : Int) = 20) ∧ ((u 0 0 30).toInt = (st 0 0 30).toInt) ∧ (LM ro u (1 - bk))))) := by
  refine gs_start (fun A => gsQi G (shM cy ad) cnM ad _ A) (by decide) (Nat.le_of_ble_eq_true rfl) ?_
  intro p e s m below meth c A ls H hx hb hr hml hlocks hown hts hK hov hE hI hM hm hS hA hl
  have hl : lv_has ls 4 [(0, .ref (ad 0 0))] := hl
  have hB_st : gBN bM kM [11, 12, 13, 14, 15, 16, 17, 18, 19, 30, 59, 800, 900, 1000, 1100, 1200, 1300, 1400, 1500] st st := gBN.rf hB
  have hn8 : N ≤ 800 := (by have h9 : (0 : Int) ≤ (st 0 0 10).toInt ∧ (st 0 0 10).toInt ≤ (800 : Int) := hB 0 0 10; omega)
  have bb1 : (0 : Int) ≤ (st 0 0 28).toInt ∧ (st 0 0 28).toInt ≤ (1 : Int) := hB 0 0 28
  have bb3 : (0 : Int) ≤ (st 0 0 30).toInt ∧ (st 0 0 30).toInt ≤ (20 : Int) := hB 0 0 30
  refine lv_aload_n hx hb dX10_rule_0 rfl (lv_at hl 0 rfl) ?_
  refine lv_ldc2 (v := 500186639987) hx hb hown (hts _ gm_1118) dX10_rule_1 ?_
  refine gs_calli (va_runV (As := [.long (500186639987 : Int64)]) (rest := []) ⟨hx, hb, hml, hown, hts⟩ (m_isWord l G cy sK sV ad H.size st hB_st.1 (500186639987 : Int64) ) ⟨(gz_cb (n := 1) hts gm_1119 gm_12 gm_1122 ⟨by decide +kernel, by decide +kernel, by decide +kernel⟩ ⟨Nat.le_of_ble_eq_true rfl, Nat.le_of_ble_eq_true rfl⟩), hts _ gm_1121, hts _ gs_35⟩ (gs_preV hK hov hE hI hM hm hS hA 0 0 (by decide) rfl rfl) rfl rfl hl.1 rfl (lv_room (Nat.le_of_ble_eq_true rfl)) dX10_rule_4 ⟨Nat.le_of_ble_eq_true rfl, Nat.le_of_ble_eq_true rfl⟩) hm hS hA (fun r_1 st_1 H locs hw_1 hM hS => ?_)
  obtain ⟨n_1, hw_1⟩ := hw_1
  have n_1 := gBN.nil n_1
  subst n_1
  rcases hw_1 with ⟨rfl, hw_1_0⟩ | ⟨rfl, hw_1_0⟩
  · skip
    refine lv_if_eq (tgt := 14) hx hb dX10_rule_7 (by decide) (fun h9 => absurd h9 (by decide)) (fun _ => ?_)
    refine lv_iconst (v := 0) hx hb dX10_rule_10 (by decide) ?_
    refine lv_goto (tgt := 71) hx hb dX10_rule_11 (by decide) ?_
    refine lv_istore_n (lv' := [(1, .int 0), (0, .ref (ad 0 0))]) hx hb dX10_rule_71 rfl hl (by decide) rfl (fun ls hl => ?_)
    refine lv_iload_n hx hb dX10_rule_72 rfl (lv_at hl 0 rfl) ?_
    refine lv_if_ge (tgt := 81) hx hb dX10_rule_73 (by decide) (fun _ => ?_) (fun h9 => absurd (by decide) h9)
    refine lv_aload_n hx hb dX10_rule_81 rfl (lv_at hl 1 rfl) ?_
    refine gs_get (C := RX10) (T := TX10) (N := 59) hx hb hts inX10 hown hK hM 0 0 30 (by decide) rfl rfl (by decide) (hts _ gm_931) (fun _ h9 => h9) rfl dX10_rule_82 ?_
    have bf_2 : (0 : Int) ≤ (st 0 0 30).toInt ∧ (st 0 0 30).toInt ≤ (20 : Int) := hB_st.1 0 0 30
    refine lv_bipush (v := 20) hx hb dX10_rule_85 (by decide) ?_
    refine lv_icmp_ne (tgt := 100) hx hb dX10_rule_87 (by decide) (fun c_3 => ?_) (fun c_3 => ?_)
    · have ic_3 := gz_ne (rfl : (st 0 0 30).toInt = (st 0 0 30).toInt) (by decide : (20 : Int32).toInt = 20) c_3
      refine lv_bipush (v := 24) hx hb dX10_rule_100 (by decide) ?_
      refine lv_aload_n hx hb dX10_rule_102 rfl (lv_at hl 1 rfl) ?_
      refine gs_get (C := RX10) (T := TX10) (N := 59) hx hb hts inX10 hown hK hM 0 0 28 (by decide) rfl rfl (by decide) (hts _ gm_929) (fun _ h9 => h9) rfl dX10_rule_103 ?_
      have bf_4 : (0 : Int) ≤ (st 0 0 28).toInt ∧ (st 0 0 28).toInt ≤ (1 : Int) := hB_st.1 0 0 28
      refine lv_imul hx hb dX10_rule_106 ?_
      refine lv_topi (fun x_5 ex_5 => ?_)
      try have tx_5 : x_5.toInt = 24 * (st 0 0 28).toInt := by rw [ex_5]; exact gz_mulI (x := 24) (y := (st 0 0 28).toInt) (by decide) rfl (by omega) (by omega)
      refine lv_aload_n hx hb dX10_rule_107 rfl (lv_at hl 1 rfl) ?_
      refine gs_get (C := RX10) (T := TX10) (N := 59) hx hb hts inX10 hown hK hM 0 0 30 (by decide) rfl rfl (by decide) (hts _ gm_931) (fun _ h9 => h9) rfl dX10_rule_108 ?_
      have bf_6 : (0 : Int) ≤ (st 0 0 30).toInt ∧ (st 0 0 30).toInt ≤ (20 : Int) := hB_st.1 0 0 30
      refine lv_iadd hx hb dX10_rule_111 ?_
      refine lv_topi (fun x_7 ex_7 => ?_)
      try have tx_7 : x_7.toInt = x_5.toInt + (st 0 0 30).toInt := by rw [ex_7]; exact gz_addI (x := x_5.toInt) (y := (st 0 0 30).toInt) rfl rfl (by omega) (by omega)
      refine lv_istore_n (lv' := [(2, .int x_7), (1, .int 0), (0, .ref (ad 0 0))]) hx hb dX10_rule_112 rfl hl (by decide) rfl (fun ls hl => ?_)
      refine lv_aload_n hx hb dX10_rule_113 rfl (lv_at hl 2 rfl) ?_
      refine gs_get (C := RX10) (T := TX10) (N := 59) hx hb hts inX10 hown hK hM 0 0 20 (by decide) rfl rfl (by decide) (hts _ gm_921) (fun _ h9 => h9) rfl dX10_rule_114 ?_
      refine lv_iload_n hx hb dX10_rule_117 rfl (lv_at hl 0 rfl) ?_
      refine lv_iload_n hx hb dX10_rule_118 rfl (lv_at hl 1 rfl) ?_
      refine gs_iast hx hb hK hI hm hM hS 8 0 (by decide) (fun _ => rfl) (vp_in_iff.mpr ⟨by omega, by omega⟩) dX10_rule_119 (fun st_8 H locs est_8 hM hS => ?_)
      have hB_st_8 : gBN bM kM [11, 12, 13, 14, 15, 16, 17, 18, 19, 30, 59, 800, 900, 1000, 1100, 1200, 1300, 1400, 1500] st st_8 := by rw [est_8]; exact hB_st.up (show (800 : Nat) ∈ _ from by decide) (gi_lo _) (gi_hi _)
      refine lv_aload_n hx hb dX10_rule_120 rfl (lv_at hl 2 rfl) ?_
      refine gs_callv (va_runV (As := []) (rest := []) ⟨hx, hb, hml, hown, hts⟩ (m_next0 l G cy sK sV ad H.size st_8 hB_st_8.1  F N (((congrFun (congrFun est_8 7) 0).trans ((congrFun (gU_k (by decide)) 0).trans rfl)).trans hF) ((congrArg Int32.toInt (((congrFun (congrFun (congrFun est_8 0) 0) 10).trans (congrFun (congrFun (gU_k (by decide)) 0) 10)))).trans hN)) ⟨(gz_cb (n := 0) hts gm_1100 gm_12 gm_1103 ⟨by decide +kernel, by decide +kernel, by decide +kernel⟩ ⟨Nat.le_of_ble_eq_true rfl, Nat.le_of_ble_eq_true rfl⟩), hts _ gm_1102, hts _ gs_32⟩ (gs_preV hK hov hE hI hM hm hS hA 0 0 (by decide) rfl rfl) rfl rfl hl.1 rfl (lv_room (Nat.le_of_ble_eq_true rfl)) dX10_rule_121 ⟨Nat.le_of_ble_eq_true rfl, Nat.le_of_ble_eq_true rfl⟩) hm hS hA (fun st_9 H locs hw_9 hM hS => ?_)
      obtain ⟨n_9, hw_9⟩ := hw_9
      have hB_st_9 : gBN bM kM [11, 12, 13, 14, 15, 16, 17, 18, 19, 30, 59, 800, 900, 1000, 1100, 1200, 1300, 1400, 1500] st st_9 := hB_st_8.call n_9 (by decide)
      have hqhw_90 : (st_8 0 0 11).toInt = ((st 0 0 11) : Int32).toInt := congrArg Int32.toInt (((congrFun (congrFun (congrFun est_8 0) 0) 11).trans (congrFun (congrFun (gU_k (by decide)) 0) 11)))
      have hbhw_91 : (0 : Int) ≤ (st_8 0 0 11).toInt ∧ (st_8 0 0 11).toInt ≤ (800 : Int) := hB_st_8.1 0 0 11
      have hw_9_0 := hw_9
      refine lv_iload_n hx hb dX10_rule_124 rfl (lv_at hl 1 rfl) ?_
      refine lv_if_ne (tgt := 136) hx hb dX10_rule_125 (by decide) (fun h9 => absurd (by decide) h9) (fun _ => ?_)
      refine lv_aload_n hx hb dX10_rule_128 rfl (lv_at hl 2 rfl) ?_
      refine lv_iload_n hx hb dX10_rule_129 rfl (lv_at hl 0 rfl) ?_
      refine gs_calli (va_runV (As := [.int x_7]) (rest := []) ⟨hx, hb, hml, hown, hts⟩ (m_turns l G cy sK sV ad H.size st_9 hB_st_9.1 x_7 x_7.toInt rfl (by first | decide | omega) (by first | decide | omega) F N (((funext (fun j9 => n_9.2 7 0 j9 (show (700 : Nat) ∉ _ from by decide))).trans ((congrFun (congrFun est_8 7) 0).trans ((congrFun (gU_k (by decide)) 0).trans rfl))).trans hF) ((congrArg Int32.toInt (((n_9.2 0 0 10 (show (10 : Nat) ∉ _ from by decide)).trans ((congrFun (congrFun (congrFun est_8 0) 0) 10).trans (congrFun (congrFun (gU_k (by decide)) 0) 10))))).trans hN) ((st_8 0 0 11).toInt) hw_9_0 rs bk ((congrArg Int32.toInt (((n_9.2 0 0 28 (show (28 : Nat) ∉ _ from by decide)).trans ((congrFun (congrFun (congrFun est_8 0) 0) 28).trans (congrFun (congrFun (gU_k (by decide)) 0) 28))))).trans hbk) (by first | decide | omega) (LM.oth hLM hwf (mO.trans (by rw [est_8]; exact mO.up mO.rf (by first | (intro _; rfl) | (intro h9; exact absurd h9 (by decide)) | (intro _; omega)) (by first | (intro h9; exact absurd h9 (by decide)) | (intro _; omega))) (mO.frame n_9.2 (by decide))) (fun i hi => by have h8 := gs_cl (x := x_7) (by omega); omega)) hwf) ⟨(gz_cb (n := 1) hts gm_1135 gm_12 gm_1138 ⟨by decide +kernel, by decide +kernel, by decide +kernel⟩ ⟨Nat.le_of_ble_eq_true rfl, Nat.le_of_ble_eq_true rfl⟩), hts _ gm_1137, hts _ gs_38⟩ (gs_preV hK hov hE hI hM hm hS hA 0 0 (by decide) rfl rfl) rfl rfl hl.1 rfl (lv_room (Nat.le_of_ble_eq_true rfl)) dX10_rule_130 ⟨Nat.le_of_ble_eq_true rfl, Nat.le_of_ble_eq_true rfl⟩) hm hS hA (fun r_10 st_10 H locs hw_10 hM hS => ?_)
      obtain ⟨n_10, hw_10⟩ := hw_10
      have hB_st_10 : gBN bM kM [11, 12, 13, 14, 15, 16, 17, 18, 19, 30, 59, 800, 900, 1000, 1100, 1200, 1300, 1400, 1500] st st_10 := hB_st_9.call n_10 (by decide)
      rcases hw_10 with ⟨rfl, hw_10_0, hw_10_1⟩ | ⟨rfl, hw_10_0, hw_10_1⟩
      · skip
        obtain ⟨r9_hw_10_0, e9_hw_10_0, hw_10_0_p0, hw_10_0_p1, hw_10_0_p2, hw_10_0_p3, hw_10_0_p4⟩ := hw_10_0
        refine lv_goto (tgt := 180) hx hb dX10_rule_133 (by decide) ?_
        refine lv_istore_n (lv' := [(3, .int 1), (2, .int x_7), (1, .int 0), (0, .ref (ad 0 0))]) hx hb dX10_rule_180 rfl hl (by decide) rfl (fun ls hl => ?_)
        refine lv_iload_n hx hb dX10_rule_181 rfl (lv_at hl 0 rfl) ?_
        refine lv_if_eq (tgt := 194) hx hb dX10_rule_182 (by decide) (fun h9 => absurd h9 (by decide)) (fun _ => ?_)
        refine lv_aload_n hx hb dX10_rule_185 rfl (lv_at hl 3 rfl) ?_
        refine lv_bipush (v := 59) hx hb dX10_rule_186 (by decide) ?_
        refine gs_calli (va_runV (As := [.int 59]) (rest := []) ⟨hx, hb, hml, hown, hts⟩ (m_must l G cy sK sV ad H.size st_10 hB_st_10.1 (59 : Int32) 59 (by decide) F N (((funext (fun j9 => n_10.2 7 0 j9 (show (700 : Nat) ∉ _ from by decide))).trans ((funext (fun j9 => n_9.2 7 0 j9 (show (700 : Nat) ∉ _ from by decide))).trans ((congrFun (congrFun est_8 7) 0).trans ((congrFun (gU_k (by decide)) 0).trans rfl)))).trans hF) ((congrArg Int32.toInt (((n_10.2 0 0 10 (show (10 : Nat) ∉ _ from by decide)).trans ((n_9.2 0 0 10 (show (10 : Nat) ∉ _ from by decide)).trans ((congrFun (congrFun (congrFun est_8 0) 0) 10).trans (congrFun (congrFun (gU_k (by decide)) 0) 10)))))).trans hN) e9_hw_10_0 hw_10_0_p1) ⟨(gz_cb (n := 1) hts gm_1143 gm_12 gm_1146 ⟨by decide +kernel, by decide +kernel, by decide +kernel⟩ ⟨Nat.le_of_ble_eq_true rfl, Nat.le_of_ble_eq_true rfl⟩), hts _ gm_1145, hts _ gs_40⟩ (gs_preV hK hov hE hI hM hm hS hA 0 0 (by decide) rfl rfl) rfl rfl hl.1 rfl (lv_room (Nat.le_of_ble_eq_true rfl)) dX10_rule_188 ⟨Nat.le_of_ble_eq_true rfl, Nat.le_of_ble_eq_true rfl⟩) hm hS hA (fun r_11 st_11 H locs hw_11 hM hS => ?_)
        obtain ⟨n_11, hw_11⟩ := hw_11
        have hB_st_11 : gBN bM kM [11, 12, 13, 14, 15, 16, 17, 18, 19, 30, 59, 800, 900, 1000, 1100, 1200, 1300, 1400, 1500] st st_11 := hB_st_10.call n_11 (by decide)
        rcases hw_11 with ⟨rfl, hw_11_0⟩ | ⟨rfl, hw_11_0⟩
        · skip
          obtain ⟨e9_hw_11_0, hw_11_0_p0, hw_11_0_p1⟩ := hw_11_0
          refine lv_if_ne (tgt := 196) hx hb dX10_rule_191 (by decide) (fun _ => ?_) (fun h9 => absurd h9 (by decide))
          refine lv_aload_n hx hb dX10_rule_196 rfl (lv_at hl 3 rfl) ?_
          refine lv_dup hx hb dX10_rule_197 rfl ?_
          refine gs_get (C := RX10) (T := TX10) (N := 59) hx hb hts inX10 hown hK hM 0 0 30 (by decide) rfl rfl (by decide) (hts _ gm_931) (fun _ h9 => h9) rfl dX10_rule_198 ?_
          refine lv_topi (fun x_12 ex_12 => ?_)
          have ex_12 : (st 0 0 30) = x_12 := Eq.symm (ex_12.trans ((n_11.2 0 0 30 (show (30 : Nat) ∉ _ from by decide)).trans ((n_10.2 0 0 30 (show (30 : Nat) ∉ _ from by decide)).trans ((n_9.2 0 0 30 (show (30 : Nat) ∉ _ from by decide)).trans ((congrFun (congrFun (congrFun est_8 0) 0) 30).trans (congrFun (congrFun (gU_k (by decide)) 0) 30))))))
          subst ex_12
          have bf_13 : (0 : Int) ≤ (st 0 0 30).toInt ∧ (st 0 0 30).toInt ≤ (20 : Int) := hB_st.1 0 0 30
          refine lv_iconst (v := 1) hx hb dX10_rule_201 (by decide) ?_
          refine lv_iadd hx hb dX10_rule_202 ?_
          refine lv_topi (fun x_14 ex_14 => ?_)
          try have tx_14 : x_14.toInt = (st 0 0 30).toInt + 1 := by rw [ex_14]; exact gz_addP (x := (st 0 0 30).toInt) (y := 1) rfl (by decide) (by omega) (by omega)
          refine gs_put (C := RX10) (T := TX10) (N := 59) (ty := .int) (val := .int x_14) hx hb hts inX10 tyX10 tyX10_ok nmX10 hown hK hI hm hM hS 0 0 30 (by decide) rfl rfl (by decide) (hts _ gm_931) (fun _ h9 => h9) rfl (x_14 : Int32) rfl (by decide +kernel) rfl rfl (Nat.le_of_ble_eq_true rfl) dX10_rule_203 (fun st_15 H locs est_15 hM hS => ?_)
          have hB_st_15 : gBN bM kM [11, 12, 13, 14, 15, 16, 17, 18, 19, 30, 59, 800, 900, 1000, 1100, 1200, 1300, 1400, 1500] st st_15 := by rw [est_15]; exact hB_st_11.up (show (30 : Nat) ∈ _ from by decide) (show (0 : Int) ≤ x_14.toInt from by omega) (show x_14.toInt ≤ (20 : Int) from by omega)
          refine lv_iconst (v := 1) hx hb dX10_rule_206 (by decide) ?_
          exact gs_iret hx hb hr hlocks hM hS (by decide) ⟨hB_st_15, (Or.inl ⟨rfl, ⟨r9_hw_10_0, e9_hw_11_0, (pRule_0 ((hC.w1 hn8 (show _ ∧ _ ∧ _ from (by decide +kernel : (∀ c ∈ wTurns, 1 ≤ c ∧ c ≤ 255) ∧ wTurns.length ≤ 8 ∧ 0 < pkW wTurns)).1 (show _ ∧ _ ∧ _ from (by decide +kernel : (∀ c ∈ wTurns, 1 ≤ c ∧ c ≤ 255) ∧ wTurns.length ≤ 8 ∧ 0 < pkW wTurns)).2.1 (show _ ∧ _ ∧ _ from (by decide +kernel : (∀ c ∈ wTurns, 1 ≤ c ∧ c ≤ 255) ∧ wTurns.length ≤ 8 ∧ 0 < pkW wTurns)).2.2 hw_1_0.1 (hw_1_0.2.trans (by decide +kernel : _ = lN (pkW wTurns)))).trans (congrArg some (rfl.trans (Eq.symm (congrArg Int32.toInt (((congrFun (congrFun (congrFun est_8 0) 0) 11).trans (congrFun (congrFun (gU_k (by decide)) 0) 11))))))))).trans (pTurns_B.mpr ⟨_, hw_10_0_p0, hw_11_0_p0⟩), (hw_11_0_p1.rows ((congrFun (congrFun (congrFun est_15 0) 0) 11).trans (gU_other (by decide))) ((congrFun (congrFun (congrFun est_15 0) 0) 12).trans (gU_other (by decide))) ((congrFun (congrFun (congrFun est_15 0) 0) 14).trans (gU_other (by decide))) ((congrFun (congrFun (congrFun est_15 0) 0) 17).trans (gU_other (by decide))) ((congrFun (congrFun (congrFun est_15 0) 0) 59).trans (gU_other (by decide)))), hw_10_0_p3, (LM.add hLM hwf (mO.trans (mO.trans (mO.trans (mO.trans (by rw [est_8]; exact mO.up mO.rf (by first | (intro _; rfl) | (intro h9; exact absurd h9 (by decide)) | (intro _; omega)) (by first | (intro h9; exact absurd h9 (by decide)) | (intro _; omega))) (mO.frame n_9.2 (by decide))) hw_10_1) (mO.frame n_11.2 (by decide))) (mO.upk est_15 (by decide))) (by have h8 := gs_cl (x := x_7) (by omega); omega) (by rw [show (st_15 8 0 (x_7.toNatClampNeg)).toInt = 0 from ((congrArg Int32.toInt ((((congrFun (congrFun (congrFun est_15 8) 0) (x_7.toNatClampNeg)).trans (congrFun (congrFun (gU_k (by decide)) 0) (x_7.toNatClampNeg))).trans ((n_11.2 8 0 (x_7.toNatClampNeg) (show (800 : Nat) ∉ _ from by decide)).trans ((n_10.2 8 0 (x_7.toNatClampNeg) (show (800 : Nat) ∉ _ from by decide)).trans ((n_9.2 8 0 (x_7.toNatClampNeg) (show (800 : Nat) ∉ _ from by decide)).trans ((congrFun (congrFun (congrFun est_8 8) 0) (x_7.toNatClampNeg)).trans (gU_same _ _ _ _ _)))))))).trans (by decide))]; rw [hw_10_0_p2]; all_goals first | rfl | decide) hw_10_0_p4 (mA.trans (mA.trans mA.rf (mA.frame n_11.2 (by decide))) (mA.upk est_15 (by decide))))⟩, (by have hl0 : (1 : Int32).toInt = 1 := (by decide); have hq1 : (st_15 0 0 30).toInt = (x_14 : Int32).toInt := congrArg Int32.toInt (((congrFun (congrFun (congrFun est_15 0) 0) 30).trans (gU_same _ _ _ _ _))); have hb2 : (0 : Int) ≤ (st_15 0 0 30).toInt ∧ (st_15 0 0 30).toInt ≤ (20 : Int) := hB_st_15.1 0 0 30; have hb3 : (0 : Int) ≤ (st 0 0 30).toInt ∧ (st 0 0 30).toInt ≤ (20 : Int) := hB_st.1 0 0 30; omega), (LM.oth hLO hwo (mO.trans (mO.trans (mO.trans (mO.trans (by rw [est_8]; exact mO.up mO.rf (by first | (intro _; rfl) | (intro h9; exact absurd h9 (by decide)) | (intro _; omega)) (by first | (intro h9; exact absurd h9 (by decide)) | (intro _; omega))) (mO.frame n_9.2 (by decide))) hw_10_1) (mO.frame n_11.2 (by decide))) (mO.upk est_15 (by decide))) (fun i hi => by have h8 := gs_cl (x := x_7) (by omega); omega))⟩)⟩ (by exact Nat.le_refl _) (by exact Nat.le_refl _) dX10_rule_207
        · skip
          refine lv_if_ne (tgt := 196) hx hb dX10_rule_191 (by decide) (fun h9 => absurd (by decide) h9) (fun _ => ?_)
          refine lv_iconst (v := 0) hx hb dX10_rule_194 (by decide) ?_
          exact gs_iret hx hb hr hlocks hM hS (by decide) ⟨hB_st_11, (Or.inr ⟨rfl, Or.inl ((pRule_0 ((hC.w1 hn8 (show _ ∧ _ ∧ _ from (by decide +kernel : (∀ c ∈ wTurns, 1 ≤ c ∧ c ≤ 255) ∧ wTurns.length ≤ 8 ∧ 0 < pkW wTurns)).1 (show _ ∧ _ ∧ _ from (by decide +kernel : (∀ c ∈ wTurns, 1 ≤ c ∧ c ≤ 255) ∧ wTurns.length ≤ 8 ∧ 0 < pkW wTurns)).2.1 (show _ ∧ _ ∧ _ from (by decide +kernel : (∀ c ∈ wTurns, 1 ≤ c ∧ c ≤ 255) ∧ wTurns.length ≤ 8 ∧ 0 < pkW wTurns)).2.2 hw_1_0.1 (hw_1_0.2.trans (by decide +kernel : _ = lN (pkW wTurns)))).trans (congrArg some (rfl.trans (Eq.symm (congrArg Int32.toInt (((congrFun (congrFun (congrFun est_8 0) 0) 11).trans (congrFun (congrFun (gU_k (by decide)) 0) 11))))))))).trans (noB (fun r9 q9 => pTurns_B) (Or.inr ⟨_, _, hw_10_0_p0, hw_11_0⟩))), (by have hl0 : (0 : Int32).toInt = 0 := (by decide); have hq1 : (st_11 0 0 30).toInt = ((st 0 0 30) : Int32).toInt := congrArg Int32.toInt (((n_11.2 0 0 30 (show (30 : Nat) ∉ _ from by decide)).trans ((n_10.2 0 0 30 (show (30 : Nat) ∉ _ from by decide)).trans ((n_9.2 0 0 30 (show (30 : Nat) ∉ _ from by decide)).trans ((congrFun (congrFun (congrFun est_8 0) 0) 30).trans (congrFun (congrFun (gU_k (by decide)) 0) 30)))))); have hb2 : (0 : Int) ≤ (st_11 0 0 30).toInt ∧ (st_11 0 0 30).toInt ≤ (20 : Int) := hB_st_11.1 0 0 30; have hb3 : (0 : Int) ≤ (st 0 0 30).toInt ∧ (st 0 0 30).toInt ≤ (20 : Int) := hB_st.1 0 0 30; omega), (LM.oth hLO hwo (mO.trans (mO.trans (mO.trans (by rw [est_8]; exact mO.up mO.rf (by first | (intro _; rfl) | (intro h9; exact absurd h9 (by decide)) | (intro _; omega)) (by first | (intro h9; exact absurd h9 (by decide)) | (intro _; omega))) (mO.frame n_9.2 (by decide))) hw_10_1) (mO.frame n_11.2 (by decide))) (fun i hi => by have h8 := gs_cl (x := x_7) (by omega); omega))⟩)⟩ (by exact Nat.le_refl _) (by exact Nat.le_refl _) dX10_rule_195
      · skip
        refine lv_goto (tgt := 180) hx hb dX10_rule_133 (by decide) ?_
        refine lv_istore_n (lv' := [(3, .int 0), (2, .int x_7), (1, .int 0), (0, .ref (ad 0 0))]) hx hb dX10_rule_180 rfl hl (by decide) rfl (fun ls hl => ?_)
        refine lv_iload_n hx hb dX10_rule_181 rfl (lv_at hl 0 rfl) ?_
        refine lv_if_eq (tgt := 194) hx hb dX10_rule_182 (by decide) (fun _ => ?_) (fun h9 => absurd (by decide) h9)
        refine lv_iconst (v := 0) hx hb dX10_rule_194 (by decide) ?_
        exact gs_iret hx hb hr hlocks hM hS (by decide) ⟨hB_st_10, (Or.inr ⟨rfl, Or.inl ((pRule_0 ((hC.w1 hn8 (show _ ∧ _ ∧ _ from (by decide +kernel : (∀ c ∈ wTurns, 1 ≤ c ∧ c ≤ 255) ∧ wTurns.length ≤ 8 ∧ 0 < pkW wTurns)).1 (show _ ∧ _ ∧ _ from (by decide +kernel : (∀ c ∈ wTurns, 1 ≤ c ∧ c ≤ 255) ∧ wTurns.length ≤ 8 ∧ 0 < pkW wTurns)).2.1 (show _ ∧ _ ∧ _ from (by decide +kernel : (∀ c ∈ wTurns, 1 ≤ c ∧ c ≤ 255) ∧ wTurns.length ≤ 8 ∧ 0 < pkW wTurns)).2.2 hw_1_0.1 (hw_1_0.2.trans (by decide +kernel : _ = lN (pkW wTurns)))).trans (congrArg some (rfl.trans (Eq.symm (congrArg Int32.toInt (((congrFun (congrFun (congrFun est_8 0) 0) 11).trans (congrFun (congrFun (gU_k (by decide)) 0) 11))))))))).trans (noB (fun r9 q9 => pTurns_B) (Or.inl hw_10_0))), (by have hl0 : (0 : Int32).toInt = 0 := (by decide); have hq1 : (st_10 0 0 30).toInt = ((st 0 0 30) : Int32).toInt := congrArg Int32.toInt (((n_10.2 0 0 30 (show (30 : Nat) ∉ _ from by decide)).trans ((n_9.2 0 0 30 (show (30 : Nat) ∉ _ from by decide)).trans ((congrFun (congrFun (congrFun est_8 0) 0) 30).trans (congrFun (congrFun (gU_k (by decide)) 0) 30))))); have hb2 : (0 : Int) ≤ (st_10 0 0 30).toInt ∧ (st_10 0 0 30).toInt ≤ (20 : Int) := hB_st_10.1 0 0 30; have hb3 : (0 : Int) ≤ (st 0 0 30).toInt ∧ (st 0 0 30).toInt ≤ (20 : Int) := hB_st.1 0 0 30; omega), (LM.oth hLO hwo (mO.trans (mO.trans (by rw [est_8]; exact mO.up mO.rf (by first | (intro _; rfl) | (intro h9; exact absurd h9 (by decide)) | (intro _; omega)) (by first | (intro h9; exact absurd h9 (by decide)) | (intro _; omega))) (mO.frame n_9.2 (by decide))) hw_10_1) (fun i hi => by have h8 := gs_cl (x := x_7) (by omega); omega))⟩)⟩ (by exact Nat.le_refl _) (by exact Nat.le_refl _) dX10_rule_195
    · have ic_3 := gz_eqn (rfl : (st 0 0 30).toInt = (st 0 0 30).toInt) (by decide : (20 : Int32).toInt = 20) c_3
      refine lv_aload_n hx hb dX10_rule_90 rfl (lv_at hl 1 rfl) ?_
      refine lv_iconst (v := 4) hx hb dX10_rule_91 (by decide) ?_
      refine lv_aload_n hx hb dX10_rule_92 rfl (lv_at hl 1 rfl) ?_
      refine gs_get (C := RX10) (T := TX10) (N := 59) hx hb hts inX10 hown hK hM 0 0 13 (by decide) rfl rfl (by decide) (hts _ gm_914) (fun _ h9 => h9) rfl dX10_rule_93 ?_
      refine gs_calli (va_runV (As := [.int 4, .int (st 0 0 13)]) (rest := []) ⟨hx, hb, hml, hown, hts⟩ (m_wrong l G cy sK sV ad H.size st hB_st.1 (4 : Int32) (st 0 0 13) ) ⟨(gz_cb (n := 2) hts gm_1131 gm_12 gm_1134 ⟨by decide +kernel, by decide +kernel, by decide +kernel⟩ ⟨Nat.le_of_ble_eq_true rfl, Nat.le_of_ble_eq_true rfl⟩), hts _ gm_1133, hts _ gs_37⟩ (gs_preV hK hov hE hI hM hm hS hA 0 0 (by decide) rfl rfl) rfl rfl hl.1 rfl (lv_room (Nat.le_of_ble_eq_true rfl)) dX10_rule_96 ⟨Nat.le_of_ble_eq_true rfl, Nat.le_of_ble_eq_true rfl⟩) hm hS hA (fun r_17 st_17 H locs hw_17 hM hS => ?_)
      obtain ⟨n_17, hw_17⟩ := hw_17
      have hB_st_17 : gBN bM kM [11, 12, 13, 14, 15, 16, 17, 18, 19, 30, 59, 800, 900, 1000, 1100, 1200, 1300, 1400, 1500] st st_17 := hB_st.call n_17 (by decide)
      obtain rfl := hw_17
      exact gs_iret hx hb hr hlocks hM hS (by decide) ⟨hB_st_17, (Or.inr ⟨rfl, Or.inr (by omega), (by have hl0 : (0 : Int32).toInt = 0 := (by decide); have hq1 : (st_17 0 0 30).toInt = ((st 0 0 30) : Int32).toInt := congrArg Int32.toInt ((n_17.2 0 0 30 (show (30 : Nat) ∉ _ from by decide))); have hb2 : (0 : Int) ≤ (st_17 0 0 30).toInt ∧ (st_17 0 0 30).toInt ≤ (20 : Int) := hB_st_17.1 0 0 30; have hb3 : (0 : Int) ≤ (st 0 0 30).toInt ∧ (st 0 0 30).toInt ≤ (20 : Int) := hB_st.1 0 0 30; omega), (LM.all hLO (mA.trans mA.rf (mA.frame n_17.2 (by decide))))⟩)⟩ (by exact Nat.le_refl _) (by exact Nat.le_refl _) dX10_rule_99
  · skip
    refine lv_if_eq (tgt := 14) hx hb dX10_rule_7 (by decide) (fun _ => ?_) (fun h9 => absurd (by decide) h9)
    refine lv_aload_n hx hb dX10_rule_14 rfl (lv_at hl 0 rfl) ?_
    refine lv_ldc2 (v := 444351214452) hx hb hown (hts _ gm_1123) dX10_rule_15 ?_
    refine gs_calli (va_runV (As := [.long (444351214452 : Int64)]) (rest := []) ⟨hx, hb, hml, hown, hts⟩ (m_isWord l G cy sK sV ad H.size st hB_st.1 (444351214452 : Int64) ) ⟨(gz_cb (n := 1) hts gm_1119 gm_12 gm_1122 ⟨by decide +kernel, by decide +kernel, by decide +kernel⟩ ⟨Nat.le_of_ble_eq_true rfl, Nat.le_of_ble_eq_true rfl⟩), hts _ gm_1121, hts _ gs_35⟩ (gs_preV hK hov hE hI hM hm hS hA 0 0 (by decide) rfl rfl) rfl rfl hl.1 rfl (lv_room (Nat.le_of_ble_eq_true rfl)) dX10_rule_18 ⟨Nat.le_of_ble_eq_true rfl, Nat.le_of_ble_eq_true rfl⟩) hm hS hA (fun r_18 st_18 H locs hw_18 hM hS => ?_)
    obtain ⟨n_18, hw_18⟩ := hw_18
    have n_18 := gBN.nil n_18
    subst n_18
    rcases hw_18 with ⟨rfl, hw_18_0⟩ | ⟨rfl, hw_18_0⟩
    · skip
      refine lv_if_eq (tgt := 28) hx hb dX10_rule_21 (by decide) (fun h9 => absurd h9 (by decide)) (fun _ => ?_)
      refine lv_iconst (v := 1) hx hb dX10_rule_24 (by decide) ?_
      refine lv_goto (tgt := 71) hx hb dX10_rule_25 (by decide) ?_
      refine lv_istore_n (lv' := [(1, .int 1), (0, .ref (ad 0 0))]) hx hb dX10_rule_71 rfl hl (by decide) rfl (fun ls hl => ?_)
      refine lv_iload_n hx hb dX10_rule_72 rfl (lv_at hl 0 rfl) ?_
      refine lv_if_ge (tgt := 81) hx hb dX10_rule_73 (by decide) (fun _ => ?_) (fun h9 => absurd (by decide) h9)
      refine lv_aload_n hx hb dX10_rule_81 rfl (lv_at hl 1 rfl) ?_
      refine gs_get (C := RX10) (T := TX10) (N := 59) hx hb hts inX10 hown hK hM 0 0 30 (by decide) rfl rfl (by decide) (hts _ gm_931) (fun _ h9 => h9) rfl dX10_rule_82 ?_
      have bf_19 : (0 : Int) ≤ (st 0 0 30).toInt ∧ (st 0 0 30).toInt ≤ (20 : Int) := hB_st.1 0 0 30
      refine lv_bipush (v := 20) hx hb dX10_rule_85 (by decide) ?_
      refine lv_icmp_ne (tgt := 100) hx hb dX10_rule_87 (by decide) (fun c_20 => ?_) (fun c_20 => ?_)
      · have ic_20 := gz_ne (rfl : (st 0 0 30).toInt = (st 0 0 30).toInt) (by decide : (20 : Int32).toInt = 20) c_20
        refine lv_bipush (v := 24) hx hb dX10_rule_100 (by decide) ?_
        refine lv_aload_n hx hb dX10_rule_102 rfl (lv_at hl 1 rfl) ?_
        refine gs_get (C := RX10) (T := TX10) (N := 59) hx hb hts inX10 hown hK hM 0 0 28 (by decide) rfl rfl (by decide) (hts _ gm_929) (fun _ h9 => h9) rfl dX10_rule_103 ?_
        have bf_21 : (0 : Int) ≤ (st 0 0 28).toInt ∧ (st 0 0 28).toInt ≤ (1 : Int) := hB_st.1 0 0 28
        refine lv_imul hx hb dX10_rule_106 ?_
        refine lv_topi (fun x_22 ex_22 => ?_)
        try have tx_22 : x_22.toInt = 24 * (st 0 0 28).toInt := by rw [ex_22]; exact gz_mulI (x := 24) (y := (st 0 0 28).toInt) (by decide) rfl (by omega) (by omega)
        refine lv_aload_n hx hb dX10_rule_107 rfl (lv_at hl 1 rfl) ?_
        refine gs_get (C := RX10) (T := TX10) (N := 59) hx hb hts inX10 hown hK hM 0 0 30 (by decide) rfl rfl (by decide) (hts _ gm_931) (fun _ h9 => h9) rfl dX10_rule_108 ?_
        have bf_23 : (0 : Int) ≤ (st 0 0 30).toInt ∧ (st 0 0 30).toInt ≤ (20 : Int) := hB_st.1 0 0 30
        refine lv_iadd hx hb dX10_rule_111 ?_
        refine lv_topi (fun x_24 ex_24 => ?_)
        try have tx_24 : x_24.toInt = x_22.toInt + (st 0 0 30).toInt := by rw [ex_24]; exact gz_addI (x := x_22.toInt) (y := (st 0 0 30).toInt) rfl rfl (by omega) (by omega)
        refine lv_istore_n (lv' := [(2, .int x_24), (1, .int 1), (0, .ref (ad 0 0))]) hx hb dX10_rule_112 rfl hl (by decide) rfl (fun ls hl => ?_)
        refine lv_aload_n hx hb dX10_rule_113 rfl (lv_at hl 2 rfl) ?_
        refine gs_get (C := RX10) (T := TX10) (N := 59) hx hb hts inX10 hown hK hM 0 0 20 (by decide) rfl rfl (by decide) (hts _ gm_921) (fun _ h9 => h9) rfl dX10_rule_114 ?_
        refine lv_iload_n hx hb dX10_rule_117 rfl (lv_at hl 0 rfl) ?_
        refine lv_iload_n hx hb dX10_rule_118 rfl (lv_at hl 1 rfl) ?_
        refine gs_iast hx hb hK hI hm hM hS 8 0 (by decide) (fun _ => rfl) (vp_in_iff.mpr ⟨by omega, by omega⟩) dX10_rule_119 (fun st_25 H locs est_25 hM hS => ?_)
        have hB_st_25 : gBN bM kM [11, 12, 13, 14, 15, 16, 17, 18, 19, 30, 59, 800, 900, 1000, 1100, 1200, 1300, 1400, 1500] st st_25 := by rw [est_25]; exact hB_st.up (show (800 : Nat) ∈ _ from by decide) (gi_lo _) (gi_hi _)
        refine lv_aload_n hx hb dX10_rule_120 rfl (lv_at hl 2 rfl) ?_
        refine gs_callv (va_runV (As := []) (rest := []) ⟨hx, hb, hml, hown, hts⟩ (m_next0 l G cy sK sV ad H.size st_25 hB_st_25.1  F N (((congrFun (congrFun est_25 7) 0).trans ((congrFun (gU_k (by decide)) 0).trans rfl)).trans hF) ((congrArg Int32.toInt (((congrFun (congrFun (congrFun est_25 0) 0) 10).trans (congrFun (congrFun (gU_k (by decide)) 0) 10)))).trans hN)) ⟨(gz_cb (n := 0) hts gm_1100 gm_12 gm_1103 ⟨by decide +kernel, by decide +kernel, by decide +kernel⟩ ⟨Nat.le_of_ble_eq_true rfl, Nat.le_of_ble_eq_true rfl⟩), hts _ gm_1102, hts _ gs_32⟩ (gs_preV hK hov hE hI hM hm hS hA 0 0 (by decide) rfl rfl) rfl rfl hl.1 rfl (lv_room (Nat.le_of_ble_eq_true rfl)) dX10_rule_121 ⟨Nat.le_of_ble_eq_true rfl, Nat.le_of_ble_eq_true rfl⟩) hm hS hA (fun st_26 H locs hw_26 hM hS => ?_)
        obtain ⟨n_26, hw_26⟩ := hw_26
        have hB_st_26 : gBN bM kM [11, 12, 13, 14, 15, 16, 17, 18, 19, 30, 59, 800, 900, 1000, 1100, 1200, 1300, 1400, 1500] st st_26 := hB_st_25.call n_26 (by decide)
        have hqhw_260 : (st_25 0 0 11).toInt = ((st 0 0 11) : Int32).toInt := congrArg Int32.toInt (((congrFun (congrFun (congrFun est_25 0) 0) 11).trans (congrFun (congrFun (gU_k (by decide)) 0) 11)))
        have hbhw_261 : (0 : Int) ≤ (st_25 0 0 11).toInt ∧ (st_25 0 0 11).toInt ≤ (800 : Int) := hB_st_25.1 0 0 11
        have hw_26_0 := hw_26
        refine lv_iload_n hx hb dX10_rule_124 rfl (lv_at hl 1 rfl) ?_
        refine lv_if_ne (tgt := 136) hx hb dX10_rule_125 (by decide) (fun _ => ?_) (fun h9 => absurd h9 (by decide))
        refine lv_iload_n hx hb dX10_rule_136 rfl (lv_at hl 1 rfl) ?_
        refine lv_iconst (v := 1) hx hb dX10_rule_137 (by decide) ?_
        refine lv_icmp_ne (tgt := 149) hx hb dX10_rule_138 (by decide) (fun h9 => absurd (by decide) h9) (fun _ => ?_)
        refine lv_aload_n hx hb dX10_rule_141 rfl (lv_at hl 2 rfl) ?_
        refine lv_iload_n hx hb dX10_rule_142 rfl (lv_at hl 0 rfl) ?_
        refine gs_calli (va_runV (As := [.int x_24]) (rest := []) ⟨hx, hb, hml, hown, hts⟩ (m_guest l G cy sK sV ad H.size st_26 hB_st_26.1 x_24 x_24.toInt rfl (by first | decide | omega) (by first | decide | omega) F N (((funext (fun j9 => n_26.2 7 0 j9 (show (700 : Nat) ∉ _ from by decide))).trans ((congrFun (congrFun est_25 7) 0).trans ((congrFun (gU_k (by decide)) 0).trans rfl))).trans hF) ((congrArg Int32.toInt (((n_26.2 0 0 10 (show (10 : Nat) ∉ _ from by decide)).trans ((congrFun (congrFun (congrFun est_25 0) 0) 10).trans (congrFun (congrFun (gU_k (by decide)) 0) 10))))).trans hN) ((st_25 0 0 11).toInt) hw_26_0) ⟨(gz_cb (n := 1) hts gm_1153 gm_12 gm_1156 ⟨by decide +kernel, by decide +kernel, by decide +kernel⟩ ⟨Nat.le_of_ble_eq_true rfl, Nat.le_of_ble_eq_true rfl⟩), hts _ gm_1155, hts _ gs_42⟩ (gs_preV hK hov hE hI hM hm hS hA 0 0 (by decide) rfl rfl) rfl rfl hl.1 rfl (lv_room (Nat.le_of_ble_eq_true rfl)) dX10_rule_143 ⟨Nat.le_of_ble_eq_true rfl, Nat.le_of_ble_eq_true rfl⟩) hm hS hA (fun r_27 st_27 H locs hw_27 hM hS => ?_)
        obtain ⟨n_27, hw_27⟩ := hw_27
        have hB_st_27 : gBN bM kM [11, 12, 13, 14, 15, 16, 17, 18, 19, 30, 59, 800, 900, 1000, 1100, 1200, 1300, 1400, 1500] st st_27 := hB_st_26.call n_27 (by decide)
        rcases hw_27 with ⟨rfl, hw_27_0, hw_27_1⟩ | ⟨rfl, hw_27_0, hw_27_1⟩
        · skip
          obtain ⟨r9_hw_27_0, e9_hw_27_0, hw_27_0_p0, hw_27_0_p1, hw_27_0_p2, hw_27_0_p3, hw_27_0_p4⟩ := hw_27_0
          refine lv_goto (tgt := 180) hx hb dX10_rule_146 (by decide) ?_
          refine lv_istore_n (lv' := [(3, .int 1), (2, .int x_24), (1, .int 1), (0, .ref (ad 0 0))]) hx hb dX10_rule_180 rfl hl (by decide) rfl (fun ls hl => ?_)
          refine lv_iload_n hx hb dX10_rule_181 rfl (lv_at hl 0 rfl) ?_
          refine lv_if_eq (tgt := 194) hx hb dX10_rule_182 (by decide) (fun h9 => absurd h9 (by decide)) (fun _ => ?_)
          refine lv_aload_n hx hb dX10_rule_185 rfl (lv_at hl 3 rfl) ?_
          refine lv_bipush (v := 59) hx hb dX10_rule_186 (by decide) ?_
          refine gs_calli (va_runV (As := [.int 59]) (rest := []) ⟨hx, hb, hml, hown, hts⟩ (m_must l G cy sK sV ad H.size st_27 hB_st_27.1 (59 : Int32) 59 (by decide) F N (((funext (fun j9 => n_27.2 7 0 j9 (show (700 : Nat) ∉ _ from by decide))).trans ((funext (fun j9 => n_26.2 7 0 j9 (show (700 : Nat) ∉ _ from by decide))).trans ((congrFun (congrFun est_25 7) 0).trans ((congrFun (gU_k (by decide)) 0).trans rfl)))).trans hF) ((congrArg Int32.toInt (((n_27.2 0 0 10 (show (10 : Nat) ∉ _ from by decide)).trans ((n_26.2 0 0 10 (show (10 : Nat) ∉ _ from by decide)).trans ((congrFun (congrFun (congrFun est_25 0) 0) 10).trans (congrFun (congrFun (gU_k (by decide)) 0) 10)))))).trans hN) e9_hw_27_0 hw_27_0_p1) ⟨(gz_cb (n := 1) hts gm_1143 gm_12 gm_1146 ⟨by decide +kernel, by decide +kernel, by decide +kernel⟩ ⟨Nat.le_of_ble_eq_true rfl, Nat.le_of_ble_eq_true rfl⟩), hts _ gm_1145, hts _ gs_40⟩ (gs_preV hK hov hE hI hM hm hS hA 0 0 (by decide) rfl rfl) rfl rfl hl.1 rfl (lv_room (Nat.le_of_ble_eq_true rfl)) dX10_rule_188 ⟨Nat.le_of_ble_eq_true rfl, Nat.le_of_ble_eq_true rfl⟩) hm hS hA (fun r_28 st_28 H locs hw_28 hM hS => ?_)
          obtain ⟨n_28, hw_28⟩ := hw_28
          have hB_st_28 : gBN bM kM [11, 12, 13, 14, 15, 16, 17, 18, 19, 30, 59, 800, 900, 1000, 1100, 1200, 1300, 1400, 1500] st st_28 := hB_st_27.call n_28 (by decide)
          rcases hw_28 with ⟨rfl, hw_28_0⟩ | ⟨rfl, hw_28_0⟩
          · skip
            obtain ⟨e9_hw_28_0, hw_28_0_p0, hw_28_0_p1⟩ := hw_28_0
            refine lv_if_ne (tgt := 196) hx hb dX10_rule_191 (by decide) (fun _ => ?_) (fun h9 => absurd h9 (by decide))
            refine lv_aload_n hx hb dX10_rule_196 rfl (lv_at hl 3 rfl) ?_
            refine lv_dup hx hb dX10_rule_197 rfl ?_
            refine gs_get (C := RX10) (T := TX10) (N := 59) hx hb hts inX10 hown hK hM 0 0 30 (by decide) rfl rfl (by decide) (hts _ gm_931) (fun _ h9 => h9) rfl dX10_rule_198 ?_
            refine lv_topi (fun x_29 ex_29 => ?_)
            have ex_29 : (st 0 0 30) = x_29 := Eq.symm (ex_29.trans ((n_28.2 0 0 30 (show (30 : Nat) ∉ _ from by decide)).trans ((n_27.2 0 0 30 (show (30 : Nat) ∉ _ from by decide)).trans ((n_26.2 0 0 30 (show (30 : Nat) ∉ _ from by decide)).trans ((congrFun (congrFun (congrFun est_25 0) 0) 30).trans (congrFun (congrFun (gU_k (by decide)) 0) 30))))))
            subst ex_29
            have bf_30 : (0 : Int) ≤ (st 0 0 30).toInt ∧ (st 0 0 30).toInt ≤ (20 : Int) := hB_st.1 0 0 30
            refine lv_iconst (v := 1) hx hb dX10_rule_201 (by decide) ?_
            refine lv_iadd hx hb dX10_rule_202 ?_
            refine lv_topi (fun x_31 ex_31 => ?_)
            try have tx_31 : x_31.toInt = (st 0 0 30).toInt + 1 := by rw [ex_31]; exact gz_addP (x := (st 0 0 30).toInt) (y := 1) rfl (by decide) (by omega) (by omega)
            refine gs_put (C := RX10) (T := TX10) (N := 59) (ty := .int) (val := .int x_31) hx hb hts inX10 tyX10 tyX10_ok nmX10 hown hK hI hm hM hS 0 0 30 (by decide) rfl rfl (by decide) (hts _ gm_931) (fun _ h9 => h9) rfl (x_31 : Int32) rfl (by decide +kernel) rfl rfl (Nat.le_of_ble_eq_true rfl) dX10_rule_203 (fun st_32 H locs est_32 hM hS => ?_)
            have hB_st_32 : gBN bM kM [11, 12, 13, 14, 15, 16, 17, 18, 19, 30, 59, 800, 900, 1000, 1100, 1200, 1300, 1400, 1500] st st_32 := by rw [est_32]; exact hB_st_28.up (show (30 : Nat) ∈ _ from by decide) (show (0 : Int) ≤ x_31.toInt from by omega) (show x_31.toInt ≤ (20 : Int) from by omega)
            refine lv_iconst (v := 1) hx hb dX10_rule_206 (by decide) ?_
            exact gs_iret hx hb hr hlocks hM hS (by decide) ⟨hB_st_32, (Or.inl ⟨rfl, ⟨r9_hw_27_0, e9_hw_28_0, (pRule_1 (hC.w0 hn8 (show _ ∧ _ ∧ _ from (by decide +kernel : (∀ c ∈ wTurns, 1 ≤ c ∧ c ≤ 255) ∧ wTurns.length ≤ 8 ∧ 0 < pkW wTurns)).1 (show _ ∧ _ ∧ _ from (by decide +kernel : (∀ c ∈ wTurns, 1 ≤ c ∧ c ≤ 255) ∧ wTurns.length ≤ 8 ∧ 0 < pkW wTurns)).2.1 (show _ ∧ _ ∧ _ from (by decide +kernel : (∀ c ∈ wTurns, 1 ≤ c ∧ c ≤ 255) ∧ wTurns.length ≤ 8 ∧ 0 < pkW wTurns)).2.2 (fun h9 => hw_1_0 ⟨h9.1, h9.2.trans (Eq.symm (by decide +kernel : _ = lN (pkW wTurns)))⟩)) ((hC.w1 hn8 (show _ ∧ _ ∧ _ from (by decide +kernel : (∀ c ∈ wGuest, 1 ≤ c ∧ c ≤ 255) ∧ wGuest.length ≤ 8 ∧ 0 < pkW wGuest)).1 (show _ ∧ _ ∧ _ from (by decide +kernel : (∀ c ∈ wGuest, 1 ≤ c ∧ c ≤ 255) ∧ wGuest.length ≤ 8 ∧ 0 < pkW wGuest)).2.1 (show _ ∧ _ ∧ _ from (by decide +kernel : (∀ c ∈ wGuest, 1 ≤ c ∧ c ≤ 255) ∧ wGuest.length ≤ 8 ∧ 0 < pkW wGuest)).2.2 hw_18_0.1 (hw_18_0.2.trans (by decide +kernel : _ = lN (pkW wGuest)))).trans (congrArg some (rfl.trans (Eq.symm (congrArg Int32.toInt (((congrFun (congrFun (congrFun est_25 0) 0) 11).trans (congrFun (congrFun (gU_k (by decide)) 0) 11))))))))).trans (pGuest_B.mpr ⟨_, hw_27_0_p0, hw_28_0_p0⟩), (hw_28_0_p1.rows ((congrFun (congrFun (congrFun est_32 0) 0) 11).trans (gU_other (by decide))) ((congrFun (congrFun (congrFun est_32 0) 0) 12).trans (gU_other (by decide))) ((congrFun (congrFun (congrFun est_32 0) 0) 14).trans (gU_other (by decide))) ((congrFun (congrFun (congrFun est_32 0) 0) 17).trans (gU_other (by decide))) ((congrFun (congrFun (congrFun est_32 0) 0) 59).trans (gU_other (by decide)))), hw_27_0_p3, (LM.add hLM hwf (mO.trans (mO.trans (mO.trans (mO.trans (by rw [est_25]; exact mO.up mO.rf (by first | (intro _; rfl) | (intro h9; exact absurd h9 (by decide)) | (intro _; omega)) (by first | (intro h9; exact absurd h9 (by decide)) | (intro _; omega))) (mO.frame n_26.2 (by decide))) hw_27_1) (mO.frame n_28.2 (by decide))) (mO.upk est_32 (by decide))) (by have h8 := gs_cl (x := x_24) (by omega); omega) (by rw [show (st_32 8 0 (x_24.toNatClampNeg)).toInt = 1 from ((congrArg Int32.toInt ((((congrFun (congrFun (congrFun est_32 8) 0) (x_24.toNatClampNeg)).trans (congrFun (congrFun (gU_k (by decide)) 0) (x_24.toNatClampNeg))).trans ((n_28.2 8 0 (x_24.toNatClampNeg) (show (800 : Nat) ∉ _ from by decide)).trans ((n_27.2 8 0 (x_24.toNatClampNeg) (show (800 : Nat) ∉ _ from by decide)).trans ((n_26.2 8 0 (x_24.toNatClampNeg) (show (800 : Nat) ∉ _ from by decide)).trans ((congrFun (congrFun (congrFun est_25 8) 0) (x_24.toNatClampNeg)).trans (gU_same _ _ _ _ _)))))))).trans (by decide))]; rw [hw_27_0_p2]; all_goals first | rfl | decide) hw_27_0_p4 (mA.trans (mA.trans mA.rf (mA.frame n_28.2 (by decide))) (mA.upk est_32 (by decide))))⟩, (by have hl0 : (1 : Int32).toInt = 1 := (by decide); have hq1 : (st_32 0 0 30).toInt = (x_31 : Int32).toInt := congrArg Int32.toInt (((congrFun (congrFun (congrFun est_32 0) 0) 30).trans (gU_same _ _ _ _ _))); have hb2 : (0 : Int) ≤ (st_32 0 0 30).toInt ∧ (st_32 0 0 30).toInt ≤ (20 : Int) := hB_st_32.1 0 0 30; have hb3 : (0 : Int) ≤ (st 0 0 30).toInt ∧ (st 0 0 30).toInt ≤ (20 : Int) := hB_st.1 0 0 30; omega), (LM.oth hLO hwo (mO.trans (mO.trans (mO.trans (mO.trans (by rw [est_25]; exact mO.up mO.rf (by first | (intro _; rfl) | (intro h9; exact absurd h9 (by decide)) | (intro _; omega)) (by first | (intro h9; exact absurd h9 (by decide)) | (intro _; omega))) (mO.frame n_26.2 (by decide))) hw_27_1) (mO.frame n_28.2 (by decide))) (mO.upk est_32 (by decide))) (fun i hi => by have h8 := gs_cl (x := x_24) (by omega); omega))⟩)⟩ (by exact Nat.le_refl _) (by exact Nat.le_refl _) dX10_rule_207
          · skip
            refine lv_if_ne (tgt := 196) hx hb dX10_rule_191 (by decide) (fun h9 => absurd (by decide) h9) (fun _ => ?_)
            refine lv_iconst (v := 0) hx hb dX10_rule_194 (by decide) ?_
            exact gs_iret hx hb hr hlocks hM hS (by decide) ⟨hB_st_28, (Or.inr ⟨rfl, Or.inl ((pRule_1 (hC.w0 hn8 (show _ ∧ _ ∧ _ from (by decide +kernel : (∀ c ∈ wTurns, 1 ≤ c ∧ c ≤ 255) ∧ wTurns.length ≤ 8 ∧ 0 < pkW wTurns)).1 (show _ ∧ _ ∧ _ from (by decide +kernel : (∀ c ∈ wTurns, 1 ≤ c ∧ c ≤ 255) ∧ wTurns.length ≤ 8 ∧ 0 < pkW wTurns)).2.1 (show _ ∧ _ ∧ _ from (by decide +kernel : (∀ c ∈ wTurns, 1 ≤ c ∧ c ≤ 255) ∧ wTurns.length ≤ 8 ∧ 0 < pkW wTurns)).2.2 (fun h9 => hw_1_0 ⟨h9.1, h9.2.trans (Eq.symm (by decide +kernel : _ = lN (pkW wTurns)))⟩)) ((hC.w1 hn8 (show _ ∧ _ ∧ _ from (by decide +kernel : (∀ c ∈ wGuest, 1 ≤ c ∧ c ≤ 255) ∧ wGuest.length ≤ 8 ∧ 0 < pkW wGuest)).1 (show _ ∧ _ ∧ _ from (by decide +kernel : (∀ c ∈ wGuest, 1 ≤ c ∧ c ≤ 255) ∧ wGuest.length ≤ 8 ∧ 0 < pkW wGuest)).2.1 (show _ ∧ _ ∧ _ from (by decide +kernel : (∀ c ∈ wGuest, 1 ≤ c ∧ c ≤ 255) ∧ wGuest.length ≤ 8 ∧ 0 < pkW wGuest)).2.2 hw_18_0.1 (hw_18_0.2.trans (by decide +kernel : _ = lN (pkW wGuest)))).trans (congrArg some (rfl.trans (Eq.symm (congrArg Int32.toInt (((congrFun (congrFun (congrFun est_25 0) 0) 11).trans (congrFun (congrFun (gU_k (by decide)) 0) 11))))))))).trans (noB (fun r9 q9 => pGuest_B) (Or.inr ⟨_, _, hw_27_0_p0, hw_28_0⟩))), (by have hl0 : (0 : Int32).toInt = 0 := (by decide); have hq1 : (st_28 0 0 30).toInt = ((st 0 0 30) : Int32).toInt := congrArg Int32.toInt (((n_28.2 0 0 30 (show (30 : Nat) ∉ _ from by decide)).trans ((n_27.2 0 0 30 (show (30 : Nat) ∉ _ from by decide)).trans ((n_26.2 0 0 30 (show (30 : Nat) ∉ _ from by decide)).trans ((congrFun (congrFun (congrFun est_25 0) 0) 30).trans (congrFun (congrFun (gU_k (by decide)) 0) 30)))))); have hb2 : (0 : Int) ≤ (st_28 0 0 30).toInt ∧ (st_28 0 0 30).toInt ≤ (20 : Int) := hB_st_28.1 0 0 30; have hb3 : (0 : Int) ≤ (st 0 0 30).toInt ∧ (st 0 0 30).toInt ≤ (20 : Int) := hB_st.1 0 0 30; omega), (LM.oth hLO hwo (mO.trans (mO.trans (mO.trans (by rw [est_25]; exact mO.up mO.rf (by first | (intro _; rfl) | (intro h9; exact absurd h9 (by decide)) | (intro _; omega)) (by first | (intro h9; exact absurd h9 (by decide)) | (intro _; omega))) (mO.frame n_26.2 (by decide))) hw_27_1) (mO.frame n_28.2 (by decide))) (fun i hi => by have h8 := gs_cl (x := x_24) (by omega); omega))⟩)⟩ (by exact Nat.le_refl _) (by exact Nat.le_refl _) dX10_rule_195
        · skip
          refine lv_goto (tgt := 180) hx hb dX10_rule_146 (by decide) ?_
          refine lv_istore_n (lv' := [(3, .int 0), (2, .int x_24), (1, .int 1), (0, .ref (ad 0 0))]) hx hb dX10_rule_180 rfl hl (by decide) rfl (fun ls hl => ?_)
          refine lv_iload_n hx hb dX10_rule_181 rfl (lv_at hl 0 rfl) ?_
          refine lv_if_eq (tgt := 194) hx hb dX10_rule_182 (by decide) (fun _ => ?_) (fun h9 => absurd (by decide) h9)
          refine lv_iconst (v := 0) hx hb dX10_rule_194 (by decide) ?_
          exact gs_iret hx hb hr hlocks hM hS (by decide) ⟨hB_st_27, (Or.inr ⟨rfl, Or.inl ((pRule_1 (hC.w0 hn8 (show _ ∧ _ ∧ _ from (by decide +kernel : (∀ c ∈ wTurns, 1 ≤ c ∧ c ≤ 255) ∧ wTurns.length ≤ 8 ∧ 0 < pkW wTurns)).1 (show _ ∧ _ ∧ _ from (by decide +kernel : (∀ c ∈ wTurns, 1 ≤ c ∧ c ≤ 255) ∧ wTurns.length ≤ 8 ∧ 0 < pkW wTurns)).2.1 (show _ ∧ _ ∧ _ from (by decide +kernel : (∀ c ∈ wTurns, 1 ≤ c ∧ c ≤ 255) ∧ wTurns.length ≤ 8 ∧ 0 < pkW wTurns)).2.2 (fun h9 => hw_1_0 ⟨h9.1, h9.2.trans (Eq.symm (by decide +kernel : _ = lN (pkW wTurns)))⟩)) ((hC.w1 hn8 (show _ ∧ _ ∧ _ from (by decide +kernel : (∀ c ∈ wGuest, 1 ≤ c ∧ c ≤ 255) ∧ wGuest.length ≤ 8 ∧ 0 < pkW wGuest)).1 (show _ ∧ _ ∧ _ from (by decide +kernel : (∀ c ∈ wGuest, 1 ≤ c ∧ c ≤ 255) ∧ wGuest.length ≤ 8 ∧ 0 < pkW wGuest)).2.1 (show _ ∧ _ ∧ _ from (by decide +kernel : (∀ c ∈ wGuest, 1 ≤ c ∧ c ≤ 255) ∧ wGuest.length ≤ 8 ∧ 0 < pkW wGuest)).2.2 hw_18_0.1 (hw_18_0.2.trans (by decide +kernel : _ = lN (pkW wGuest)))).trans (congrArg some (rfl.trans (Eq.symm (congrArg Int32.toInt (((congrFun (congrFun (congrFun est_25 0) 0) 11).trans (congrFun (congrFun (gU_k (by decide)) 0) 11))))))))).trans (noB (fun r9 q9 => pGuest_B) (Or.inl hw_27_0))), (by have hl0 : (0 : Int32).toInt = 0 := (by decide); have hq1 : (st_27 0 0 30).toInt = ((st 0 0 30) : Int32).toInt := congrArg Int32.toInt (((n_27.2 0 0 30 (show (30 : Nat) ∉ _ from by decide)).trans ((n_26.2 0 0 30 (show (30 : Nat) ∉ _ from by decide)).trans ((congrFun (congrFun (congrFun est_25 0) 0) 30).trans (congrFun (congrFun (gU_k (by decide)) 0) 30))))); have hb2 : (0 : Int) ≤ (st_27 0 0 30).toInt ∧ (st_27 0 0 30).toInt ≤ (20 : Int) := hB_st_27.1 0 0 30; have hb3 : (0 : Int) ≤ (st 0 0 30).toInt ∧ (st 0 0 30).toInt ≤ (20 : Int) := hB_st.1 0 0 30; omega), (LM.oth hLO hwo (mO.trans (mO.trans (by rw [est_25]; exact mO.up mO.rf (by first | (intro _; rfl) | (intro h9; exact absurd h9 (by decide)) | (intro _; omega)) (by first | (intro h9; exact absurd h9 (by decide)) | (intro _; omega))) (mO.frame n_26.2 (by decide))) hw_27_1) (fun i hi => by have h8 := gs_cl (x := x_24) (by omega); omega))⟩)⟩ (by exact Nat.le_refl _) (by exact Nat.le_refl _) dX10_rule_195
      · have ic_20 := gz_eqn (rfl : (st 0 0 30).toInt = (st 0 0 30).toInt) (by decide : (20 : Int32).toInt = 20) c_20
        refine lv_aload_n hx hb dX10_rule_90 rfl (lv_at hl 1 rfl) ?_
        refine lv_iconst (v := 4) hx hb dX10_rule_91 (by decide) ?_
        refine lv_aload_n hx hb dX10_rule_92 rfl (lv_at hl 1 rfl) ?_
        refine gs_get (C := RX10) (T := TX10) (N := 59) hx hb hts inX10 hown hK hM 0 0 13 (by decide) rfl rfl (by decide) (hts _ gm_914) (fun _ h9 => h9) rfl dX10_rule_93 ?_
        refine gs_calli (va_runV (As := [.int 4, .int (st 0 0 13)]) (rest := []) ⟨hx, hb, hml, hown, hts⟩ (m_wrong l G cy sK sV ad H.size st hB_st.1 (4 : Int32) (st 0 0 13) ) ⟨(gz_cb (n := 2) hts gm_1131 gm_12 gm_1134 ⟨by decide +kernel, by decide +kernel, by decide +kernel⟩ ⟨Nat.le_of_ble_eq_true rfl, Nat.le_of_ble_eq_true rfl⟩), hts _ gm_1133, hts _ gs_37⟩ (gs_preV hK hov hE hI hM hm hS hA 0 0 (by decide) rfl rfl) rfl rfl hl.1 rfl (lv_room (Nat.le_of_ble_eq_true rfl)) dX10_rule_96 ⟨Nat.le_of_ble_eq_true rfl, Nat.le_of_ble_eq_true rfl⟩) hm hS hA (fun r_34 st_34 H locs hw_34 hM hS => ?_)
        obtain ⟨n_34, hw_34⟩ := hw_34
        have hB_st_34 : gBN bM kM [11, 12, 13, 14, 15, 16, 17, 18, 19, 30, 59, 800, 900, 1000, 1100, 1200, 1300, 1400, 1500] st st_34 := hB_st.call n_34 (by decide)
        obtain rfl := hw_34
        exact gs_iret hx hb hr hlocks hM hS (by decide) ⟨hB_st_34, (Or.inr ⟨rfl, Or.inr (by omega), (by have hl0 : (0 : Int32).toInt = 0 := (by decide); have hq1 : (st_34 0 0 30).toInt = ((st 0 0 30) : Int32).toInt := congrArg Int32.toInt ((n_34.2 0 0 30 (show (30 : Nat) ∉ _ from by decide))); have hb2 : (0 : Int) ≤ (st_34 0 0 30).toInt ∧ (st_34 0 0 30).toInt ≤ (20 : Int) := hB_st_34.1 0 0 30; have hb3 : (0 : Int) ≤ (st 0 0 30).toInt ∧ (st 0 0 30).toInt ≤ (20 : Int) := hB_st.1 0 0 30; omega), (LM.all hLO (mA.trans mA.rf (mA.frame n_34.2 (by decide))))⟩)⟩ (by exact Nat.le_refl _) (by exact Nat.le_refl _) dX10_rule_99
    · skip
      refine lv_if_eq (tgt := 28) hx hb dX10_rule_21 (by decide) (fun _ => ?_) (fun h9 => absurd (by decide) h9)
      refine lv_aload_n hx hb dX10_rule_28 rfl (lv_at hl 0 rfl) ?_
      refine lv_ldc2 (v := 7824740) hx hb hown (hts _ gm_1124) dX10_rule_29 ?_
      refine gs_calli (va_runV (As := [.long (7824740 : Int64)]) (rest := []) ⟨hx, hb, hml, hown, hts⟩ (m_isWord l G cy sK sV ad H.size st hB_st.1 (7824740 : Int64) ) ⟨(gz_cb (n := 1) hts gm_1119 gm_12 gm_1122 ⟨by decide +kernel, by decide +kernel, by decide +kernel⟩ ⟨Nat.le_of_ble_eq_true rfl, Nat.le_of_ble_eq_true rfl⟩), hts _ gm_1121, hts _ gs_35⟩ (gs_preV hK hov hE hI hM hm hS hA 0 0 (by decide) rfl rfl) rfl rfl hl.1 rfl (lv_room (Nat.le_of_ble_eq_true rfl)) dX10_rule_32 ⟨Nat.le_of_ble_eq_true rfl, Nat.le_of_ble_eq_true rfl⟩) hm hS hA (fun r_35 st_35 H locs hw_35 hM hS => ?_)
      obtain ⟨n_35, hw_35⟩ := hw_35
      have n_35 := gBN.nil n_35
      subst n_35
      rcases hw_35 with ⟨rfl, hw_35_0⟩ | ⟨rfl, hw_35_0⟩
      · skip
        refine lv_if_eq (tgt := 42) hx hb dX10_rule_35 (by decide) (fun h9 => absurd h9 (by decide)) (fun _ => ?_)
        refine lv_iconst (v := 2) hx hb dX10_rule_38 (by decide) ?_
        refine lv_goto (tgt := 71) hx hb dX10_rule_39 (by decide) ?_
        refine lv_istore_n (lv' := [(1, .int 2), (0, .ref (ad 0 0))]) hx hb dX10_rule_71 rfl hl (by decide) rfl (fun ls hl => ?_)
        refine lv_iload_n hx hb dX10_rule_72 rfl (lv_at hl 0 rfl) ?_
        refine lv_if_ge (tgt := 81) hx hb dX10_rule_73 (by decide) (fun _ => ?_) (fun h9 => absurd (by decide) h9)
        refine lv_aload_n hx hb dX10_rule_81 rfl (lv_at hl 1 rfl) ?_
        refine gs_get (C := RX10) (T := TX10) (N := 59) hx hb hts inX10 hown hK hM 0 0 30 (by decide) rfl rfl (by decide) (hts _ gm_931) (fun _ h9 => h9) rfl dX10_rule_82 ?_
        have bf_36 : (0 : Int) ≤ (st 0 0 30).toInt ∧ (st 0 0 30).toInt ≤ (20 : Int) := hB_st.1 0 0 30
        refine lv_bipush (v := 20) hx hb dX10_rule_85 (by decide) ?_
        refine lv_icmp_ne (tgt := 100) hx hb dX10_rule_87 (by decide) (fun c_37 => ?_) (fun c_37 => ?_)
        · have ic_37 := gz_ne (rfl : (st 0 0 30).toInt = (st 0 0 30).toInt) (by decide : (20 : Int32).toInt = 20) c_37
          refine lv_bipush (v := 24) hx hb dX10_rule_100 (by decide) ?_
          refine lv_aload_n hx hb dX10_rule_102 rfl (lv_at hl 1 rfl) ?_
          refine gs_get (C := RX10) (T := TX10) (N := 59) hx hb hts inX10 hown hK hM 0 0 28 (by decide) rfl rfl (by decide) (hts _ gm_929) (fun _ h9 => h9) rfl dX10_rule_103 ?_
          have bf_38 : (0 : Int) ≤ (st 0 0 28).toInt ∧ (st 0 0 28).toInt ≤ (1 : Int) := hB_st.1 0 0 28
          refine lv_imul hx hb dX10_rule_106 ?_
          refine lv_topi (fun x_39 ex_39 => ?_)
          try have tx_39 : x_39.toInt = 24 * (st 0 0 28).toInt := by rw [ex_39]; exact gz_mulI (x := 24) (y := (st 0 0 28).toInt) (by decide) rfl (by omega) (by omega)
          refine lv_aload_n hx hb dX10_rule_107 rfl (lv_at hl 1 rfl) ?_
          refine gs_get (C := RX10) (T := TX10) (N := 59) hx hb hts inX10 hown hK hM 0 0 30 (by decide) rfl rfl (by decide) (hts _ gm_931) (fun _ h9 => h9) rfl dX10_rule_108 ?_
          have bf_40 : (0 : Int) ≤ (st 0 0 30).toInt ∧ (st 0 0 30).toInt ≤ (20 : Int) := hB_st.1 0 0 30
          refine lv_iadd hx hb dX10_rule_111 ?_
          refine lv_topi (fun x_41 ex_41 => ?_)
          try have tx_41 : x_41.toInt = x_39.toInt + (st 0 0 30).toInt := by rw [ex_41]; exact gz_addI (x := x_39.toInt) (y := (st 0 0 30).toInt) rfl rfl (by omega) (by omega)
          refine lv_istore_n (lv' := [(2, .int x_41), (1, .int 2), (0, .ref (ad 0 0))]) hx hb dX10_rule_112 rfl hl (by decide) rfl (fun ls hl => ?_)
          refine lv_aload_n hx hb dX10_rule_113 rfl (lv_at hl 2 rfl) ?_
          refine gs_get (C := RX10) (T := TX10) (N := 59) hx hb hts inX10 hown hK hM 0 0 20 (by decide) rfl rfl (by decide) (hts _ gm_921) (fun _ h9 => h9) rfl dX10_rule_114 ?_
          refine lv_iload_n hx hb dX10_rule_117 rfl (lv_at hl 0 rfl) ?_
          refine lv_iload_n hx hb dX10_rule_118 rfl (lv_at hl 1 rfl) ?_
          refine gs_iast hx hb hK hI hm hM hS 8 0 (by decide) (fun _ => rfl) (vp_in_iff.mpr ⟨by omega, by omega⟩) dX10_rule_119 (fun st_42 H locs est_42 hM hS => ?_)
          have hB_st_42 : gBN bM kM [11, 12, 13, 14, 15, 16, 17, 18, 19, 30, 59, 800, 900, 1000, 1100, 1200, 1300, 1400, 1500] st st_42 := by rw [est_42]; exact hB_st.up (show (800 : Nat) ∈ _ from by decide) (gi_lo _) (gi_hi _)
          refine lv_aload_n hx hb dX10_rule_120 rfl (lv_at hl 2 rfl) ?_
          refine gs_callv (va_runV (As := []) (rest := []) ⟨hx, hb, hml, hown, hts⟩ (m_next0 l G cy sK sV ad H.size st_42 hB_st_42.1  F N (((congrFun (congrFun est_42 7) 0).trans ((congrFun (gU_k (by decide)) 0).trans rfl)).trans hF) ((congrArg Int32.toInt (((congrFun (congrFun (congrFun est_42 0) 0) 10).trans (congrFun (congrFun (gU_k (by decide)) 0) 10)))).trans hN)) ⟨(gz_cb (n := 0) hts gm_1100 gm_12 gm_1103 ⟨by decide +kernel, by decide +kernel, by decide +kernel⟩ ⟨Nat.le_of_ble_eq_true rfl, Nat.le_of_ble_eq_true rfl⟩), hts _ gm_1102, hts _ gs_32⟩ (gs_preV hK hov hE hI hM hm hS hA 0 0 (by decide) rfl rfl) rfl rfl hl.1 rfl (lv_room (Nat.le_of_ble_eq_true rfl)) dX10_rule_121 ⟨Nat.le_of_ble_eq_true rfl, Nat.le_of_ble_eq_true rfl⟩) hm hS hA (fun st_43 H locs hw_43 hM hS => ?_)
          obtain ⟨n_43, hw_43⟩ := hw_43
          have hB_st_43 : gBN bM kM [11, 12, 13, 14, 15, 16, 17, 18, 19, 30, 59, 800, 900, 1000, 1100, 1200, 1300, 1400, 1500] st st_43 := hB_st_42.call n_43 (by decide)
          have hqhw_430 : (st_42 0 0 11).toInt = ((st 0 0 11) : Int32).toInt := congrArg Int32.toInt (((congrFun (congrFun (congrFun est_42 0) 0) 11).trans (congrFun (congrFun (gU_k (by decide)) 0) 11)))
          have hbhw_431 : (0 : Int) ≤ (st_42 0 0 11).toInt ∧ (st_42 0 0 11).toInt ≤ (800 : Int) := hB_st_42.1 0 0 11
          have hw_43_0 := hw_43
          refine lv_iload_n hx hb dX10_rule_124 rfl (lv_at hl 1 rfl) ?_
          refine lv_if_ne (tgt := 136) hx hb dX10_rule_125 (by decide) (fun _ => ?_) (fun h9 => absurd h9 (by decide))
          refine lv_iload_n hx hb dX10_rule_136 rfl (lv_at hl 1 rfl) ?_
          refine lv_iconst (v := 1) hx hb dX10_rule_137 (by decide) ?_
          refine lv_icmp_ne (tgt := 149) hx hb dX10_rule_138 (by decide) (fun _ => ?_) (fun h9 => absurd h9 (by decide))
          refine lv_iload_n hx hb dX10_rule_149 rfl (lv_at hl 1 rfl) ?_
          refine lv_iconst (v := 2) hx hb dX10_rule_150 (by decide) ?_
          refine lv_icmp_ne (tgt := 162) hx hb dX10_rule_151 (by decide) (fun h9 => absurd (by decide) h9) (fun _ => ?_)
          refine lv_aload_n hx hb dX10_rule_154 rfl (lv_at hl 2 rfl) ?_
          refine lv_iload_n hx hb dX10_rule_155 rfl (lv_at hl 0 rfl) ?_
          refine gs_calli (va_runV (As := [.int x_41]) (rest := []) ⟨hx, hb, hml, hown, hts⟩ (m_wed l G cy sK sV ad H.size st_43 hB_st_43.1 x_41 x_41.toInt rfl (by first | decide | omega) (by first | decide | omega) F N (((funext (fun j9 => n_43.2 7 0 j9 (show (700 : Nat) ∉ _ from by decide))).trans ((congrFun (congrFun est_42 7) 0).trans ((congrFun (gU_k (by decide)) 0).trans rfl))).trans hF) ((congrArg Int32.toInt (((n_43.2 0 0 10 (show (10 : Nat) ∉ _ from by decide)).trans ((congrFun (congrFun (congrFun est_42 0) 0) 10).trans (congrFun (congrFun (gU_k (by decide)) 0) 10))))).trans hN) ((st_42 0 0 11).toInt) hw_43_0) ⟨(gz_cb (n := 1) hts gm_1163 gm_12 gm_1166 ⟨by decide +kernel, by decide +kernel, by decide +kernel⟩ ⟨Nat.le_of_ble_eq_true rfl, Nat.le_of_ble_eq_true rfl⟩), hts _ gm_1165, hts _ gs_44⟩ (gs_preV hK hov hE hI hM hm hS hA 0 0 (by decide) rfl rfl) rfl rfl hl.1 rfl (lv_room (Nat.le_of_ble_eq_true rfl)) dX10_rule_156 ⟨Nat.le_of_ble_eq_true rfl, Nat.le_of_ble_eq_true rfl⟩) hm hS hA (fun r_44 st_44 H locs hw_44 hM hS => ?_)
          obtain ⟨n_44, hw_44⟩ := hw_44
          have hB_st_44 : gBN bM kM [11, 12, 13, 14, 15, 16, 17, 18, 19, 30, 59, 800, 900, 1000, 1100, 1200, 1300, 1400, 1500] st st_44 := hB_st_43.call n_44 (by decide)
          rcases hw_44 with ⟨rfl, hw_44_0, hw_44_1⟩ | ⟨rfl, hw_44_0, hw_44_1⟩
          · skip
            obtain ⟨r9_hw_44_0, e9_hw_44_0, hw_44_0_p0, hw_44_0_p1, hw_44_0_p2, hw_44_0_p3, hw_44_0_p4⟩ := hw_44_0
            refine lv_goto (tgt := 180) hx hb dX10_rule_159 (by decide) ?_
            refine lv_istore_n (lv' := [(3, .int 1), (2, .int x_41), (1, .int 2), (0, .ref (ad 0 0))]) hx hb dX10_rule_180 rfl hl (by decide) rfl (fun ls hl => ?_)
            refine lv_iload_n hx hb dX10_rule_181 rfl (lv_at hl 0 rfl) ?_
            refine lv_if_eq (tgt := 194) hx hb dX10_rule_182 (by decide) (fun h9 => absurd h9 (by decide)) (fun _ => ?_)
            refine lv_aload_n hx hb dX10_rule_185 rfl (lv_at hl 3 rfl) ?_
            refine lv_bipush (v := 59) hx hb dX10_rule_186 (by decide) ?_
            refine gs_calli (va_runV (As := [.int 59]) (rest := []) ⟨hx, hb, hml, hown, hts⟩ (m_must l G cy sK sV ad H.size st_44 hB_st_44.1 (59 : Int32) 59 (by decide) F N (((funext (fun j9 => n_44.2 7 0 j9 (show (700 : Nat) ∉ _ from by decide))).trans ((funext (fun j9 => n_43.2 7 0 j9 (show (700 : Nat) ∉ _ from by decide))).trans ((congrFun (congrFun est_42 7) 0).trans ((congrFun (gU_k (by decide)) 0).trans rfl)))).trans hF) ((congrArg Int32.toInt (((n_44.2 0 0 10 (show (10 : Nat) ∉ _ from by decide)).trans ((n_43.2 0 0 10 (show (10 : Nat) ∉ _ from by decide)).trans ((congrFun (congrFun (congrFun est_42 0) 0) 10).trans (congrFun (congrFun (gU_k (by decide)) 0) 10)))))).trans hN) e9_hw_44_0 hw_44_0_p1) ⟨(gz_cb (n := 1) hts gm_1143 gm_12 gm_1146 ⟨by decide +kernel, by decide +kernel, by decide +kernel⟩ ⟨Nat.le_of_ble_eq_true rfl, Nat.le_of_ble_eq_true rfl⟩), hts _ gm_1145, hts _ gs_40⟩ (gs_preV hK hov hE hI hM hm hS hA 0 0 (by decide) rfl rfl) rfl rfl hl.1 rfl (lv_room (Nat.le_of_ble_eq_true rfl)) dX10_rule_188 ⟨Nat.le_of_ble_eq_true rfl, Nat.le_of_ble_eq_true rfl⟩) hm hS hA (fun r_45 st_45 H locs hw_45 hM hS => ?_)
            obtain ⟨n_45, hw_45⟩ := hw_45
            have hB_st_45 : gBN bM kM [11, 12, 13, 14, 15, 16, 17, 18, 19, 30, 59, 800, 900, 1000, 1100, 1200, 1300, 1400, 1500] st st_45 := hB_st_44.call n_45 (by decide)
            rcases hw_45 with ⟨rfl, hw_45_0⟩ | ⟨rfl, hw_45_0⟩
            · skip
              obtain ⟨e9_hw_45_0, hw_45_0_p0, hw_45_0_p1⟩ := hw_45_0
              refine lv_if_ne (tgt := 196) hx hb dX10_rule_191 (by decide) (fun _ => ?_) (fun h9 => absurd h9 (by decide))
              refine lv_aload_n hx hb dX10_rule_196 rfl (lv_at hl 3 rfl) ?_
              refine lv_dup hx hb dX10_rule_197 rfl ?_
              refine gs_get (C := RX10) (T := TX10) (N := 59) hx hb hts inX10 hown hK hM 0 0 30 (by decide) rfl rfl (by decide) (hts _ gm_931) (fun _ h9 => h9) rfl dX10_rule_198 ?_
              refine lv_topi (fun x_46 ex_46 => ?_)
              have ex_46 : (st 0 0 30) = x_46 := Eq.symm (ex_46.trans ((n_45.2 0 0 30 (show (30 : Nat) ∉ _ from by decide)).trans ((n_44.2 0 0 30 (show (30 : Nat) ∉ _ from by decide)).trans ((n_43.2 0 0 30 (show (30 : Nat) ∉ _ from by decide)).trans ((congrFun (congrFun (congrFun est_42 0) 0) 30).trans (congrFun (congrFun (gU_k (by decide)) 0) 30))))))
              subst ex_46
              have bf_47 : (0 : Int) ≤ (st 0 0 30).toInt ∧ (st 0 0 30).toInt ≤ (20 : Int) := hB_st.1 0 0 30
              refine lv_iconst (v := 1) hx hb dX10_rule_201 (by decide) ?_
              refine lv_iadd hx hb dX10_rule_202 ?_
              refine lv_topi (fun x_48 ex_48 => ?_)
              try have tx_48 : x_48.toInt = (st 0 0 30).toInt + 1 := by rw [ex_48]; exact gz_addP (x := (st 0 0 30).toInt) (y := 1) rfl (by decide) (by omega) (by omega)
              refine gs_put (C := RX10) (T := TX10) (N := 59) (ty := .int) (val := .int x_48) hx hb hts inX10 tyX10 tyX10_ok nmX10 hown hK hI hm hM hS 0 0 30 (by decide) rfl rfl (by decide) (hts _ gm_931) (fun _ h9 => h9) rfl (x_48 : Int32) rfl (by decide +kernel) rfl rfl (Nat.le_of_ble_eq_true rfl) dX10_rule_203 (fun st_49 H locs est_49 hM hS => ?_)
              have hB_st_49 : gBN bM kM [11, 12, 13, 14, 15, 16, 17, 18, 19, 30, 59, 800, 900, 1000, 1100, 1200, 1300, 1400, 1500] st st_49 := by rw [est_49]; exact hB_st_45.up (show (30 : Nat) ∈ _ from by decide) (show (0 : Int) ≤ x_48.toInt from by omega) (show x_48.toInt ≤ (20 : Int) from by omega)
              refine lv_iconst (v := 1) hx hb dX10_rule_206 (by decide) ?_
              exact gs_iret hx hb hr hlocks hM hS (by decide) ⟨hB_st_49, (Or.inl ⟨rfl, ⟨r9_hw_44_0, e9_hw_45_0, (pRule_2 (hC.w0 hn8 (show _ ∧ _ ∧ _ from (by decide +kernel : (∀ c ∈ wTurns, 1 ≤ c ∧ c ≤ 255) ∧ wTurns.length ≤ 8 ∧ 0 < pkW wTurns)).1 (show _ ∧ _ ∧ _ from (by decide +kernel : (∀ c ∈ wTurns, 1 ≤ c ∧ c ≤ 255) ∧ wTurns.length ≤ 8 ∧ 0 < pkW wTurns)).2.1 (show _ ∧ _ ∧ _ from (by decide +kernel : (∀ c ∈ wTurns, 1 ≤ c ∧ c ≤ 255) ∧ wTurns.length ≤ 8 ∧ 0 < pkW wTurns)).2.2 (fun h9 => hw_1_0 ⟨h9.1, h9.2.trans (Eq.symm (by decide +kernel : _ = lN (pkW wTurns)))⟩)) (hC.w0 hn8 (show _ ∧ _ ∧ _ from (by decide +kernel : (∀ c ∈ wGuest, 1 ≤ c ∧ c ≤ 255) ∧ wGuest.length ≤ 8 ∧ 0 < pkW wGuest)).1 (show _ ∧ _ ∧ _ from (by decide +kernel : (∀ c ∈ wGuest, 1 ≤ c ∧ c ≤ 255) ∧ wGuest.length ≤ 8 ∧ 0 < pkW wGuest)).2.1 (show _ ∧ _ ∧ _ from (by decide +kernel : (∀ c ∈ wGuest, 1 ≤ c ∧ c ≤ 255) ∧ wGuest.length ≤ 8 ∧ 0 < pkW wGuest)).2.2 (fun h9 => hw_18_0 ⟨h9.1, h9.2.trans (Eq.symm (by decide +kernel : _ = lN (pkW wGuest)))⟩)) ((hC.w1 hn8 (show _ ∧ _ ∧ _ from (by decide +kernel : (∀ c ∈ wWed, 1 ≤ c ∧ c ≤ 255) ∧ wWed.length ≤ 8 ∧ 0 < pkW wWed)).1 (show _ ∧ _ ∧ _ from (by decide +kernel : (∀ c ∈ wWed, 1 ≤ c ∧ c ≤ 255) ∧ wWed.length ≤ 8 ∧ 0 < pkW wWed)).2.1 (show _ ∧ _ ∧ _ from (by decide +kernel : (∀ c ∈ wWed, 1 ≤ c ∧ c ≤ 255) ∧ wWed.length ≤ 8 ∧ 0 < pkW wWed)).2.2 hw_35_0.1 (hw_35_0.2.trans (by decide +kernel : _ = lN (pkW wWed)))).trans (congrArg some (rfl.trans (Eq.symm (congrArg Int32.toInt (((congrFun (congrFun (congrFun est_42 0) 0) 11).trans (congrFun (congrFun (gU_k (by decide)) 0) 11))))))))).trans (pWed_B.mpr ⟨_, hw_44_0_p0, hw_45_0_p0⟩), (hw_45_0_p1.rows ((congrFun (congrFun (congrFun est_49 0) 0) 11).trans (gU_other (by decide))) ((congrFun (congrFun (congrFun est_49 0) 0) 12).trans (gU_other (by decide))) ((congrFun (congrFun (congrFun est_49 0) 0) 14).trans (gU_other (by decide))) ((congrFun (congrFun (congrFun est_49 0) 0) 17).trans (gU_other (by decide))) ((congrFun (congrFun (congrFun est_49 0) 0) 59).trans (gU_other (by decide)))), hw_44_0_p3, (LM.add hLM hwf (mO.trans (mO.trans (mO.trans (mO.trans (by rw [est_42]; exact mO.up mO.rf (by first | (intro _; rfl) | (intro h9; exact absurd h9 (by decide)) | (intro _; omega)) (by first | (intro h9; exact absurd h9 (by decide)) | (intro _; omega))) (mO.frame n_43.2 (by decide))) hw_44_1) (mO.frame n_45.2 (by decide))) (mO.upk est_49 (by decide))) (by have h8 := gs_cl (x := x_41) (by omega); omega) (by rw [show (st_49 8 0 (x_41.toNatClampNeg)).toInt = 2 from ((congrArg Int32.toInt ((((congrFun (congrFun (congrFun est_49 8) 0) (x_41.toNatClampNeg)).trans (congrFun (congrFun (gU_k (by decide)) 0) (x_41.toNatClampNeg))).trans ((n_45.2 8 0 (x_41.toNatClampNeg) (show (800 : Nat) ∉ _ from by decide)).trans ((n_44.2 8 0 (x_41.toNatClampNeg) (show (800 : Nat) ∉ _ from by decide)).trans ((n_43.2 8 0 (x_41.toNatClampNeg) (show (800 : Nat) ∉ _ from by decide)).trans ((congrFun (congrFun (congrFun est_42 8) 0) (x_41.toNatClampNeg)).trans (gU_same _ _ _ _ _)))))))).trans (by decide))]; rw [hw_44_0_p2]; all_goals first | rfl | decide) hw_44_0_p4 (mA.trans (mA.trans mA.rf (mA.frame n_45.2 (by decide))) (mA.upk est_49 (by decide))))⟩, (by have hl0 : (1 : Int32).toInt = 1 := (by decide); have hq1 : (st_49 0 0 30).toInt = (x_48 : Int32).toInt := congrArg Int32.toInt (((congrFun (congrFun (congrFun est_49 0) 0) 30).trans (gU_same _ _ _ _ _))); have hb2 : (0 : Int) ≤ (st_49 0 0 30).toInt ∧ (st_49 0 0 30).toInt ≤ (20 : Int) := hB_st_49.1 0 0 30; have hb3 : (0 : Int) ≤ (st 0 0 30).toInt ∧ (st 0 0 30).toInt ≤ (20 : Int) := hB_st.1 0 0 30; omega), (LM.oth hLO hwo (mO.trans (mO.trans (mO.trans (mO.trans (by rw [est_42]; exact mO.up mO.rf (by first | (intro _; rfl) | (intro h9; exact absurd h9 (by decide)) | (intro _; omega)) (by first | (intro h9; exact absurd h9 (by decide)) | (intro _; omega))) (mO.frame n_43.2 (by decide))) hw_44_1) (mO.frame n_45.2 (by decide))) (mO.upk est_49 (by decide))) (fun i hi => by have h8 := gs_cl (x := x_41) (by omega); omega))⟩)⟩ (by exact Nat.le_refl _) (by exact Nat.le_refl _) dX10_rule_207
            · skip
              refine lv_if_ne (tgt := 196) hx hb dX10_rule_191 (by decide) (fun h9 => absurd (by decide) h9) (fun _ => ?_)
              refine lv_iconst (v := 0) hx hb dX10_rule_194 (by decide) ?_
              exact gs_iret hx hb hr hlocks hM hS (by decide) ⟨hB_st_45, (Or.inr ⟨rfl, Or.inl ((pRule_2 (hC.w0 hn8 (show _ ∧ _ ∧ _ from (by decide +kernel : (∀ c ∈ wTurns, 1 ≤ c ∧ c ≤ 255) ∧ wTurns.length ≤ 8 ∧ 0 < pkW wTurns)).1 (show _ ∧ _ ∧ _ from (by decide +kernel : (∀ c ∈ wTurns, 1 ≤ c ∧ c ≤ 255) ∧ wTurns.length ≤ 8 ∧ 0 < pkW wTurns)).2.1 (show _ ∧ _ ∧ _ from (by decide +kernel : (∀ c ∈ wTurns, 1 ≤ c ∧ c ≤ 255) ∧ wTurns.length ≤ 8 ∧ 0 < pkW wTurns)).2.2 (fun h9 => hw_1_0 ⟨h9.1, h9.2.trans (Eq.symm (by decide +kernel : _ = lN (pkW wTurns)))⟩)) (hC.w0 hn8 (show _ ∧ _ ∧ _ from (by decide +kernel : (∀ c ∈ wGuest, 1 ≤ c ∧ c ≤ 255) ∧ wGuest.length ≤ 8 ∧ 0 < pkW wGuest)).1 (show _ ∧ _ ∧ _ from (by decide +kernel : (∀ c ∈ wGuest, 1 ≤ c ∧ c ≤ 255) ∧ wGuest.length ≤ 8 ∧ 0 < pkW wGuest)).2.1 (show _ ∧ _ ∧ _ from (by decide +kernel : (∀ c ∈ wGuest, 1 ≤ c ∧ c ≤ 255) ∧ wGuest.length ≤ 8 ∧ 0 < pkW wGuest)).2.2 (fun h9 => hw_18_0 ⟨h9.1, h9.2.trans (Eq.symm (by decide +kernel : _ = lN (pkW wGuest)))⟩)) ((hC.w1 hn8 (show _ ∧ _ ∧ _ from (by decide +kernel : (∀ c ∈ wWed, 1 ≤ c ∧ c ≤ 255) ∧ wWed.length ≤ 8 ∧ 0 < pkW wWed)).1 (show _ ∧ _ ∧ _ from (by decide +kernel : (∀ c ∈ wWed, 1 ≤ c ∧ c ≤ 255) ∧ wWed.length ≤ 8 ∧ 0 < pkW wWed)).2.1 (show _ ∧ _ ∧ _ from (by decide +kernel : (∀ c ∈ wWed, 1 ≤ c ∧ c ≤ 255) ∧ wWed.length ≤ 8 ∧ 0 < pkW wWed)).2.2 hw_35_0.1 (hw_35_0.2.trans (by decide +kernel : _ = lN (pkW wWed)))).trans (congrArg some (rfl.trans (Eq.symm (congrArg Int32.toInt (((congrFun (congrFun (congrFun est_42 0) 0) 11).trans (congrFun (congrFun (gU_k (by decide)) 0) 11))))))))).trans (noB (fun r9 q9 => pWed_B) (Or.inr ⟨_, _, hw_44_0_p0, hw_45_0⟩))), (by have hl0 : (0 : Int32).toInt = 0 := (by decide); have hq1 : (st_45 0 0 30).toInt = ((st 0 0 30) : Int32).toInt := congrArg Int32.toInt (((n_45.2 0 0 30 (show (30 : Nat) ∉ _ from by decide)).trans ((n_44.2 0 0 30 (show (30 : Nat) ∉ _ from by decide)).trans ((n_43.2 0 0 30 (show (30 : Nat) ∉ _ from by decide)).trans ((congrFun (congrFun (congrFun est_42 0) 0) 30).trans (congrFun (congrFun (gU_k (by decide)) 0) 30)))))); have hb2 : (0 : Int) ≤ (st_45 0 0 30).toInt ∧ (st_45 0 0 30).toInt ≤ (20 : Int) := hB_st_45.1 0 0 30; have hb3 : (0 : Int) ≤ (st 0 0 30).toInt ∧ (st 0 0 30).toInt ≤ (20 : Int) := hB_st.1 0 0 30; omega), (LM.oth hLO hwo (mO.trans (mO.trans (mO.trans (by rw [est_42]; exact mO.up mO.rf (by first | (intro _; rfl) | (intro h9; exact absurd h9 (by decide)) | (intro _; omega)) (by first | (intro h9; exact absurd h9 (by decide)) | (intro _; omega))) (mO.frame n_43.2 (by decide))) hw_44_1) (mO.frame n_45.2 (by decide))) (fun i hi => by have h8 := gs_cl (x := x_41) (by omega); omega))⟩)⟩ (by exact Nat.le_refl _) (by exact Nat.le_refl _) dX10_rule_195
          · skip
            refine lv_goto (tgt := 180) hx hb dX10_rule_159 (by decide) ?_
            refine lv_istore_n (lv' := [(3, .int 0), (2, .int x_41), (1, .int 2), (0, .ref (ad 0 0))]) hx hb dX10_rule_180 rfl hl (by decide) rfl (fun ls hl => ?_)
            refine lv_iload_n hx hb dX10_rule_181 rfl (lv_at hl 0 rfl) ?_
            refine lv_if_eq (tgt := 194) hx hb dX10_rule_182 (by decide) (fun _ => ?_) (fun h9 => absurd (by decide) h9)
            refine lv_iconst (v := 0) hx hb dX10_rule_194 (by decide) ?_
            exact gs_iret hx hb hr hlocks hM hS (by decide) ⟨hB_st_44, (Or.inr ⟨rfl, Or.inl ((pRule_2 (hC.w0 hn8 (show _ ∧ _ ∧ _ from (by decide +kernel : (∀ c ∈ wTurns, 1 ≤ c ∧ c ≤ 255) ∧ wTurns.length ≤ 8 ∧ 0 < pkW wTurns)).1 (show _ ∧ _ ∧ _ from (by decide +kernel : (∀ c ∈ wTurns, 1 ≤ c ∧ c ≤ 255) ∧ wTurns.length ≤ 8 ∧ 0 < pkW wTurns)).2.1 (show _ ∧ _ ∧ _ from (by decide +kernel : (∀ c ∈ wTurns, 1 ≤ c ∧ c ≤ 255) ∧ wTurns.length ≤ 8 ∧ 0 < pkW wTurns)).2.2 (fun h9 => hw_1_0 ⟨h9.1, h9.2.trans (Eq.symm (by decide +kernel : _ = lN (pkW wTurns)))⟩)) (hC.w0 hn8 (show _ ∧ _ ∧ _ from (by decide +kernel : (∀ c ∈ wGuest, 1 ≤ c ∧ c ≤ 255) ∧ wGuest.length ≤ 8 ∧ 0 < pkW wGuest)).1 (show _ ∧ _ ∧ _ from (by decide +kernel : (∀ c ∈ wGuest, 1 ≤ c ∧ c ≤ 255) ∧ wGuest.length ≤ 8 ∧ 0 < pkW wGuest)).2.1 (show _ ∧ _ ∧ _ from (by decide +kernel : (∀ c ∈ wGuest, 1 ≤ c ∧ c ≤ 255) ∧ wGuest.length ≤ 8 ∧ 0 < pkW wGuest)).2.2 (fun h9 => hw_18_0 ⟨h9.1, h9.2.trans (Eq.symm (by decide +kernel : _ = lN (pkW wGuest)))⟩)) ((hC.w1 hn8 (show _ ∧ _ ∧ _ from (by decide +kernel : (∀ c ∈ wWed, 1 ≤ c ∧ c ≤ 255) ∧ wWed.length ≤ 8 ∧ 0 < pkW wWed)).1 (show _ ∧ _ ∧ _ from (by decide +kernel : (∀ c ∈ wWed, 1 ≤ c ∧ c ≤ 255) ∧ wWed.length ≤ 8 ∧ 0 < pkW wWed)).2.1 (show _ ∧ _ ∧ _ from (by decide +kernel : (∀ c ∈ wWed, 1 ≤ c ∧ c ≤ 255) ∧ wWed.length ≤ 8 ∧ 0 < pkW wWed)).2.2 hw_35_0.1 (hw_35_0.2.trans (by decide +kernel : _ = lN (pkW wWed)))).trans (congrArg some (rfl.trans (Eq.symm (congrArg Int32.toInt (((congrFun (congrFun (congrFun est_42 0) 0) 11).trans (congrFun (congrFun (gU_k (by decide)) 0) 11))))))))).trans (noB (fun r9 q9 => pWed_B) (Or.inl hw_44_0))), (by have hl0 : (0 : Int32).toInt = 0 := (by decide); have hq1 : (st_44 0 0 30).toInt = ((st 0 0 30) : Int32).toInt := congrArg Int32.toInt (((n_44.2 0 0 30 (show (30 : Nat) ∉ _ from by decide)).trans ((n_43.2 0 0 30 (show (30 : Nat) ∉ _ from by decide)).trans ((congrFun (congrFun (congrFun est_42 0) 0) 30).trans (congrFun (congrFun (gU_k (by decide)) 0) 30))))); have hb2 : (0 : Int) ≤ (st_44 0 0 30).toInt ∧ (st_44 0 0 30).toInt ≤ (20 : Int) := hB_st_44.1 0 0 30; have hb3 : (0 : Int) ≤ (st 0 0 30).toInt ∧ (st 0 0 30).toInt ≤ (20 : Int) := hB_st.1 0 0 30; omega), (LM.oth hLO hwo (mO.trans (mO.trans (by rw [est_42]; exact mO.up mO.rf (by first | (intro _; rfl) | (intro h9; exact absurd h9 (by decide)) | (intro _; omega)) (by first | (intro h9; exact absurd h9 (by decide)) | (intro _; omega))) (mO.frame n_43.2 (by decide))) hw_44_1) (fun i hi => by have h8 := gs_cl (x := x_41) (by omega); omega))⟩)⟩ (by exact Nat.le_refl _) (by exact Nat.le_refl _) dX10_rule_195
        · have ic_37 := gz_eqn (rfl : (st 0 0 30).toInt = (st 0 0 30).toInt) (by decide : (20 : Int32).toInt = 20) c_37
          refine lv_aload_n hx hb dX10_rule_90 rfl (lv_at hl 1 rfl) ?_
          refine lv_iconst (v := 4) hx hb dX10_rule_91 (by decide) ?_
          refine lv_aload_n hx hb dX10_rule_92 rfl (lv_at hl 1 rfl) ?_
          refine gs_get (C := RX10) (T := TX10) (N := 59) hx hb hts inX10 hown hK hM 0 0 13 (by decide) rfl rfl (by decide) (hts _ gm_914) (fun _ h9 => h9) rfl dX10_rule_93 ?_
          refine gs_calli (va_runV (As := [.int 4, .int (st 0 0 13)]) (rest := []) ⟨hx, hb, hml, hown, hts⟩ (m_wrong l G cy sK sV ad H.size st hB_st.1 (4 : Int32) (st 0 0 13) ) ⟨(gz_cb (n := 2) hts gm_1131 gm_12 gm_1134 ⟨by decide +kernel, by decide +kernel, by decide +kernel⟩ ⟨Nat.le_of_ble_eq_true rfl, Nat.le_of_ble_eq_true rfl⟩), hts _ gm_1133, hts _ gs_37⟩ (gs_preV hK hov hE hI hM hm hS hA 0 0 (by decide) rfl rfl) rfl rfl hl.1 rfl (lv_room (Nat.le_of_ble_eq_true rfl)) dX10_rule_96 ⟨Nat.le_of_ble_eq_true rfl, Nat.le_of_ble_eq_true rfl⟩) hm hS hA (fun r_51 st_51 H locs hw_51 hM hS => ?_)
          obtain ⟨n_51, hw_51⟩ := hw_51
          have hB_st_51 : gBN bM kM [11, 12, 13, 14, 15, 16, 17, 18, 19, 30, 59, 800, 900, 1000, 1100, 1200, 1300, 1400, 1500] st st_51 := hB_st.call n_51 (by decide)
          obtain rfl := hw_51
          exact gs_iret hx hb hr hlocks hM hS (by decide) ⟨hB_st_51, (Or.inr ⟨rfl, Or.inr (by omega), (by have hl0 : (0 : Int32).toInt = 0 := (by decide); have hq1 : (st_51 0 0 30).toInt = ((st 0 0 30) : Int32).toInt := congrArg Int32.toInt ((n_51.2 0 0 30 (show (30 : Nat) ∉ _ from by decide))); have hb2 : (0 : Int) ≤ (st_51 0 0 30).toInt ∧ (st_51 0 0 30).toInt ≤ (20 : Int) := hB_st_51.1 0 0 30; have hb3 : (0 : Int) ≤ (st 0 0 30).toInt ∧ (st 0 0 30).toInt ≤ (20 : Int) := hB_st.1 0 0 30; omega), (LM.all hLO (mA.trans mA.rf (mA.frame n_51.2 (by decide))))⟩)⟩ (by exact Nat.le_refl _) (by exact Nat.le_refl _) dX10_rule_99
      · skip
        refine lv_if_eq (tgt := 42) hx hb dX10_rule_35 (by decide) (fun _ => ?_) (fun h9 => absurd (by decide) h9)
        refine lv_aload_n hx hb dX10_rule_42 rfl (lv_at hl 0 rfl) ?_
        refine lv_ldc2 (v := 28273320707713140) hx hb hown (hts _ gm_1125) dX10_rule_43 ?_
        refine gs_calli (va_runV (As := [.long (28273320707713140 : Int64)]) (rest := []) ⟨hx, hb, hml, hown, hts⟩ (m_isWord l G cy sK sV ad H.size st hB_st.1 (28273320707713140 : Int64) ) ⟨(gz_cb (n := 1) hts gm_1119 gm_12 gm_1122 ⟨by decide +kernel, by decide +kernel, by decide +kernel⟩ ⟨Nat.le_of_ble_eq_true rfl, Nat.le_of_ble_eq_true rfl⟩), hts _ gm_1121, hts _ gs_35⟩ (gs_preV hK hov hE hI hM hm hS hA 0 0 (by decide) rfl rfl) rfl rfl hl.1 rfl (lv_room (Nat.le_of_ble_eq_true rfl)) dX10_rule_46 ⟨Nat.le_of_ble_eq_true rfl, Nat.le_of_ble_eq_true rfl⟩) hm hS hA (fun r_52 st_52 H locs hw_52 hM hS => ?_)
        obtain ⟨n_52, hw_52⟩ := hw_52
        have n_52 := gBN.nil n_52
        subst n_52
        rcases hw_52 with ⟨rfl, hw_52_0⟩ | ⟨rfl, hw_52_0⟩
        · skip
          refine lv_if_eq (tgt := 56) hx hb dX10_rule_49 (by decide) (fun h9 => absurd h9 (by decide)) (fun _ => ?_)
          refine lv_iconst (v := 3) hx hb dX10_rule_52 (by decide) ?_
          refine lv_goto (tgt := 71) hx hb dX10_rule_53 (by decide) ?_
          refine lv_istore_n (lv' := [(1, .int 3), (0, .ref (ad 0 0))]) hx hb dX10_rule_71 rfl hl (by decide) rfl (fun ls hl => ?_)
          refine lv_iload_n hx hb dX10_rule_72 rfl (lv_at hl 0 rfl) ?_
          refine lv_if_ge (tgt := 81) hx hb dX10_rule_73 (by decide) (fun _ => ?_) (fun h9 => absurd (by decide) h9)
          refine lv_aload_n hx hb dX10_rule_81 rfl (lv_at hl 1 rfl) ?_
          refine gs_get (C := RX10) (T := TX10) (N := 59) hx hb hts inX10 hown hK hM 0 0 30 (by decide) rfl rfl (by decide) (hts _ gm_931) (fun _ h9 => h9) rfl dX10_rule_82 ?_
          have bf_53 : (0 : Int) ≤ (st 0 0 30).toInt ∧ (st 0 0 30).toInt ≤ (20 : Int) := hB_st.1 0 0 30
          refine lv_bipush (v := 20) hx hb dX10_rule_85 (by decide) ?_
          refine lv_icmp_ne (tgt := 100) hx hb dX10_rule_87 (by decide) (fun c_54 => ?_) (fun c_54 => ?_)
          · have ic_54 := gz_ne (rfl : (st 0 0 30).toInt = (st 0 0 30).toInt) (by decide : (20 : Int32).toInt = 20) c_54
            refine lv_bipush (v := 24) hx hb dX10_rule_100 (by decide) ?_
            refine lv_aload_n hx hb dX10_rule_102 rfl (lv_at hl 1 rfl) ?_
            refine gs_get (C := RX10) (T := TX10) (N := 59) hx hb hts inX10 hown hK hM 0 0 28 (by decide) rfl rfl (by decide) (hts _ gm_929) (fun _ h9 => h9) rfl dX10_rule_103 ?_
            have bf_55 : (0 : Int) ≤ (st 0 0 28).toInt ∧ (st 0 0 28).toInt ≤ (1 : Int) := hB_st.1 0 0 28
            refine lv_imul hx hb dX10_rule_106 ?_
            refine lv_topi (fun x_56 ex_56 => ?_)
            try have tx_56 : x_56.toInt = 24 * (st 0 0 28).toInt := by rw [ex_56]; exact gz_mulI (x := 24) (y := (st 0 0 28).toInt) (by decide) rfl (by omega) (by omega)
            refine lv_aload_n hx hb dX10_rule_107 rfl (lv_at hl 1 rfl) ?_
            refine gs_get (C := RX10) (T := TX10) (N := 59) hx hb hts inX10 hown hK hM 0 0 30 (by decide) rfl rfl (by decide) (hts _ gm_931) (fun _ h9 => h9) rfl dX10_rule_108 ?_
            have bf_57 : (0 : Int) ≤ (st 0 0 30).toInt ∧ (st 0 0 30).toInt ≤ (20 : Int) := hB_st.1 0 0 30
            refine lv_iadd hx hb dX10_rule_111 ?_
            refine lv_topi (fun x_58 ex_58 => ?_)
            try have tx_58 : x_58.toInt = x_56.toInt + (st 0 0 30).toInt := by rw [ex_58]; exact gz_addI (x := x_56.toInt) (y := (st 0 0 30).toInt) rfl rfl (by omega) (by omega)
            refine lv_istore_n (lv' := [(2, .int x_58), (1, .int 3), (0, .ref (ad 0 0))]) hx hb dX10_rule_112 rfl hl (by decide) rfl (fun ls hl => ?_)
            refine lv_aload_n hx hb dX10_rule_113 rfl (lv_at hl 2 rfl) ?_
            refine gs_get (C := RX10) (T := TX10) (N := 59) hx hb hts inX10 hown hK hM 0 0 20 (by decide) rfl rfl (by decide) (hts _ gm_921) (fun _ h9 => h9) rfl dX10_rule_114 ?_
            refine lv_iload_n hx hb dX10_rule_117 rfl (lv_at hl 0 rfl) ?_
            refine lv_iload_n hx hb dX10_rule_118 rfl (lv_at hl 1 rfl) ?_
            refine gs_iast hx hb hK hI hm hM hS 8 0 (by decide) (fun _ => rfl) (vp_in_iff.mpr ⟨by omega, by omega⟩) dX10_rule_119 (fun st_59 H locs est_59 hM hS => ?_)
            have hB_st_59 : gBN bM kM [11, 12, 13, 14, 15, 16, 17, 18, 19, 30, 59, 800, 900, 1000, 1100, 1200, 1300, 1400, 1500] st st_59 := by rw [est_59]; exact hB_st.up (show (800 : Nat) ∈ _ from by decide) (gi_lo _) (gi_hi _)
            refine lv_aload_n hx hb dX10_rule_120 rfl (lv_at hl 2 rfl) ?_
            refine gs_callv (va_runV (As := []) (rest := []) ⟨hx, hb, hml, hown, hts⟩ (m_next0 l G cy sK sV ad H.size st_59 hB_st_59.1  F N (((congrFun (congrFun est_59 7) 0).trans ((congrFun (gU_k (by decide)) 0).trans rfl)).trans hF) ((congrArg Int32.toInt (((congrFun (congrFun (congrFun est_59 0) 0) 10).trans (congrFun (congrFun (gU_k (by decide)) 0) 10)))).trans hN)) ⟨(gz_cb (n := 0) hts gm_1100 gm_12 gm_1103 ⟨by decide +kernel, by decide +kernel, by decide +kernel⟩ ⟨Nat.le_of_ble_eq_true rfl, Nat.le_of_ble_eq_true rfl⟩), hts _ gm_1102, hts _ gs_32⟩ (gs_preV hK hov hE hI hM hm hS hA 0 0 (by decide) rfl rfl) rfl rfl hl.1 rfl (lv_room (Nat.le_of_ble_eq_true rfl)) dX10_rule_121 ⟨Nat.le_of_ble_eq_true rfl, Nat.le_of_ble_eq_true rfl⟩) hm hS hA (fun st_60 H locs hw_60 hM hS => ?_)
            obtain ⟨n_60, hw_60⟩ := hw_60
            have hB_st_60 : gBN bM kM [11, 12, 13, 14, 15, 16, 17, 18, 19, 30, 59, 800, 900, 1000, 1100, 1200, 1300, 1400, 1500] st st_60 := hB_st_59.call n_60 (by decide)
            have hqhw_600 : (st_59 0 0 11).toInt = ((st 0 0 11) : Int32).toInt := congrArg Int32.toInt (((congrFun (congrFun (congrFun est_59 0) 0) 11).trans (congrFun (congrFun (gU_k (by decide)) 0) 11)))
            have hbhw_601 : (0 : Int) ≤ (st_59 0 0 11).toInt ∧ (st_59 0 0 11).toInt ≤ (800 : Int) := hB_st_59.1 0 0 11
            have hw_60_0 := hw_60
            refine lv_iload_n hx hb dX10_rule_124 rfl (lv_at hl 1 rfl) ?_
            refine lv_if_ne (tgt := 136) hx hb dX10_rule_125 (by decide) (fun _ => ?_) (fun h9 => absurd h9 (by decide))
            refine lv_iload_n hx hb dX10_rule_136 rfl (lv_at hl 1 rfl) ?_
            refine lv_iconst (v := 1) hx hb dX10_rule_137 (by decide) ?_
            refine lv_icmp_ne (tgt := 149) hx hb dX10_rule_138 (by decide) (fun _ => ?_) (fun h9 => absurd h9 (by decide))
            refine lv_iload_n hx hb dX10_rule_149 rfl (lv_at hl 1 rfl) ?_
            refine lv_iconst (v := 2) hx hb dX10_rule_150 (by decide) ?_
            refine lv_icmp_ne (tgt := 162) hx hb dX10_rule_151 (by decide) (fun _ => ?_) (fun h9 => absurd h9 (by decide))
            refine lv_iload_n hx hb dX10_rule_162 rfl (lv_at hl 1 rfl) ?_
            refine lv_iconst (v := 3) hx hb dX10_rule_163 (by decide) ?_
            refine lv_icmp_ne (tgt := 175) hx hb dX10_rule_164 (by decide) (fun h9 => absurd (by decide) h9) (fun _ => ?_)
            refine lv_aload_n hx hb dX10_rule_167 rfl (lv_at hl 2 rfl) ?_
            refine lv_iload_n hx hb dX10_rule_168 rfl (lv_at hl 0 rfl) ?_
            refine gs_calli (va_runV (As := [.int x_58]) (rest := []) ⟨hx, hb, hml, hown, hts⟩ (m_drought l G cy sK sV ad H.size st_60 hB_st_60.1 x_58 x_58.toInt rfl (by first | decide | omega) (by first | decide | omega) F N (((funext (fun j9 => n_60.2 7 0 j9 (show (700 : Nat) ∉ _ from by decide))).trans ((congrFun (congrFun est_59 7) 0).trans ((congrFun (gU_k (by decide)) 0).trans rfl))).trans hF) ((congrArg Int32.toInt (((n_60.2 0 0 10 (show (10 : Nat) ∉ _ from by decide)).trans ((congrFun (congrFun (congrFun est_59 0) 0) 10).trans (congrFun (congrFun (gU_k (by decide)) 0) 10))))).trans hN) ((st_59 0 0 11).toInt) hw_60_0) ⟨(gz_cb (n := 1) hts gm_1167 gm_12 gm_1170 ⟨by decide +kernel, by decide +kernel, by decide +kernel⟩ ⟨Nat.le_of_ble_eq_true rfl, Nat.le_of_ble_eq_true rfl⟩), hts _ gm_1169, hts _ gs_45⟩ (gs_preV hK hov hE hI hM hm hS hA 0 0 (by decide) rfl rfl) rfl rfl hl.1 rfl (lv_room (Nat.le_of_ble_eq_true rfl)) dX10_rule_169 ⟨Nat.le_of_ble_eq_true rfl, Nat.le_of_ble_eq_true rfl⟩) hm hS hA (fun r_61 st_61 H locs hw_61 hM hS => ?_)
            obtain ⟨n_61, hw_61⟩ := hw_61
            have hB_st_61 : gBN bM kM [11, 12, 13, 14, 15, 16, 17, 18, 19, 30, 59, 800, 900, 1000, 1100, 1200, 1300, 1400, 1500] st st_61 := hB_st_60.call n_61 (by decide)
            rcases hw_61 with ⟨rfl, hw_61_0, hw_61_1⟩ | ⟨rfl, hw_61_0, hw_61_1⟩
            · skip
              obtain ⟨r9_hw_61_0, e9_hw_61_0, hw_61_0_p0, hw_61_0_p1, hw_61_0_p2, hw_61_0_p3, hw_61_0_p4⟩ := hw_61_0
              refine lv_goto (tgt := 180) hx hb dX10_rule_172 (by decide) ?_
              refine lv_istore_n (lv' := [(3, .int 1), (2, .int x_58), (1, .int 3), (0, .ref (ad 0 0))]) hx hb dX10_rule_180 rfl hl (by decide) rfl (fun ls hl => ?_)
              refine lv_iload_n hx hb dX10_rule_181 rfl (lv_at hl 0 rfl) ?_
              refine lv_if_eq (tgt := 194) hx hb dX10_rule_182 (by decide) (fun h9 => absurd h9 (by decide)) (fun _ => ?_)
              refine lv_aload_n hx hb dX10_rule_185 rfl (lv_at hl 3 rfl) ?_
              refine lv_bipush (v := 59) hx hb dX10_rule_186 (by decide) ?_
              refine gs_calli (va_runV (As := [.int 59]) (rest := []) ⟨hx, hb, hml, hown, hts⟩ (m_must l G cy sK sV ad H.size st_61 hB_st_61.1 (59 : Int32) 59 (by decide) F N (((funext (fun j9 => n_61.2 7 0 j9 (show (700 : Nat) ∉ _ from by decide))).trans ((funext (fun j9 => n_60.2 7 0 j9 (show (700 : Nat) ∉ _ from by decide))).trans ((congrFun (congrFun est_59 7) 0).trans ((congrFun (gU_k (by decide)) 0).trans rfl)))).trans hF) ((congrArg Int32.toInt (((n_61.2 0 0 10 (show (10 : Nat) ∉ _ from by decide)).trans ((n_60.2 0 0 10 (show (10 : Nat) ∉ _ from by decide)).trans ((congrFun (congrFun (congrFun est_59 0) 0) 10).trans (congrFun (congrFun (gU_k (by decide)) 0) 10)))))).trans hN) e9_hw_61_0 hw_61_0_p1) ⟨(gz_cb (n := 1) hts gm_1143 gm_12 gm_1146 ⟨by decide +kernel, by decide +kernel, by decide +kernel⟩ ⟨Nat.le_of_ble_eq_true rfl, Nat.le_of_ble_eq_true rfl⟩), hts _ gm_1145, hts _ gs_40⟩ (gs_preV hK hov hE hI hM hm hS hA 0 0 (by decide) rfl rfl) rfl rfl hl.1 rfl (lv_room (Nat.le_of_ble_eq_true rfl)) dX10_rule_188 ⟨Nat.le_of_ble_eq_true rfl, Nat.le_of_ble_eq_true rfl⟩) hm hS hA (fun r_62 st_62 H locs hw_62 hM hS => ?_)
              obtain ⟨n_62, hw_62⟩ := hw_62
              have hB_st_62 : gBN bM kM [11, 12, 13, 14, 15, 16, 17, 18, 19, 30, 59, 800, 900, 1000, 1100, 1200, 1300, 1400, 1500] st st_62 := hB_st_61.call n_62 (by decide)
              rcases hw_62 with ⟨rfl, hw_62_0⟩ | ⟨rfl, hw_62_0⟩
              · skip
                obtain ⟨e9_hw_62_0, hw_62_0_p0, hw_62_0_p1⟩ := hw_62_0
                refine lv_if_ne (tgt := 196) hx hb dX10_rule_191 (by decide) (fun _ => ?_) (fun h9 => absurd h9 (by decide))
                refine lv_aload_n hx hb dX10_rule_196 rfl (lv_at hl 3 rfl) ?_
                refine lv_dup hx hb dX10_rule_197 rfl ?_
                refine gs_get (C := RX10) (T := TX10) (N := 59) hx hb hts inX10 hown hK hM 0 0 30 (by decide) rfl rfl (by decide) (hts _ gm_931) (fun _ h9 => h9) rfl dX10_rule_198 ?_
                refine lv_topi (fun x_63 ex_63 => ?_)
                have ex_63 : (st 0 0 30) = x_63 := Eq.symm (ex_63.trans ((n_62.2 0 0 30 (show (30 : Nat) ∉ _ from by decide)).trans ((n_61.2 0 0 30 (show (30 : Nat) ∉ _ from by decide)).trans ((n_60.2 0 0 30 (show (30 : Nat) ∉ _ from by decide)).trans ((congrFun (congrFun (congrFun est_59 0) 0) 30).trans (congrFun (congrFun (gU_k (by decide)) 0) 30))))))
                subst ex_63
                have bf_64 : (0 : Int) ≤ (st 0 0 30).toInt ∧ (st 0 0 30).toInt ≤ (20 : Int) := hB_st.1 0 0 30
                refine lv_iconst (v := 1) hx hb dX10_rule_201 (by decide) ?_
                refine lv_iadd hx hb dX10_rule_202 ?_
                refine lv_topi (fun x_65 ex_65 => ?_)
                try have tx_65 : x_65.toInt = (st 0 0 30).toInt + 1 := by rw [ex_65]; exact gz_addP (x := (st 0 0 30).toInt) (y := 1) rfl (by decide) (by omega) (by omega)
                refine gs_put (C := RX10) (T := TX10) (N := 59) (ty := .int) (val := .int x_65) hx hb hts inX10 tyX10 tyX10_ok nmX10 hown hK hI hm hM hS 0 0 30 (by decide) rfl rfl (by decide) (hts _ gm_931) (fun _ h9 => h9) rfl (x_65 : Int32) rfl (by decide +kernel) rfl rfl (Nat.le_of_ble_eq_true rfl) dX10_rule_203 (fun st_66 H locs est_66 hM hS => ?_)
                have hB_st_66 : gBN bM kM [11, 12, 13, 14, 15, 16, 17, 18, 19, 30, 59, 800, 900, 1000, 1100, 1200, 1300, 1400, 1500] st st_66 := by rw [est_66]; exact hB_st_62.up (show (30 : Nat) ∈ _ from by decide) (show (0 : Int) ≤ x_65.toInt from by omega) (show x_65.toInt ≤ (20 : Int) from by omega)
                refine lv_iconst (v := 1) hx hb dX10_rule_206 (by decide) ?_
                exact gs_iret hx hb hr hlocks hM hS (by decide) ⟨hB_st_66, (Or.inl ⟨rfl, ⟨r9_hw_61_0, e9_hw_62_0, (pRule_3 (hC.w0 hn8 (show _ ∧ _ ∧ _ from (by decide +kernel : (∀ c ∈ wTurns, 1 ≤ c ∧ c ≤ 255) ∧ wTurns.length ≤ 8 ∧ 0 < pkW wTurns)).1 (show _ ∧ _ ∧ _ from (by decide +kernel : (∀ c ∈ wTurns, 1 ≤ c ∧ c ≤ 255) ∧ wTurns.length ≤ 8 ∧ 0 < pkW wTurns)).2.1 (show _ ∧ _ ∧ _ from (by decide +kernel : (∀ c ∈ wTurns, 1 ≤ c ∧ c ≤ 255) ∧ wTurns.length ≤ 8 ∧ 0 < pkW wTurns)).2.2 (fun h9 => hw_1_0 ⟨h9.1, h9.2.trans (Eq.symm (by decide +kernel : _ = lN (pkW wTurns)))⟩)) (hC.w0 hn8 (show _ ∧ _ ∧ _ from (by decide +kernel : (∀ c ∈ wGuest, 1 ≤ c ∧ c ≤ 255) ∧ wGuest.length ≤ 8 ∧ 0 < pkW wGuest)).1 (show _ ∧ _ ∧ _ from (by decide +kernel : (∀ c ∈ wGuest, 1 ≤ c ∧ c ≤ 255) ∧ wGuest.length ≤ 8 ∧ 0 < pkW wGuest)).2.1 (show _ ∧ _ ∧ _ from (by decide +kernel : (∀ c ∈ wGuest, 1 ≤ c ∧ c ≤ 255) ∧ wGuest.length ≤ 8 ∧ 0 < pkW wGuest)).2.2 (fun h9 => hw_18_0 ⟨h9.1, h9.2.trans (Eq.symm (by decide +kernel : _ = lN (pkW wGuest)))⟩)) (hC.w0 hn8 (show _ ∧ _ ∧ _ from (by decide +kernel : (∀ c ∈ wWed, 1 ≤ c ∧ c ≤ 255) ∧ wWed.length ≤ 8 ∧ 0 < pkW wWed)).1 (show _ ∧ _ ∧ _ from (by decide +kernel : (∀ c ∈ wWed, 1 ≤ c ∧ c ≤ 255) ∧ wWed.length ≤ 8 ∧ 0 < pkW wWed)).2.1 (show _ ∧ _ ∧ _ from (by decide +kernel : (∀ c ∈ wWed, 1 ≤ c ∧ c ≤ 255) ∧ wWed.length ≤ 8 ∧ 0 < pkW wWed)).2.2 (fun h9 => hw_35_0 ⟨h9.1, h9.2.trans (Eq.symm (by decide +kernel : _ = lN (pkW wWed)))⟩)) ((hC.w1 hn8 (show _ ∧ _ ∧ _ from (by decide +kernel : (∀ c ∈ wDrought, 1 ≤ c ∧ c ≤ 255) ∧ wDrought.length ≤ 8 ∧ 0 < pkW wDrought)).1 (show _ ∧ _ ∧ _ from (by decide +kernel : (∀ c ∈ wDrought, 1 ≤ c ∧ c ≤ 255) ∧ wDrought.length ≤ 8 ∧ 0 < pkW wDrought)).2.1 (show _ ∧ _ ∧ _ from (by decide +kernel : (∀ c ∈ wDrought, 1 ≤ c ∧ c ≤ 255) ∧ wDrought.length ≤ 8 ∧ 0 < pkW wDrought)).2.2 hw_52_0.1 (hw_52_0.2.trans (by decide +kernel : _ = lN (pkW wDrought)))).trans (congrArg some (rfl.trans (Eq.symm (congrArg Int32.toInt (((congrFun (congrFun (congrFun est_59 0) 0) 11).trans (congrFun (congrFun (gU_k (by decide)) 0) 11))))))))).trans (pDrought_B.mpr ⟨_, hw_61_0_p0, hw_62_0_p0⟩), (hw_62_0_p1.rows ((congrFun (congrFun (congrFun est_66 0) 0) 11).trans (gU_other (by decide))) ((congrFun (congrFun (congrFun est_66 0) 0) 12).trans (gU_other (by decide))) ((congrFun (congrFun (congrFun est_66 0) 0) 14).trans (gU_other (by decide))) ((congrFun (congrFun (congrFun est_66 0) 0) 17).trans (gU_other (by decide))) ((congrFun (congrFun (congrFun est_66 0) 0) 59).trans (gU_other (by decide)))), hw_61_0_p3, (LM.add hLM hwf (mO.trans (mO.trans (mO.trans (mO.trans (by rw [est_59]; exact mO.up mO.rf (by first | (intro _; rfl) | (intro h9; exact absurd h9 (by decide)) | (intro _; omega)) (by first | (intro h9; exact absurd h9 (by decide)) | (intro _; omega))) (mO.frame n_60.2 (by decide))) hw_61_1) (mO.frame n_62.2 (by decide))) (mO.upk est_66 (by decide))) (by have h8 := gs_cl (x := x_58) (by omega); omega) (by rw [show (st_66 8 0 (x_58.toNatClampNeg)).toInt = 3 from ((congrArg Int32.toInt ((((congrFun (congrFun (congrFun est_66 8) 0) (x_58.toNatClampNeg)).trans (congrFun (congrFun (gU_k (by decide)) 0) (x_58.toNatClampNeg))).trans ((n_62.2 8 0 (x_58.toNatClampNeg) (show (800 : Nat) ∉ _ from by decide)).trans ((n_61.2 8 0 (x_58.toNatClampNeg) (show (800 : Nat) ∉ _ from by decide)).trans ((n_60.2 8 0 (x_58.toNatClampNeg) (show (800 : Nat) ∉ _ from by decide)).trans ((congrFun (congrFun (congrFun est_59 8) 0) (x_58.toNatClampNeg)).trans (gU_same _ _ _ _ _)))))))).trans (by decide))]; rw [hw_61_0_p2]; all_goals first | rfl | decide) hw_61_0_p4 (mA.trans (mA.trans mA.rf (mA.frame n_62.2 (by decide))) (mA.upk est_66 (by decide))))⟩, (by have hl0 : (1 : Int32).toInt = 1 := (by decide); have hq1 : (st_66 0 0 30).toInt = (x_65 : Int32).toInt := congrArg Int32.toInt (((congrFun (congrFun (congrFun est_66 0) 0) 30).trans (gU_same _ _ _ _ _))); have hb2 : (0 : Int) ≤ (st_66 0 0 30).toInt ∧ (st_66 0 0 30).toInt ≤ (20 : Int) := hB_st_66.1 0 0 30; have hb3 : (0 : Int) ≤ (st 0 0 30).toInt ∧ (st 0 0 30).toInt ≤ (20 : Int) := hB_st.1 0 0 30; omega), (LM.oth hLO hwo (mO.trans (mO.trans (mO.trans (mO.trans (by rw [est_59]; exact mO.up mO.rf (by first | (intro _; rfl) | (intro h9; exact absurd h9 (by decide)) | (intro _; omega)) (by first | (intro h9; exact absurd h9 (by decide)) | (intro _; omega))) (mO.frame n_60.2 (by decide))) hw_61_1) (mO.frame n_62.2 (by decide))) (mO.upk est_66 (by decide))) (fun i hi => by have h8 := gs_cl (x := x_58) (by omega); omega))⟩)⟩ (by exact Nat.le_refl _) (by exact Nat.le_refl _) dX10_rule_207
              · skip
                refine lv_if_ne (tgt := 196) hx hb dX10_rule_191 (by decide) (fun h9 => absurd (by decide) h9) (fun _ => ?_)
                refine lv_iconst (v := 0) hx hb dX10_rule_194 (by decide) ?_
                exact gs_iret hx hb hr hlocks hM hS (by decide) ⟨hB_st_62, (Or.inr ⟨rfl, Or.inl ((pRule_3 (hC.w0 hn8 (show _ ∧ _ ∧ _ from (by decide +kernel : (∀ c ∈ wTurns, 1 ≤ c ∧ c ≤ 255) ∧ wTurns.length ≤ 8 ∧ 0 < pkW wTurns)).1 (show _ ∧ _ ∧ _ from (by decide +kernel : (∀ c ∈ wTurns, 1 ≤ c ∧ c ≤ 255) ∧ wTurns.length ≤ 8 ∧ 0 < pkW wTurns)).2.1 (show _ ∧ _ ∧ _ from (by decide +kernel : (∀ c ∈ wTurns, 1 ≤ c ∧ c ≤ 255) ∧ wTurns.length ≤ 8 ∧ 0 < pkW wTurns)).2.2 (fun h9 => hw_1_0 ⟨h9.1, h9.2.trans (Eq.symm (by decide +kernel : _ = lN (pkW wTurns)))⟩)) (hC.w0 hn8 (show _ ∧ _ ∧ _ from (by decide +kernel : (∀ c ∈ wGuest, 1 ≤ c ∧ c ≤ 255) ∧ wGuest.length ≤ 8 ∧ 0 < pkW wGuest)).1 (show _ ∧ _ ∧ _ from (by decide +kernel : (∀ c ∈ wGuest, 1 ≤ c ∧ c ≤ 255) ∧ wGuest.length ≤ 8 ∧ 0 < pkW wGuest)).2.1 (show _ ∧ _ ∧ _ from (by decide +kernel : (∀ c ∈ wGuest, 1 ≤ c ∧ c ≤ 255) ∧ wGuest.length ≤ 8 ∧ 0 < pkW wGuest)).2.2 (fun h9 => hw_18_0 ⟨h9.1, h9.2.trans (Eq.symm (by decide +kernel : _ = lN (pkW wGuest)))⟩)) (hC.w0 hn8 (show _ ∧ _ ∧ _ from (by decide +kernel : (∀ c ∈ wWed, 1 ≤ c ∧ c ≤ 255) ∧ wWed.length ≤ 8 ∧ 0 < pkW wWed)).1 (show _ ∧ _ ∧ _ from (by decide +kernel : (∀ c ∈ wWed, 1 ≤ c ∧ c ≤ 255) ∧ wWed.length ≤ 8 ∧ 0 < pkW wWed)).2.1 (show _ ∧ _ ∧ _ from (by decide +kernel : (∀ c ∈ wWed, 1 ≤ c ∧ c ≤ 255) ∧ wWed.length ≤ 8 ∧ 0 < pkW wWed)).2.2 (fun h9 => hw_35_0 ⟨h9.1, h9.2.trans (Eq.symm (by decide +kernel : _ = lN (pkW wWed)))⟩)) ((hC.w1 hn8 (show _ ∧ _ ∧ _ from (by decide +kernel : (∀ c ∈ wDrought, 1 ≤ c ∧ c ≤ 255) ∧ wDrought.length ≤ 8 ∧ 0 < pkW wDrought)).1 (show _ ∧ _ ∧ _ from (by decide +kernel : (∀ c ∈ wDrought, 1 ≤ c ∧ c ≤ 255) ∧ wDrought.length ≤ 8 ∧ 0 < pkW wDrought)).2.1 (show _ ∧ _ ∧ _ from (by decide +kernel : (∀ c ∈ wDrought, 1 ≤ c ∧ c ≤ 255) ∧ wDrought.length ≤ 8 ∧ 0 < pkW wDrought)).2.2 hw_52_0.1 (hw_52_0.2.trans (by decide +kernel : _ = lN (pkW wDrought)))).trans (congrArg some (rfl.trans (Eq.symm (congrArg Int32.toInt (((congrFun (congrFun (congrFun est_59 0) 0) 11).trans (congrFun (congrFun (gU_k (by decide)) 0) 11))))))))).trans (noB (fun r9 q9 => pDrought_B) (Or.inr ⟨_, _, hw_61_0_p0, hw_62_0⟩))), (by have hl0 : (0 : Int32).toInt = 0 := (by decide); have hq1 : (st_62 0 0 30).toInt = ((st 0 0 30) : Int32).toInt := congrArg Int32.toInt (((n_62.2 0 0 30 (show (30 : Nat) ∉ _ from by decide)).trans ((n_61.2 0 0 30 (show (30 : Nat) ∉ _ from by decide)).trans ((n_60.2 0 0 30 (show (30 : Nat) ∉ _ from by decide)).trans ((congrFun (congrFun (congrFun est_59 0) 0) 30).trans (congrFun (congrFun (gU_k (by decide)) 0) 30)))))); have hb2 : (0 : Int) ≤ (st_62 0 0 30).toInt ∧ (st_62 0 0 30).toInt ≤ (20 : Int) := hB_st_62.1 0 0 30; have hb3 : (0 : Int) ≤ (st 0 0 30).toInt ∧ (st 0 0 30).toInt ≤ (20 : Int) := hB_st.1 0 0 30; omega), (LM.oth hLO hwo (mO.trans (mO.trans (mO.trans (by rw [est_59]; exact mO.up mO.rf (by first | (intro _; rfl) | (intro h9; exact absurd h9 (by decide)) | (intro _; omega)) (by first | (intro h9; exact absurd h9 (by decide)) | (intro _; omega))) (mO.frame n_60.2 (by decide))) hw_61_1) (mO.frame n_62.2 (by decide))) (fun i hi => by have h8 := gs_cl (x := x_58) (by omega); omega))⟩)⟩ (by exact Nat.le_refl _) (by exact Nat.le_refl _) dX10_rule_195
            · skip
              refine lv_goto (tgt := 180) hx hb dX10_rule_172 (by decide) ?_
              refine lv_istore_n (lv' := [(3, .int 0), (2, .int x_58), (1, .int 3), (0, .ref (ad 0 0))]) hx hb dX10_rule_180 rfl hl (by decide) rfl (fun ls hl => ?_)
              refine lv_iload_n hx hb dX10_rule_181 rfl (lv_at hl 0 rfl) ?_
              refine lv_if_eq (tgt := 194) hx hb dX10_rule_182 (by decide) (fun _ => ?_) (fun h9 => absurd (by decide) h9)
              refine lv_iconst (v := 0) hx hb dX10_rule_194 (by decide) ?_
              exact gs_iret hx hb hr hlocks hM hS (by decide) ⟨hB_st_61, (Or.inr ⟨rfl, Or.inl ((pRule_3 (hC.w0 hn8 (show _ ∧ _ ∧ _ from (by decide +kernel : (∀ c ∈ wTurns, 1 ≤ c ∧ c ≤ 255) ∧ wTurns.length ≤ 8 ∧ 0 < pkW wTurns)).1 (show _ ∧ _ ∧ _ from (by decide +kernel : (∀ c ∈ wTurns, 1 ≤ c ∧ c ≤ 255) ∧ wTurns.length ≤ 8 ∧ 0 < pkW wTurns)).2.1 (show _ ∧ _ ∧ _ from (by decide +kernel : (∀ c ∈ wTurns, 1 ≤ c ∧ c ≤ 255) ∧ wTurns.length ≤ 8 ∧ 0 < pkW wTurns)).2.2 (fun h9 => hw_1_0 ⟨h9.1, h9.2.trans (Eq.symm (by decide +kernel : _ = lN (pkW wTurns)))⟩)) (hC.w0 hn8 (show _ ∧ _ ∧ _ from (by decide +kernel : (∀ c ∈ wGuest, 1 ≤ c ∧ c ≤ 255) ∧ wGuest.length ≤ 8 ∧ 0 < pkW wGuest)).1 (show _ ∧ _ ∧ _ from (by decide +kernel : (∀ c ∈ wGuest, 1 ≤ c ∧ c ≤ 255) ∧ wGuest.length ≤ 8 ∧ 0 < pkW wGuest)).2.1 (show _ ∧ _ ∧ _ from (by decide +kernel : (∀ c ∈ wGuest, 1 ≤ c ∧ c ≤ 255) ∧ wGuest.length ≤ 8 ∧ 0 < pkW wGuest)).2.2 (fun h9 => hw_18_0 ⟨h9.1, h9.2.trans (Eq.symm (by decide +kernel : _ = lN (pkW wGuest)))⟩)) (hC.w0 hn8 (show _ ∧ _ ∧ _ from (by decide +kernel : (∀ c ∈ wWed, 1 ≤ c ∧ c ≤ 255) ∧ wWed.length ≤ 8 ∧ 0 < pkW wWed)).1 (show _ ∧ _ ∧ _ from (by decide +kernel : (∀ c ∈ wWed, 1 ≤ c ∧ c ≤ 255) ∧ wWed.length ≤ 8 ∧ 0 < pkW wWed)).2.1 (show _ ∧ _ ∧ _ from (by decide +kernel : (∀ c ∈ wWed, 1 ≤ c ∧ c ≤ 255) ∧ wWed.length ≤ 8 ∧ 0 < pkW wWed)).2.2 (fun h9 => hw_35_0 ⟨h9.1, h9.2.trans (Eq.symm (by decide +kernel : _ = lN (pkW wWed)))⟩)) ((hC.w1 hn8 (show _ ∧ _ ∧ _ from (by decide +kernel : (∀ c ∈ wDrought, 1 ≤ c ∧ c ≤ 255) ∧ wDrought.length ≤ 8 ∧ 0 < pkW wDrought)).1 (show _ ∧ _ ∧ _ from (by decide +kernel : (∀ c ∈ wDrought, 1 ≤ c ∧ c ≤ 255) ∧ wDrought.length ≤ 8 ∧ 0 < pkW wDrought)).2.1 (show _ ∧ _ ∧ _ from (by decide +kernel : (∀ c ∈ wDrought, 1 ≤ c ∧ c ≤ 255) ∧ wDrought.length ≤ 8 ∧ 0 < pkW wDrought)).2.2 hw_52_0.1 (hw_52_0.2.trans (by decide +kernel : _ = lN (pkW wDrought)))).trans (congrArg some (rfl.trans (Eq.symm (congrArg Int32.toInt (((congrFun (congrFun (congrFun est_59 0) 0) 11).trans (congrFun (congrFun (gU_k (by decide)) 0) 11))))))))).trans (noB (fun r9 q9 => pDrought_B) (Or.inl hw_61_0))), (by have hl0 : (0 : Int32).toInt = 0 := (by decide); have hq1 : (st_61 0 0 30).toInt = ((st 0 0 30) : Int32).toInt := congrArg Int32.toInt (((n_61.2 0 0 30 (show (30 : Nat) ∉ _ from by decide)).trans ((n_60.2 0 0 30 (show (30 : Nat) ∉ _ from by decide)).trans ((congrFun (congrFun (congrFun est_59 0) 0) 30).trans (congrFun (congrFun (gU_k (by decide)) 0) 30))))); have hb2 : (0 : Int) ≤ (st_61 0 0 30).toInt ∧ (st_61 0 0 30).toInt ≤ (20 : Int) := hB_st_61.1 0 0 30; have hb3 : (0 : Int) ≤ (st 0 0 30).toInt ∧ (st 0 0 30).toInt ≤ (20 : Int) := hB_st.1 0 0 30; omega), (LM.oth hLO hwo (mO.trans (mO.trans (by rw [est_59]; exact mO.up mO.rf (by first | (intro _; rfl) | (intro h9; exact absurd h9 (by decide)) | (intro _; omega)) (by first | (intro h9; exact absurd h9 (by decide)) | (intro _; omega))) (mO.frame n_60.2 (by decide))) hw_61_1) (fun i hi => by have h8 := gs_cl (x := x_58) (by omega); omega))⟩)⟩ (by exact Nat.le_refl _) (by exact Nat.le_refl _) dX10_rule_195
          · have ic_54 := gz_eqn (rfl : (st 0 0 30).toInt = (st 0 0 30).toInt) (by decide : (20 : Int32).toInt = 20) c_54
            refine lv_aload_n hx hb dX10_rule_90 rfl (lv_at hl 1 rfl) ?_
            refine lv_iconst (v := 4) hx hb dX10_rule_91 (by decide) ?_
            refine lv_aload_n hx hb dX10_rule_92 rfl (lv_at hl 1 rfl) ?_
            refine gs_get (C := RX10) (T := TX10) (N := 59) hx hb hts inX10 hown hK hM 0 0 13 (by decide) rfl rfl (by decide) (hts _ gm_914) (fun _ h9 => h9) rfl dX10_rule_93 ?_
            refine gs_calli (va_runV (As := [.int 4, .int (st 0 0 13)]) (rest := []) ⟨hx, hb, hml, hown, hts⟩ (m_wrong l G cy sK sV ad H.size st hB_st.1 (4 : Int32) (st 0 0 13) ) ⟨(gz_cb (n := 2) hts gm_1131 gm_12 gm_1134 ⟨by decide +kernel, by decide +kernel, by decide +kernel⟩ ⟨Nat.le_of_ble_eq_true rfl, Nat.le_of_ble_eq_true rfl⟩), hts _ gm_1133, hts _ gs_37⟩ (gs_preV hK hov hE hI hM hm hS hA 0 0 (by decide) rfl rfl) rfl rfl hl.1 rfl (lv_room (Nat.le_of_ble_eq_true rfl)) dX10_rule_96 ⟨Nat.le_of_ble_eq_true rfl, Nat.le_of_ble_eq_true rfl⟩) hm hS hA (fun r_68 st_68 H locs hw_68 hM hS => ?_)
            obtain ⟨n_68, hw_68⟩ := hw_68
            have hB_st_68 : gBN bM kM [11, 12, 13, 14, 15, 16, 17, 18, 19, 30, 59, 800, 900, 1000, 1100, 1200, 1300, 1400, 1500] st st_68 := hB_st.call n_68 (by decide)
            obtain rfl := hw_68
            exact gs_iret hx hb hr hlocks hM hS (by decide) ⟨hB_st_68, (Or.inr ⟨rfl, Or.inr (by omega), (by have hl0 : (0 : Int32).toInt = 0 := (by decide); have hq1 : (st_68 0 0 30).toInt = ((st 0 0 30) : Int32).toInt := congrArg Int32.toInt ((n_68.2 0 0 30 (show (30 : Nat) ∉ _ from by decide))); have hb2 : (0 : Int) ≤ (st_68 0 0 30).toInt ∧ (st_68 0 0 30).toInt ≤ (20 : Int) := hB_st_68.1 0 0 30; have hb3 : (0 : Int) ≤ (st 0 0 30).toInt ∧ (st 0 0 30).toInt ≤ (20 : Int) := hB_st.1 0 0 30; omega), (LM.all hLO (mA.trans mA.rf (mA.frame n_68.2 (by decide))))⟩)⟩ (by exact Nat.le_refl _) (by exact Nat.le_refl _) dX10_rule_99
        · skip
          refine lv_if_eq (tgt := 56) hx hb dX10_rule_49 (by decide) (fun _ => ?_) (fun h9 => absurd (by decide) h9)
          refine lv_aload_n hx hb dX10_rule_56 rfl (lv_at hl 0 rfl) ?_
          refine lv_ldc2 (v := 6582905) hx hb hown (hts _ gm_1126) dX10_rule_57 ?_
          refine gs_calli (va_runV (As := [.long (6582905 : Int64)]) (rest := []) ⟨hx, hb, hml, hown, hts⟩ (m_isWord l G cy sK sV ad H.size st hB_st.1 (6582905 : Int64) ) ⟨(gz_cb (n := 1) hts gm_1119 gm_12 gm_1122 ⟨by decide +kernel, by decide +kernel, by decide +kernel⟩ ⟨Nat.le_of_ble_eq_true rfl, Nat.le_of_ble_eq_true rfl⟩), hts _ gm_1121, hts _ gs_35⟩ (gs_preV hK hov hE hI hM hm hS hA 0 0 (by decide) rfl rfl) rfl rfl hl.1 rfl (lv_room (Nat.le_of_ble_eq_true rfl)) dX10_rule_60 ⟨Nat.le_of_ble_eq_true rfl, Nat.le_of_ble_eq_true rfl⟩) hm hS hA (fun r_69 st_69 H locs hw_69 hM hS => ?_)
          obtain ⟨n_69, hw_69⟩ := hw_69
          have n_69 := gBN.nil n_69
          subst n_69
          rcases hw_69 with ⟨rfl, hw_69_0⟩ | ⟨rfl, hw_69_0⟩
          · skip
            refine lv_if_eq (tgt := 70) hx hb dX10_rule_63 (by decide) (fun h9 => absurd h9 (by decide)) (fun _ => ?_)
            refine lv_iconst (v := 4) hx hb dX10_rule_66 (by decide) ?_
            refine lv_goto (tgt := 71) hx hb dX10_rule_67 (by decide) ?_
            refine lv_istore_n (lv' := [(1, .int 4), (0, .ref (ad 0 0))]) hx hb dX10_rule_71 rfl hl (by decide) rfl (fun ls hl => ?_)
            refine lv_iload_n hx hb dX10_rule_72 rfl (lv_at hl 0 rfl) ?_
            refine lv_if_ge (tgt := 81) hx hb dX10_rule_73 (by decide) (fun _ => ?_) (fun h9 => absurd (by decide) h9)
            refine lv_aload_n hx hb dX10_rule_81 rfl (lv_at hl 1 rfl) ?_
            refine gs_get (C := RX10) (T := TX10) (N := 59) hx hb hts inX10 hown hK hM 0 0 30 (by decide) rfl rfl (by decide) (hts _ gm_931) (fun _ h9 => h9) rfl dX10_rule_82 ?_
            have bf_70 : (0 : Int) ≤ (st 0 0 30).toInt ∧ (st 0 0 30).toInt ≤ (20 : Int) := hB_st.1 0 0 30
            refine lv_bipush (v := 20) hx hb dX10_rule_85 (by decide) ?_
            refine lv_icmp_ne (tgt := 100) hx hb dX10_rule_87 (by decide) (fun c_71 => ?_) (fun c_71 => ?_)
            · have ic_71 := gz_ne (rfl : (st 0 0 30).toInt = (st 0 0 30).toInt) (by decide : (20 : Int32).toInt = 20) c_71
              refine lv_bipush (v := 24) hx hb dX10_rule_100 (by decide) ?_
              refine lv_aload_n hx hb dX10_rule_102 rfl (lv_at hl 1 rfl) ?_
              refine gs_get (C := RX10) (T := TX10) (N := 59) hx hb hts inX10 hown hK hM 0 0 28 (by decide) rfl rfl (by decide) (hts _ gm_929) (fun _ h9 => h9) rfl dX10_rule_103 ?_
              have bf_72 : (0 : Int) ≤ (st 0 0 28).toInt ∧ (st 0 0 28).toInt ≤ (1 : Int) := hB_st.1 0 0 28
              refine lv_imul hx hb dX10_rule_106 ?_
              refine lv_topi (fun x_73 ex_73 => ?_)
              try have tx_73 : x_73.toInt = 24 * (st 0 0 28).toInt := by rw [ex_73]; exact gz_mulI (x := 24) (y := (st 0 0 28).toInt) (by decide) rfl (by omega) (by omega)
              refine lv_aload_n hx hb dX10_rule_107 rfl (lv_at hl 1 rfl) ?_
              refine gs_get (C := RX10) (T := TX10) (N := 59) hx hb hts inX10 hown hK hM 0 0 30 (by decide) rfl rfl (by decide) (hts _ gm_931) (fun _ h9 => h9) rfl dX10_rule_108 ?_
              have bf_74 : (0 : Int) ≤ (st 0 0 30).toInt ∧ (st 0 0 30).toInt ≤ (20 : Int) := hB_st.1 0 0 30
              refine lv_iadd hx hb dX10_rule_111 ?_
              refine lv_topi (fun x_75 ex_75 => ?_)
              try have tx_75 : x_75.toInt = x_73.toInt + (st 0 0 30).toInt := by rw [ex_75]; exact gz_addI (x := x_73.toInt) (y := (st 0 0 30).toInt) rfl rfl (by omega) (by omega)
              refine lv_istore_n (lv' := [(2, .int x_75), (1, .int 4), (0, .ref (ad 0 0))]) hx hb dX10_rule_112 rfl hl (by decide) rfl (fun ls hl => ?_)
              refine lv_aload_n hx hb dX10_rule_113 rfl (lv_at hl 2 rfl) ?_
              refine gs_get (C := RX10) (T := TX10) (N := 59) hx hb hts inX10 hown hK hM 0 0 20 (by decide) rfl rfl (by decide) (hts _ gm_921) (fun _ h9 => h9) rfl dX10_rule_114 ?_
              refine lv_iload_n hx hb dX10_rule_117 rfl (lv_at hl 0 rfl) ?_
              refine lv_iload_n hx hb dX10_rule_118 rfl (lv_at hl 1 rfl) ?_
              refine gs_iast hx hb hK hI hm hM hS 8 0 (by decide) (fun _ => rfl) (vp_in_iff.mpr ⟨by omega, by omega⟩) dX10_rule_119 (fun st_76 H locs est_76 hM hS => ?_)
              have hB_st_76 : gBN bM kM [11, 12, 13, 14, 15, 16, 17, 18, 19, 30, 59, 800, 900, 1000, 1100, 1200, 1300, 1400, 1500] st st_76 := by rw [est_76]; exact hB_st.up (show (800 : Nat) ∈ _ from by decide) (gi_lo _) (gi_hi _)
              refine lv_aload_n hx hb dX10_rule_120 rfl (lv_at hl 2 rfl) ?_
              refine gs_callv (va_runV (As := []) (rest := []) ⟨hx, hb, hml, hown, hts⟩ (m_next0 l G cy sK sV ad H.size st_76 hB_st_76.1  F N (((congrFun (congrFun est_76 7) 0).trans ((congrFun (gU_k (by decide)) 0).trans rfl)).trans hF) ((congrArg Int32.toInt (((congrFun (congrFun (congrFun est_76 0) 0) 10).trans (congrFun (congrFun (gU_k (by decide)) 0) 10)))).trans hN)) ⟨(gz_cb (n := 0) hts gm_1100 gm_12 gm_1103 ⟨by decide +kernel, by decide +kernel, by decide +kernel⟩ ⟨Nat.le_of_ble_eq_true rfl, Nat.le_of_ble_eq_true rfl⟩), hts _ gm_1102, hts _ gs_32⟩ (gs_preV hK hov hE hI hM hm hS hA 0 0 (by decide) rfl rfl) rfl rfl hl.1 rfl (lv_room (Nat.le_of_ble_eq_true rfl)) dX10_rule_121 ⟨Nat.le_of_ble_eq_true rfl, Nat.le_of_ble_eq_true rfl⟩) hm hS hA (fun st_77 H locs hw_77 hM hS => ?_)
              obtain ⟨n_77, hw_77⟩ := hw_77
              have hB_st_77 : gBN bM kM [11, 12, 13, 14, 15, 16, 17, 18, 19, 30, 59, 800, 900, 1000, 1100, 1200, 1300, 1400, 1500] st st_77 := hB_st_76.call n_77 (by decide)
              have hqhw_770 : (st_76 0 0 11).toInt = ((st 0 0 11) : Int32).toInt := congrArg Int32.toInt (((congrFun (congrFun (congrFun est_76 0) 0) 11).trans (congrFun (congrFun (gU_k (by decide)) 0) 11)))
              have hbhw_771 : (0 : Int) ≤ (st_76 0 0 11).toInt ∧ (st_76 0 0 11).toInt ≤ (800 : Int) := hB_st_76.1 0 0 11
              have hw_77_0 := hw_77
              refine lv_iload_n hx hb dX10_rule_124 rfl (lv_at hl 1 rfl) ?_
              refine lv_if_ne (tgt := 136) hx hb dX10_rule_125 (by decide) (fun _ => ?_) (fun h9 => absurd h9 (by decide))
              refine lv_iload_n hx hb dX10_rule_136 rfl (lv_at hl 1 rfl) ?_
              refine lv_iconst (v := 1) hx hb dX10_rule_137 (by decide) ?_
              refine lv_icmp_ne (tgt := 149) hx hb dX10_rule_138 (by decide) (fun _ => ?_) (fun h9 => absurd h9 (by decide))
              refine lv_iload_n hx hb dX10_rule_149 rfl (lv_at hl 1 rfl) ?_
              refine lv_iconst (v := 2) hx hb dX10_rule_150 (by decide) ?_
              refine lv_icmp_ne (tgt := 162) hx hb dX10_rule_151 (by decide) (fun _ => ?_) (fun h9 => absurd h9 (by decide))
              refine lv_iload_n hx hb dX10_rule_162 rfl (lv_at hl 1 rfl) ?_
              refine lv_iconst (v := 3) hx hb dX10_rule_163 (by decide) ?_
              refine lv_icmp_ne (tgt := 175) hx hb dX10_rule_164 (by decide) (fun _ => ?_) (fun h9 => absurd h9 (by decide))
              refine lv_aload_n hx hb dX10_rule_175 rfl (lv_at hl 2 rfl) ?_
              refine lv_iload_n hx hb dX10_rule_176 rfl (lv_at hl 0 rfl) ?_
              refine gs_calli (va_runV (As := [.int x_75]) (rest := []) ⟨hx, hb, hml, hown, hts⟩ (m_dry l G cy sK sV ad H.size st_77 hB_st_77.1 x_75 x_75.toInt rfl (by first | decide | omega) (by first | decide | omega) F N (((funext (fun j9 => n_77.2 7 0 j9 (show (700 : Nat) ∉ _ from by decide))).trans ((congrFun (congrFun est_76 7) 0).trans ((congrFun (gU_k (by decide)) 0).trans rfl))).trans hF) ((congrArg Int32.toInt (((n_77.2 0 0 10 (show (10 : Nat) ∉ _ from by decide)).trans ((congrFun (congrFun (congrFun est_76 0) 0) 10).trans (congrFun (congrFun (gU_k (by decide)) 0) 10))))).trans hN) ((st_76 0 0 11).toInt) hw_77_0) ⟨(gz_cb (n := 1) hts gm_1172 gm_12 gm_1175 ⟨by decide +kernel, by decide +kernel, by decide +kernel⟩ ⟨Nat.le_of_ble_eq_true rfl, Nat.le_of_ble_eq_true rfl⟩), hts _ gm_1174, hts _ gs_46⟩ (gs_preV hK hov hE hI hM hm hS hA 0 0 (by decide) rfl rfl) rfl rfl hl.1 rfl (lv_room (Nat.le_of_ble_eq_true rfl)) dX10_rule_177 ⟨Nat.le_of_ble_eq_true rfl, Nat.le_of_ble_eq_true rfl⟩) hm hS hA (fun r_78 st_78 H locs hw_78 hM hS => ?_)
              obtain ⟨n_78, hw_78⟩ := hw_78
              have hB_st_78 : gBN bM kM [11, 12, 13, 14, 15, 16, 17, 18, 19, 30, 59, 800, 900, 1000, 1100, 1200, 1300, 1400, 1500] st st_78 := hB_st_77.call n_78 (by decide)
              rcases hw_78 with ⟨rfl, hw_78_0, hw_78_1⟩ | ⟨rfl, hw_78_0, hw_78_1⟩
              · skip
                obtain ⟨r9_hw_78_0, e9_hw_78_0, hw_78_0_p0, hw_78_0_p1, hw_78_0_p2, hw_78_0_p3, hw_78_0_p4⟩ := hw_78_0
                refine lv_istore_n (lv' := [(3, .int 1), (2, .int x_75), (1, .int 4), (0, .ref (ad 0 0))]) hx hb dX10_rule_180 rfl hl (by decide) rfl (fun ls hl => ?_)
                refine lv_iload_n hx hb dX10_rule_181 rfl (lv_at hl 0 rfl) ?_
                refine lv_if_eq (tgt := 194) hx hb dX10_rule_182 (by decide) (fun h9 => absurd h9 (by decide)) (fun _ => ?_)
                refine lv_aload_n hx hb dX10_rule_185 rfl (lv_at hl 3 rfl) ?_
                refine lv_bipush (v := 59) hx hb dX10_rule_186 (by decide) ?_
                refine gs_calli (va_runV (As := [.int 59]) (rest := []) ⟨hx, hb, hml, hown, hts⟩ (m_must l G cy sK sV ad H.size st_78 hB_st_78.1 (59 : Int32) 59 (by decide) F N (((funext (fun j9 => n_78.2 7 0 j9 (show (700 : Nat) ∉ _ from by decide))).trans ((funext (fun j9 => n_77.2 7 0 j9 (show (700 : Nat) ∉ _ from by decide))).trans ((congrFun (congrFun est_76 7) 0).trans ((congrFun (gU_k (by decide)) 0).trans rfl)))).trans hF) ((congrArg Int32.toInt (((n_78.2 0 0 10 (show (10 : Nat) ∉ _ from by decide)).trans ((n_77.2 0 0 10 (show (10 : Nat) ∉ _ from by decide)).trans ((congrFun (congrFun (congrFun est_76 0) 0) 10).trans (congrFun (congrFun (gU_k (by decide)) 0) 10)))))).trans hN) e9_hw_78_0 hw_78_0_p1) ⟨(gz_cb (n := 1) hts gm_1143 gm_12 gm_1146 ⟨by decide +kernel, by decide +kernel, by decide +kernel⟩ ⟨Nat.le_of_ble_eq_true rfl, Nat.le_of_ble_eq_true rfl⟩), hts _ gm_1145, hts _ gs_40⟩ (gs_preV hK hov hE hI hM hm hS hA 0 0 (by decide) rfl rfl) rfl rfl hl.1 rfl (lv_room (Nat.le_of_ble_eq_true rfl)) dX10_rule_188 ⟨Nat.le_of_ble_eq_true rfl, Nat.le_of_ble_eq_true rfl⟩) hm hS hA (fun r_79 st_79 H locs hw_79 hM hS => ?_)
                obtain ⟨n_79, hw_79⟩ := hw_79
                have hB_st_79 : gBN bM kM [11, 12, 13, 14, 15, 16, 17, 18, 19, 30, 59, 800, 900, 1000, 1100, 1200, 1300, 1400, 1500] st st_79 := hB_st_78.call n_79 (by decide)
                rcases hw_79 with ⟨rfl, hw_79_0⟩ | ⟨rfl, hw_79_0⟩
                · skip
                  obtain ⟨e9_hw_79_0, hw_79_0_p0, hw_79_0_p1⟩ := hw_79_0
                  refine lv_if_ne (tgt := 196) hx hb dX10_rule_191 (by decide) (fun _ => ?_) (fun h9 => absurd h9 (by decide))
                  refine lv_aload_n hx hb dX10_rule_196 rfl (lv_at hl 3 rfl) ?_
                  refine lv_dup hx hb dX10_rule_197 rfl ?_
                  refine gs_get (C := RX10) (T := TX10) (N := 59) hx hb hts inX10 hown hK hM 0 0 30 (by decide) rfl rfl (by decide) (hts _ gm_931) (fun _ h9 => h9) rfl dX10_rule_198 ?_
                  refine lv_topi (fun x_80 ex_80 => ?_)
                  have ex_80 : (st 0 0 30) = x_80 := Eq.symm (ex_80.trans ((n_79.2 0 0 30 (show (30 : Nat) ∉ _ from by decide)).trans ((n_78.2 0 0 30 (show (30 : Nat) ∉ _ from by decide)).trans ((n_77.2 0 0 30 (show (30 : Nat) ∉ _ from by decide)).trans ((congrFun (congrFun (congrFun est_76 0) 0) 30).trans (congrFun (congrFun (gU_k (by decide)) 0) 30))))))
                  subst ex_80
                  have bf_81 : (0 : Int) ≤ (st 0 0 30).toInt ∧ (st 0 0 30).toInt ≤ (20 : Int) := hB_st.1 0 0 30
                  refine lv_iconst (v := 1) hx hb dX10_rule_201 (by decide) ?_
                  refine lv_iadd hx hb dX10_rule_202 ?_
                  refine lv_topi (fun x_82 ex_82 => ?_)
                  try have tx_82 : x_82.toInt = (st 0 0 30).toInt + 1 := by rw [ex_82]; exact gz_addP (x := (st 0 0 30).toInt) (y := 1) rfl (by decide) (by omega) (by omega)
                  refine gs_put (C := RX10) (T := TX10) (N := 59) (ty := .int) (val := .int x_82) hx hb hts inX10 tyX10 tyX10_ok nmX10 hown hK hI hm hM hS 0 0 30 (by decide) rfl rfl (by decide) (hts _ gm_931) (fun _ h9 => h9) rfl (x_82 : Int32) rfl (by decide +kernel) rfl rfl (Nat.le_of_ble_eq_true rfl) dX10_rule_203 (fun st_83 H locs est_83 hM hS => ?_)
                  have hB_st_83 : gBN bM kM [11, 12, 13, 14, 15, 16, 17, 18, 19, 30, 59, 800, 900, 1000, 1100, 1200, 1300, 1400, 1500] st st_83 := by rw [est_83]; exact hB_st_79.up (show (30 : Nat) ∈ _ from by decide) (show (0 : Int) ≤ x_82.toInt from by omega) (show x_82.toInt ≤ (20 : Int) from by omega)
                  refine lv_iconst (v := 1) hx hb dX10_rule_206 (by decide) ?_
                  exact gs_iret hx hb hr hlocks hM hS (by decide) ⟨hB_st_83, (Or.inl ⟨rfl, ⟨r9_hw_78_0, e9_hw_79_0, (pRule_4 (hC.w0 hn8 (show _ ∧ _ ∧ _ from (by decide +kernel : (∀ c ∈ wTurns, 1 ≤ c ∧ c ≤ 255) ∧ wTurns.length ≤ 8 ∧ 0 < pkW wTurns)).1 (show _ ∧ _ ∧ _ from (by decide +kernel : (∀ c ∈ wTurns, 1 ≤ c ∧ c ≤ 255) ∧ wTurns.length ≤ 8 ∧ 0 < pkW wTurns)).2.1 (show _ ∧ _ ∧ _ from (by decide +kernel : (∀ c ∈ wTurns, 1 ≤ c ∧ c ≤ 255) ∧ wTurns.length ≤ 8 ∧ 0 < pkW wTurns)).2.2 (fun h9 => hw_1_0 ⟨h9.1, h9.2.trans (Eq.symm (by decide +kernel : _ = lN (pkW wTurns)))⟩)) (hC.w0 hn8 (show _ ∧ _ ∧ _ from (by decide +kernel : (∀ c ∈ wGuest, 1 ≤ c ∧ c ≤ 255) ∧ wGuest.length ≤ 8 ∧ 0 < pkW wGuest)).1 (show _ ∧ _ ∧ _ from (by decide +kernel : (∀ c ∈ wGuest, 1 ≤ c ∧ c ≤ 255) ∧ wGuest.length ≤ 8 ∧ 0 < pkW wGuest)).2.1 (show _ ∧ _ ∧ _ from (by decide +kernel : (∀ c ∈ wGuest, 1 ≤ c ∧ c ≤ 255) ∧ wGuest.length ≤ 8 ∧ 0 < pkW wGuest)).2.2 (fun h9 => hw_18_0 ⟨h9.1, h9.2.trans (Eq.symm (by decide +kernel : _ = lN (pkW wGuest)))⟩)) (hC.w0 hn8 (show _ ∧ _ ∧ _ from (by decide +kernel : (∀ c ∈ wWed, 1 ≤ c ∧ c ≤ 255) ∧ wWed.length ≤ 8 ∧ 0 < pkW wWed)).1 (show _ ∧ _ ∧ _ from (by decide +kernel : (∀ c ∈ wWed, 1 ≤ c ∧ c ≤ 255) ∧ wWed.length ≤ 8 ∧ 0 < pkW wWed)).2.1 (show _ ∧ _ ∧ _ from (by decide +kernel : (∀ c ∈ wWed, 1 ≤ c ∧ c ≤ 255) ∧ wWed.length ≤ 8 ∧ 0 < pkW wWed)).2.2 (fun h9 => hw_35_0 ⟨h9.1, h9.2.trans (Eq.symm (by decide +kernel : _ = lN (pkW wWed)))⟩)) (hC.w0 hn8 (show _ ∧ _ ∧ _ from (by decide +kernel : (∀ c ∈ wDrought, 1 ≤ c ∧ c ≤ 255) ∧ wDrought.length ≤ 8 ∧ 0 < pkW wDrought)).1 (show _ ∧ _ ∧ _ from (by decide +kernel : (∀ c ∈ wDrought, 1 ≤ c ∧ c ≤ 255) ∧ wDrought.length ≤ 8 ∧ 0 < pkW wDrought)).2.1 (show _ ∧ _ ∧ _ from (by decide +kernel : (∀ c ∈ wDrought, 1 ≤ c ∧ c ≤ 255) ∧ wDrought.length ≤ 8 ∧ 0 < pkW wDrought)).2.2 (fun h9 => hw_52_0 ⟨h9.1, h9.2.trans (Eq.symm (by decide +kernel : _ = lN (pkW wDrought)))⟩)) ((hC.w1 hn8 (show _ ∧ _ ∧ _ from (by decide +kernel : (∀ c ∈ wDry, 1 ≤ c ∧ c ≤ 255) ∧ wDry.length ≤ 8 ∧ 0 < pkW wDry)).1 (show _ ∧ _ ∧ _ from (by decide +kernel : (∀ c ∈ wDry, 1 ≤ c ∧ c ≤ 255) ∧ wDry.length ≤ 8 ∧ 0 < pkW wDry)).2.1 (show _ ∧ _ ∧ _ from (by decide +kernel : (∀ c ∈ wDry, 1 ≤ c ∧ c ≤ 255) ∧ wDry.length ≤ 8 ∧ 0 < pkW wDry)).2.2 hw_69_0.1 (hw_69_0.2.trans (by decide +kernel : _ = lN (pkW wDry)))).trans (congrArg some (rfl.trans (Eq.symm (congrArg Int32.toInt (((congrFun (congrFun (congrFun est_76 0) 0) 11).trans (congrFun (congrFun (gU_k (by decide)) 0) 11))))))))).trans (pDry_B.mpr ⟨_, hw_78_0_p0, hw_79_0_p0⟩), (hw_79_0_p1.rows ((congrFun (congrFun (congrFun est_83 0) 0) 11).trans (gU_other (by decide))) ((congrFun (congrFun (congrFun est_83 0) 0) 12).trans (gU_other (by decide))) ((congrFun (congrFun (congrFun est_83 0) 0) 14).trans (gU_other (by decide))) ((congrFun (congrFun (congrFun est_83 0) 0) 17).trans (gU_other (by decide))) ((congrFun (congrFun (congrFun est_83 0) 0) 59).trans (gU_other (by decide)))), hw_78_0_p3, (LM.add hLM hwf (mO.trans (mO.trans (mO.trans (mO.trans (by rw [est_76]; exact mO.up mO.rf (by first | (intro _; rfl) | (intro h9; exact absurd h9 (by decide)) | (intro _; omega)) (by first | (intro h9; exact absurd h9 (by decide)) | (intro _; omega))) (mO.frame n_77.2 (by decide))) hw_78_1) (mO.frame n_79.2 (by decide))) (mO.upk est_83 (by decide))) (by have h8 := gs_cl (x := x_75) (by omega); omega) (by rw [show (st_83 8 0 (x_75.toNatClampNeg)).toInt = 4 from ((congrArg Int32.toInt ((((congrFun (congrFun (congrFun est_83 8) 0) (x_75.toNatClampNeg)).trans (congrFun (congrFun (gU_k (by decide)) 0) (x_75.toNatClampNeg))).trans ((n_79.2 8 0 (x_75.toNatClampNeg) (show (800 : Nat) ∉ _ from by decide)).trans ((n_78.2 8 0 (x_75.toNatClampNeg) (show (800 : Nat) ∉ _ from by decide)).trans ((n_77.2 8 0 (x_75.toNatClampNeg) (show (800 : Nat) ∉ _ from by decide)).trans ((congrFun (congrFun (congrFun est_76 8) 0) (x_75.toNatClampNeg)).trans (gU_same _ _ _ _ _)))))))).trans (by decide))]; rw [hw_78_0_p2]; all_goals first | rfl | decide) hw_78_0_p4 (mA.trans (mA.trans mA.rf (mA.frame n_79.2 (by decide))) (mA.upk est_83 (by decide))))⟩, (by have hl0 : (1 : Int32).toInt = 1 := (by decide); have hq1 : (st_83 0 0 30).toInt = (x_82 : Int32).toInt := congrArg Int32.toInt (((congrFun (congrFun (congrFun est_83 0) 0) 30).trans (gU_same _ _ _ _ _))); have hb2 : (0 : Int) ≤ (st_83 0 0 30).toInt ∧ (st_83 0 0 30).toInt ≤ (20 : Int) := hB_st_83.1 0 0 30; have hb3 : (0 : Int) ≤ (st 0 0 30).toInt ∧ (st 0 0 30).toInt ≤ (20 : Int) := hB_st.1 0 0 30; omega), (LM.oth hLO hwo (mO.trans (mO.trans (mO.trans (mO.trans (by rw [est_76]; exact mO.up mO.rf (by first | (intro _; rfl) | (intro h9; exact absurd h9 (by decide)) | (intro _; omega)) (by first | (intro h9; exact absurd h9 (by decide)) | (intro _; omega))) (mO.frame n_77.2 (by decide))) hw_78_1) (mO.frame n_79.2 (by decide))) (mO.upk est_83 (by decide))) (fun i hi => by have h8 := gs_cl (x := x_75) (by omega); omega))⟩)⟩ (by exact Nat.le_refl _) (by exact Nat.le_refl _) dX10_rule_207
                · skip
                  refine lv_if_ne (tgt := 196) hx hb dX10_rule_191 (by decide) (fun h9 => absurd (by decide) h9) (fun _ => ?_)
                  refine lv_iconst (v := 0) hx hb dX10_rule_194 (by decide) ?_
                  exact gs_iret hx hb hr hlocks hM hS (by decide) ⟨hB_st_79, (Or.inr ⟨rfl, Or.inl ((pRule_4 (hC.w0 hn8 (show _ ∧ _ ∧ _ from (by decide +kernel : (∀ c ∈ wTurns, 1 ≤ c ∧ c ≤ 255) ∧ wTurns.length ≤ 8 ∧ 0 < pkW wTurns)).1 (show _ ∧ _ ∧ _ from (by decide +kernel : (∀ c ∈ wTurns, 1 ≤ c ∧ c ≤ 255) ∧ wTurns.length ≤ 8 ∧ 0 < pkW wTurns)).2.1 (show _ ∧ _ ∧ _ from (by decide +kernel : (∀ c ∈ wTurns, 1 ≤ c ∧ c ≤ 255) ∧ wTurns.length ≤ 8 ∧ 0 < pkW wTurns)).2.2 (fun h9 => hw_1_0 ⟨h9.1, h9.2.trans (Eq.symm (by decide +kernel : _ = lN (pkW wTurns)))⟩)) (hC.w0 hn8 (show _ ∧ _ ∧ _ from (by decide +kernel : (∀ c ∈ wGuest, 1 ≤ c ∧ c ≤ 255) ∧ wGuest.length ≤ 8 ∧ 0 < pkW wGuest)).1 (show _ ∧ _ ∧ _ from (by decide +kernel : (∀ c ∈ wGuest, 1 ≤ c ∧ c ≤ 255) ∧ wGuest.length ≤ 8 ∧ 0 < pkW wGuest)).2.1 (show _ ∧ _ ∧ _ from (by decide +kernel : (∀ c ∈ wGuest, 1 ≤ c ∧ c ≤ 255) ∧ wGuest.length ≤ 8 ∧ 0 < pkW wGuest)).2.2 (fun h9 => hw_18_0 ⟨h9.1, h9.2.trans (Eq.symm (by decide +kernel : _ = lN (pkW wGuest)))⟩)) (hC.w0 hn8 (show _ ∧ _ ∧ _ from (by decide +kernel : (∀ c ∈ wWed, 1 ≤ c ∧ c ≤ 255) ∧ wWed.length ≤ 8 ∧ 0 < pkW wWed)).1 (show _ ∧ _ ∧ _ from (by decide +kernel : (∀ c ∈ wWed, 1 ≤ c ∧ c ≤ 255) ∧ wWed.length ≤ 8 ∧ 0 < pkW wWed)).2.1 (show _ ∧ _ ∧ _ from (by decide +kernel : (∀ c ∈ wWed, 1 ≤ c ∧ c ≤ 255) ∧ wWed.length ≤ 8 ∧ 0 < pkW wWed)).2.2 (fun h9 => hw_35_0 ⟨h9.1, h9.2.trans (Eq.symm (by decide +kernel : _ = lN (pkW wWed)))⟩)) (hC.w0 hn8 (show _ ∧ _ ∧ _ from (by decide +kernel : (∀ c ∈ wDrought, 1 ≤ c ∧ c ≤ 255) ∧ wDrought.length ≤ 8 ∧ 0 < pkW wDrought)).1 (show _ ∧ _ ∧ _ from (by decide +kernel : (∀ c ∈ wDrought, 1 ≤ c ∧ c ≤ 255) ∧ wDrought.length ≤ 8 ∧ 0 < pkW wDrought)).2.1 (show _ ∧ _ ∧ _ from (by decide +kernel : (∀ c ∈ wDrought, 1 ≤ c ∧ c ≤ 255) ∧ wDrought.length ≤ 8 ∧ 0 < pkW wDrought)).2.2 (fun h9 => hw_52_0 ⟨h9.1, h9.2.trans (Eq.symm (by decide +kernel : _ = lN (pkW wDrought)))⟩)) ((hC.w1 hn8 (show _ ∧ _ ∧ _ from (by decide +kernel : (∀ c ∈ wDry, 1 ≤ c ∧ c ≤ 255) ∧ wDry.length ≤ 8 ∧ 0 < pkW wDry)).1 (show _ ∧ _ ∧ _ from (by decide +kernel : (∀ c ∈ wDry, 1 ≤ c ∧ c ≤ 255) ∧ wDry.length ≤ 8 ∧ 0 < pkW wDry)).2.1 (show _ ∧ _ ∧ _ from (by decide +kernel : (∀ c ∈ wDry, 1 ≤ c ∧ c ≤ 255) ∧ wDry.length ≤ 8 ∧ 0 < pkW wDry)).2.2 hw_69_0.1 (hw_69_0.2.trans (by decide +kernel : _ = lN (pkW wDry)))).trans (congrArg some (rfl.trans (Eq.symm (congrArg Int32.toInt (((congrFun (congrFun (congrFun est_76 0) 0) 11).trans (congrFun (congrFun (gU_k (by decide)) 0) 11))))))))).trans (noB (fun r9 q9 => pDry_B) (Or.inr ⟨_, _, hw_78_0_p0, hw_79_0⟩))), (by have hl0 : (0 : Int32).toInt = 0 := (by decide); have hq1 : (st_79 0 0 30).toInt = ((st 0 0 30) : Int32).toInt := congrArg Int32.toInt (((n_79.2 0 0 30 (show (30 : Nat) ∉ _ from by decide)).trans ((n_78.2 0 0 30 (show (30 : Nat) ∉ _ from by decide)).trans ((n_77.2 0 0 30 (show (30 : Nat) ∉ _ from by decide)).trans ((congrFun (congrFun (congrFun est_76 0) 0) 30).trans (congrFun (congrFun (gU_k (by decide)) 0) 30)))))); have hb2 : (0 : Int) ≤ (st_79 0 0 30).toInt ∧ (st_79 0 0 30).toInt ≤ (20 : Int) := hB_st_79.1 0 0 30; have hb3 : (0 : Int) ≤ (st 0 0 30).toInt ∧ (st 0 0 30).toInt ≤ (20 : Int) := hB_st.1 0 0 30; omega), (LM.oth hLO hwo (mO.trans (mO.trans (mO.trans (by rw [est_76]; exact mO.up mO.rf (by first | (intro _; rfl) | (intro h9; exact absurd h9 (by decide)) | (intro _; omega)) (by first | (intro h9; exact absurd h9 (by decide)) | (intro _; omega))) (mO.frame n_77.2 (by decide))) hw_78_1) (mO.frame n_79.2 (by decide))) (fun i hi => by have h8 := gs_cl (x := x_75) (by omega); omega))⟩)⟩ (by exact Nat.le_refl _) (by exact Nat.le_refl _) dX10_rule_195
              · skip
                refine lv_istore_n (lv' := [(3, .int 0), (2, .int x_75), (1, .int 4), (0, .ref (ad 0 0))]) hx hb dX10_rule_180 rfl hl (by decide) rfl (fun ls hl => ?_)
                refine lv_iload_n hx hb dX10_rule_181 rfl (lv_at hl 0 rfl) ?_
                refine lv_if_eq (tgt := 194) hx hb dX10_rule_182 (by decide) (fun _ => ?_) (fun h9 => absurd (by decide) h9)
                refine lv_iconst (v := 0) hx hb dX10_rule_194 (by decide) ?_
                exact gs_iret hx hb hr hlocks hM hS (by decide) ⟨hB_st_78, (Or.inr ⟨rfl, Or.inl ((pRule_4 (hC.w0 hn8 (show _ ∧ _ ∧ _ from (by decide +kernel : (∀ c ∈ wTurns, 1 ≤ c ∧ c ≤ 255) ∧ wTurns.length ≤ 8 ∧ 0 < pkW wTurns)).1 (show _ ∧ _ ∧ _ from (by decide +kernel : (∀ c ∈ wTurns, 1 ≤ c ∧ c ≤ 255) ∧ wTurns.length ≤ 8 ∧ 0 < pkW wTurns)).2.1 (show _ ∧ _ ∧ _ from (by decide +kernel : (∀ c ∈ wTurns, 1 ≤ c ∧ c ≤ 255) ∧ wTurns.length ≤ 8 ∧ 0 < pkW wTurns)).2.2 (fun h9 => hw_1_0 ⟨h9.1, h9.2.trans (Eq.symm (by decide +kernel : _ = lN (pkW wTurns)))⟩)) (hC.w0 hn8 (show _ ∧ _ ∧ _ from (by decide +kernel : (∀ c ∈ wGuest, 1 ≤ c ∧ c ≤ 255) ∧ wGuest.length ≤ 8 ∧ 0 < pkW wGuest)).1 (show _ ∧ _ ∧ _ from (by decide +kernel : (∀ c ∈ wGuest, 1 ≤ c ∧ c ≤ 255) ∧ wGuest.length ≤ 8 ∧ 0 < pkW wGuest)).2.1 (show _ ∧ _ ∧ _ from (by decide +kernel : (∀ c ∈ wGuest, 1 ≤ c ∧ c ≤ 255) ∧ wGuest.length ≤ 8 ∧ 0 < pkW wGuest)).2.2 (fun h9 => hw_18_0 ⟨h9.1, h9.2.trans (Eq.symm (by decide +kernel : _ = lN (pkW wGuest)))⟩)) (hC.w0 hn8 (show _ ∧ _ ∧ _ from (by decide +kernel : (∀ c ∈ wWed, 1 ≤ c ∧ c ≤ 255) ∧ wWed.length ≤ 8 ∧ 0 < pkW wWed)).1 (show _ ∧ _ ∧ _ from (by decide +kernel : (∀ c ∈ wWed, 1 ≤ c ∧ c ≤ 255) ∧ wWed.length ≤ 8 ∧ 0 < pkW wWed)).2.1 (show _ ∧ _ ∧ _ from (by decide +kernel : (∀ c ∈ wWed, 1 ≤ c ∧ c ≤ 255) ∧ wWed.length ≤ 8 ∧ 0 < pkW wWed)).2.2 (fun h9 => hw_35_0 ⟨h9.1, h9.2.trans (Eq.symm (by decide +kernel : _ = lN (pkW wWed)))⟩)) (hC.w0 hn8 (show _ ∧ _ ∧ _ from (by decide +kernel : (∀ c ∈ wDrought, 1 ≤ c ∧ c ≤ 255) ∧ wDrought.length ≤ 8 ∧ 0 < pkW wDrought)).1 (show _ ∧ _ ∧ _ from (by decide +kernel : (∀ c ∈ wDrought, 1 ≤ c ∧ c ≤ 255) ∧ wDrought.length ≤ 8 ∧ 0 < pkW wDrought)).2.1 (show _ ∧ _ ∧ _ from (by decide +kernel : (∀ c ∈ wDrought, 1 ≤ c ∧ c ≤ 255) ∧ wDrought.length ≤ 8 ∧ 0 < pkW wDrought)).2.2 (fun h9 => hw_52_0 ⟨h9.1, h9.2.trans (Eq.symm (by decide +kernel : _ = lN (pkW wDrought)))⟩)) ((hC.w1 hn8 (show _ ∧ _ ∧ _ from (by decide +kernel : (∀ c ∈ wDry, 1 ≤ c ∧ c ≤ 255) ∧ wDry.length ≤ 8 ∧ 0 < pkW wDry)).1 (show _ ∧ _ ∧ _ from (by decide +kernel : (∀ c ∈ wDry, 1 ≤ c ∧ c ≤ 255) ∧ wDry.length ≤ 8 ∧ 0 < pkW wDry)).2.1 (show _ ∧ _ ∧ _ from (by decide +kernel : (∀ c ∈ wDry, 1 ≤ c ∧ c ≤ 255) ∧ wDry.length ≤ 8 ∧ 0 < pkW wDry)).2.2 hw_69_0.1 (hw_69_0.2.trans (by decide +kernel : _ = lN (pkW wDry)))).trans (congrArg some (rfl.trans (Eq.symm (congrArg Int32.toInt (((congrFun (congrFun (congrFun est_76 0) 0) 11).trans (congrFun (congrFun (gU_k (by decide)) 0) 11))))))))).trans (noB (fun r9 q9 => pDry_B) (Or.inl hw_78_0))), (by have hl0 : (0 : Int32).toInt = 0 := (by decide); have hq1 : (st_78 0 0 30).toInt = ((st 0 0 30) : Int32).toInt := congrArg Int32.toInt (((n_78.2 0 0 30 (show (30 : Nat) ∉ _ from by decide)).trans ((n_77.2 0 0 30 (show (30 : Nat) ∉ _ from by decide)).trans ((congrFun (congrFun (congrFun est_76 0) 0) 30).trans (congrFun (congrFun (gU_k (by decide)) 0) 30))))); have hb2 : (0 : Int) ≤ (st_78 0 0 30).toInt ∧ (st_78 0 0 30).toInt ≤ (20 : Int) := hB_st_78.1 0 0 30; have hb3 : (0 : Int) ≤ (st 0 0 30).toInt ∧ (st 0 0 30).toInt ≤ (20 : Int) := hB_st.1 0 0 30; omega), (LM.oth hLO hwo (mO.trans (mO.trans (by rw [est_76]; exact mO.up mO.rf (by first | (intro _; rfl) | (intro h9; exact absurd h9 (by decide)) | (intro _; omega)) (by first | (intro h9; exact absurd h9 (by decide)) | (intro _; omega))) (mO.frame n_77.2 (by decide))) hw_78_1) (fun i hi => by have h8 := gs_cl (x := x_75) (by omega); omega))⟩)⟩ (by exact Nat.le_refl _) (by exact Nat.le_refl _) dX10_rule_195
            · have ic_71 := gz_eqn (rfl : (st 0 0 30).toInt = (st 0 0 30).toInt) (by decide : (20 : Int32).toInt = 20) c_71
              refine lv_aload_n hx hb dX10_rule_90 rfl (lv_at hl 1 rfl) ?_
              refine lv_iconst (v := 4) hx hb dX10_rule_91 (by decide) ?_
              refine lv_aload_n hx hb dX10_rule_92 rfl (lv_at hl 1 rfl) ?_
              refine gs_get (C := RX10) (T := TX10) (N := 59) hx hb hts inX10 hown hK hM 0 0 13 (by decide) rfl rfl (by decide) (hts _ gm_914) (fun _ h9 => h9) rfl dX10_rule_93 ?_
              refine gs_calli (va_runV (As := [.int 4, .int (st 0 0 13)]) (rest := []) ⟨hx, hb, hml, hown, hts⟩ (m_wrong l G cy sK sV ad H.size st hB_st.1 (4 : Int32) (st 0 0 13) ) ⟨(gz_cb (n := 2) hts gm_1131 gm_12 gm_1134 ⟨by decide +kernel, by decide +kernel, by decide +kernel⟩ ⟨Nat.le_of_ble_eq_true rfl, Nat.le_of_ble_eq_true rfl⟩), hts _ gm_1133, hts _ gs_37⟩ (gs_preV hK hov hE hI hM hm hS hA 0 0 (by decide) rfl rfl) rfl rfl hl.1 rfl (lv_room (Nat.le_of_ble_eq_true rfl)) dX10_rule_96 ⟨Nat.le_of_ble_eq_true rfl, Nat.le_of_ble_eq_true rfl⟩) hm hS hA (fun r_85 st_85 H locs hw_85 hM hS => ?_)
              obtain ⟨n_85, hw_85⟩ := hw_85
              have hB_st_85 : gBN bM kM [11, 12, 13, 14, 15, 16, 17, 18, 19, 30, 59, 800, 900, 1000, 1100, 1200, 1300, 1400, 1500] st st_85 := hB_st.call n_85 (by decide)
              obtain rfl := hw_85
              exact gs_iret hx hb hr hlocks hM hS (by decide) ⟨hB_st_85, (Or.inr ⟨rfl, Or.inr (by omega), (by have hl0 : (0 : Int32).toInt = 0 := (by decide); have hq1 : (st_85 0 0 30).toInt = ((st 0 0 30) : Int32).toInt := congrArg Int32.toInt ((n_85.2 0 0 30 (show (30 : Nat) ∉ _ from by decide))); have hb2 : (0 : Int) ≤ (st_85 0 0 30).toInt ∧ (st_85 0 0 30).toInt ≤ (20 : Int) := hB_st_85.1 0 0 30; have hb3 : (0 : Int) ≤ (st 0 0 30).toInt ∧ (st 0 0 30).toInt ≤ (20 : Int) := hB_st.1 0 0 30; omega), (LM.all hLO (mA.trans mA.rf (mA.frame n_85.2 (by decide))))⟩)⟩ (by exact Nat.le_refl _) (by exact Nat.le_refl _) dX10_rule_99
          · skip
            refine lv_if_eq (tgt := 70) hx hb dX10_rule_63 (by decide) (fun _ => ?_) (fun h9 => absurd (by decide) h9)
            refine lv_iconst (v := (-1)) hx hb dX10_rule_70 (by decide) ?_
            refine lv_istore_n (lv' := [(1, .int (-1)), (0, .ref (ad 0 0))]) hx hb dX10_rule_71 rfl hl (by decide) rfl (fun ls hl => ?_)
            refine lv_iload_n hx hb dX10_rule_72 rfl (lv_at hl 0 rfl) ?_
            refine lv_if_ge (tgt := 81) hx hb dX10_rule_73 (by decide) (fun h9 => absurd h9 (by decide)) (fun _ => ?_)
            refine lv_aload_n hx hb dX10_rule_76 rfl (lv_at hl 1 rfl) ?_
            refine gs_calli (va_runV (As := []) (rest := []) ⟨hx, hb, hml, hown, hts⟩ (m_cant l G cy sK sV ad H.size st hB_st.1  ) ⟨(gz_cb (n := 0) hts gm_1127 gm_12 gm_1130 ⟨by decide +kernel, by decide +kernel, by decide +kernel⟩ ⟨Nat.le_of_ble_eq_true rfl, Nat.le_of_ble_eq_true rfl⟩), hts _ gm_1129, hts _ gs_36⟩ (gs_preV hK hov hE hI hM hm hS hA 0 0 (by decide) rfl rfl) rfl rfl hl.1 rfl (lv_room (Nat.le_of_ble_eq_true rfl)) dX10_rule_77 ⟨Nat.le_of_ble_eq_true rfl, Nat.le_of_ble_eq_true rfl⟩) hm hS hA (fun r_86 st_86 H locs hw_86 hM hS => ?_)
            obtain ⟨n_86, hw_86⟩ := hw_86
            have hB_st_86 : gBN bM kM [11, 12, 13, 14, 15, 16, 17, 18, 19, 30, 59, 800, 900, 1000, 1100, 1200, 1300, 1400, 1500] st st_86 := hB_st.call n_86 (by decide)
            obtain rfl := hw_86
            exact gs_iret hx hb hr hlocks hM hS (by decide) ⟨hB_st_86, (Or.inr ⟨rfl, Or.inl (pRule_n (hC.w0 hn8 (show _ ∧ _ ∧ _ from (by decide +kernel : (∀ c ∈ wTurns, 1 ≤ c ∧ c ≤ 255) ∧ wTurns.length ≤ 8 ∧ 0 < pkW wTurns)).1 (show _ ∧ _ ∧ _ from (by decide +kernel : (∀ c ∈ wTurns, 1 ≤ c ∧ c ≤ 255) ∧ wTurns.length ≤ 8 ∧ 0 < pkW wTurns)).2.1 (show _ ∧ _ ∧ _ from (by decide +kernel : (∀ c ∈ wTurns, 1 ≤ c ∧ c ≤ 255) ∧ wTurns.length ≤ 8 ∧ 0 < pkW wTurns)).2.2 (fun h9 => hw_1_0 ⟨h9.1, h9.2.trans (Eq.symm (by decide +kernel : _ = lN (pkW wTurns)))⟩)) (hC.w0 hn8 (show _ ∧ _ ∧ _ from (by decide +kernel : (∀ c ∈ wGuest, 1 ≤ c ∧ c ≤ 255) ∧ wGuest.length ≤ 8 ∧ 0 < pkW wGuest)).1 (show _ ∧ _ ∧ _ from (by decide +kernel : (∀ c ∈ wGuest, 1 ≤ c ∧ c ≤ 255) ∧ wGuest.length ≤ 8 ∧ 0 < pkW wGuest)).2.1 (show _ ∧ _ ∧ _ from (by decide +kernel : (∀ c ∈ wGuest, 1 ≤ c ∧ c ≤ 255) ∧ wGuest.length ≤ 8 ∧ 0 < pkW wGuest)).2.2 (fun h9 => hw_18_0 ⟨h9.1, h9.2.trans (Eq.symm (by decide +kernel : _ = lN (pkW wGuest)))⟩)) (hC.w0 hn8 (show _ ∧ _ ∧ _ from (by decide +kernel : (∀ c ∈ wWed, 1 ≤ c ∧ c ≤ 255) ∧ wWed.length ≤ 8 ∧ 0 < pkW wWed)).1 (show _ ∧ _ ∧ _ from (by decide +kernel : (∀ c ∈ wWed, 1 ≤ c ∧ c ≤ 255) ∧ wWed.length ≤ 8 ∧ 0 < pkW wWed)).2.1 (show _ ∧ _ ∧ _ from (by decide +kernel : (∀ c ∈ wWed, 1 ≤ c ∧ c ≤ 255) ∧ wWed.length ≤ 8 ∧ 0 < pkW wWed)).2.2 (fun h9 => hw_35_0 ⟨h9.1, h9.2.trans (Eq.symm (by decide +kernel : _ = lN (pkW wWed)))⟩)) (hC.w0 hn8 (show _ ∧ _ ∧ _ from (by decide +kernel : (∀ c ∈ wDrought, 1 ≤ c ∧ c ≤ 255) ∧ wDrought.length ≤ 8 ∧ 0 < pkW wDrought)).1 (show _ ∧ _ ∧ _ from (by decide +kernel : (∀ c ∈ wDrought, 1 ≤ c ∧ c ≤ 255) ∧ wDrought.length ≤ 8 ∧ 0 < pkW wDrought)).2.1 (show _ ∧ _ ∧ _ from (by decide +kernel : (∀ c ∈ wDrought, 1 ≤ c ∧ c ≤ 255) ∧ wDrought.length ≤ 8 ∧ 0 < pkW wDrought)).2.2 (fun h9 => hw_52_0 ⟨h9.1, h9.2.trans (Eq.symm (by decide +kernel : _ = lN (pkW wDrought)))⟩)) (hC.w0 hn8 (show _ ∧ _ ∧ _ from (by decide +kernel : (∀ c ∈ wDry, 1 ≤ c ∧ c ≤ 255) ∧ wDry.length ≤ 8 ∧ 0 < pkW wDry)).1 (show _ ∧ _ ∧ _ from (by decide +kernel : (∀ c ∈ wDry, 1 ≤ c ∧ c ≤ 255) ∧ wDry.length ≤ 8 ∧ 0 < pkW wDry)).2.1 (show _ ∧ _ ∧ _ from (by decide +kernel : (∀ c ∈ wDry, 1 ≤ c ∧ c ≤ 255) ∧ wDry.length ≤ 8 ∧ 0 < pkW wDry)).2.2 (fun h9 => hw_69_0 ⟨h9.1, h9.2.trans (Eq.symm (by decide +kernel : _ = lN (pkW wDry)))⟩))), (by have hl0 : (0 : Int32).toInt = 0 := (by decide); have hq1 : (st_86 0 0 30).toInt = ((st 0 0 30) : Int32).toInt := congrArg Int32.toInt ((n_86.2 0 0 30 (show (30 : Nat) ∉ _ from by decide))); have hb2 : (0 : Int) ≤ (st_86 0 0 30).toInt ∧ (st_86 0 0 30).toInt ≤ (20 : Int) := hB_st_86.1 0 0 30; have hb3 : (0 : Int) ≤ (st 0 0 30).toInt ∧ (st 0 0 30).toInt ≤ (20 : Int) := hB_st.1 0 0 30; omega), (LM.all hLO (mA.trans mA.rf (mA.frame n_86.2 (by decide))))⟩)⟩ (by exact Nat.le_refl _) (by exact Nat.le_refl _) dX10_rule_80
