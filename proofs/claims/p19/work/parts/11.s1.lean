theorem gm_1 : (Jvm.Cond.initialized "WellCourt") ∈ gz_T := gz_at 1 (by decide +kernel) rfl
theorem gm_4 : (Jvm.Cond.initialized "WellCourt$Land") ∈ gz_T := gz_at 4 (by decide +kernel) rfl
theorem gm_82 : (Jvm.Cond.fieldLink "WellCourt$Land" (9 : Nat) "WellCourt$Land" "cap" "[I") ∈ gz_T := gz_at 82 (by decide +kernel) rfl
theorem gm_143 : (Jvm.Cond.fieldLink "WellCourt$Ledger" (16 : Nat) "WellCourt$Ledger" "size" "I") ∈ gz_T := gz_at 143 (by decide +kernel) rfl
theorem gm_157 : (Jvm.Cond.fieldLink "WellCourt$Flock" (9 : Nat) "WellCourt$Flock" "clan" "[I") ∈ gz_T := gz_at 157 (by decide +kernel) rfl
theorem gm_293 : (Jvm.Cond.fieldLink "WellCourt" (28 : Nat) "WellCourt" "land" "LWellCourt$Land;") ∈ gz_T := gz_at 293 (by decide +kernel) rfl
theorem gm_344 : (Jvm.Cond.methodLink "WellCourt" (93 : Nat) ({ cls := "WellCourt", name := "isWell", desc := "(I)Z" } : Jvm.MethodName)) ∈ gz_T := gz_at 344 (by decide +kernel) rfl
theorem gm_345 : (Jvm.Cond.static ({ cls := "WellCourt", name := "isWell", desc := "(I)Z" } : Jvm.MethodName)) ∈ gz_T := gz_at 345 (by decide +kernel) rfl
theorem gm_346 : (Jvm.Cond.code ({ cls := "WellCourt", name := "isWell", desc := "(I)Z" } : Jvm.MethodName) prog_1_method_30_code (1 : Nat) (Option.some Jvm.ClassFile.FieldType.boolean)) ∈ gz_T := gz_at 346 (by decide +kernel) rfl
theorem gm_347 : (Jvm.Cond.methodLink "WellCourt" (97 : Nat) ({ cls := "WellCourt$Land", name := "isThere", desc := "(I)Z" } : Jvm.MethodName)) ∈ gz_T := gz_at 347 (by decide +kernel) rfl
theorem gm_348 : (Jvm.Cond.instanceMethod ({ cls := "WellCourt$Land", name := "isThere", desc := "(I)Z" } : Jvm.MethodName)) ∈ gz_T := gz_at 348 (by decide +kernel) rfl
theorem gm_349 : (Jvm.Cond.selects "WellCourt$Land" ({ cls := "WellCourt$Land", name := "isThere", desc := "(I)Z" } : Jvm.MethodName) ({ cls := "WellCourt$Land", name := "isThere", desc := "(I)Z" } : Jvm.MethodName)) ∈ gz_T := gz_at 349 (by decide +kernel) rfl
theorem gm_350 : (Jvm.Cond.code ({ cls := "WellCourt$Land", name := "isThere", desc := "(I)Z" } : Jvm.MethodName) prog_5_method_2_code (2 : Nat) (Option.some Jvm.ClassFile.FieldType.boolean)) ∈ gz_T := gz_at 350 (by decide +kernel) rfl
theorem inX2 : ∀ w ∈ u_ws RX2 TX2 5, w ∈ gz_T := gz_inX [170, 172, 174, 176, 178] (by decide +kernel) (by decide +kernel)
theorem inX3 : ∀ w ∈ u_ws RX3 TX3 3, w ∈ gz_T := gz_inX [91, 93, 95] (by decide +kernel) (by decide +kernel)
theorem inX5 : ∀ w ∈ u_ws RX5 TX5 2, w ∈ gz_T := gz_inX [145, 147] (by decide +kernel) (by decide +kernel)
theorem inX9 : ∀ w ∈ u_ws RX9 TX9 12, w ∈ gz_T := gz_inX [303, 305, 307, 309, 311, 313, 315, 317, 319, 321, 323, 325] (by decide +kernel) (by decide +kernel)
theorem dX2_isThere_0 : decode cX2_isThere 0 = .ok (.aload_n 0, 1) := by decide +kernel
theorem dX2_isThere_1 : decode cX2_isThere 1 = .ok (.getfield 9, 3) := by decide +kernel
theorem dX2_isThere_4 : decode cX2_isThere 4 = .ok (.iload_n 1, 1) := by decide +kernel
theorem dX2_isThere_5 : decode cX2_isThere 5 = .ok (.iaload, 1) := by decide +kernel
theorem dX2_isThere_6 : decode cX2_isThere 6 = .ok (.iconst (-1), 1) := by decide +kernel
theorem dX2_isThere_7 : decode cX2_isThere 7 = .ok (.if_icmp .eq 7, 3) := by decide +kernel
theorem dX2_isThere_10 : decode cX2_isThere 10 = .ok (.iconst 1, 1) := by decide +kernel
theorem dX2_isThere_11 : decode cX2_isThere 11 = .ok (.goto 4, 3) := by decide +kernel
theorem dX2_isThere_14 : decode cX2_isThere 14 = .ok (.iconst 0, 1) := by decide +kernel
theorem dX2_isThere_15 : decode cX2_isThere 15 = .ok (.ireturn, 1) := by decide +kernel
theorem dX3_isThere_0 : decode cX3_isThere 0 = .ok (.aload_n 0, 1) := by decide +kernel
theorem dX3_isThere_1 : decode cX3_isThere 1 = .ok (.getfield 9, 3) := by decide +kernel
theorem dX3_isThere_4 : decode cX3_isThere 4 = .ok (.iload_n 1, 1) := by decide +kernel
theorem dX3_isThere_5 : decode cX3_isThere 5 = .ok (.iaload, 1) := by decide +kernel
theorem dX3_isThere_6 : decode cX3_isThere 6 = .ok (.ifCond .le 7, 3) := by decide +kernel
theorem dX3_isThere_9 : decode cX3_isThere 9 = .ok (.iconst 1, 1) := by decide +kernel
theorem dX3_isThere_10 : decode cX3_isThere 10 = .ok (.goto 4, 3) := by decide +kernel
theorem dX3_isThere_13 : decode cX3_isThere 13 = .ok (.iconst 0, 1) := by decide +kernel
theorem dX3_isThere_14 : decode cX3_isThere 14 = .ok (.ireturn, 1) := by decide +kernel
theorem dX5_has_0 : decode cX5_has 0 = .ok (.iload_n 1, 1) := by decide +kernel
theorem dX5_has_1 : decode cX5_has 1 = .ok (.ifCond .lt 15, 3) := by decide +kernel
theorem dX5_has_4 : decode cX5_has 4 = .ok (.iload_n 1, 1) := by decide +kernel
theorem dX5_has_5 : decode cX5_has 5 = .ok (.aload_n 0, 1) := by decide +kernel
theorem dX5_has_6 : decode cX5_has 6 = .ok (.getfield 16, 3) := by decide +kernel
theorem dX5_has_9 : decode cX5_has 9 = .ok (.if_icmp .ge 7, 3) := by decide +kernel
theorem dX5_has_12 : decode cX5_has 12 = .ok (.iconst 1, 1) := by decide +kernel
theorem dX5_has_13 : decode cX5_has 13 = .ok (.goto 4, 3) := by decide +kernel
theorem dX5_has_16 : decode cX5_has 16 = .ok (.iconst 0, 1) := by decide +kernel
theorem dX5_has_17 : decode cX5_has 17 = .ok (.ireturn, 1) := by decide +kernel
theorem dX9_isClan_0 : decode cX9_isClan 0 = .ok (.iload_n 0, 1) := by decide +kernel
theorem dX9_isClan_1 : decode cX9_isClan 1 = .ok (.ifCond .lt 13, 3) := by decide +kernel
theorem dX9_isClan_4 : decode cX9_isClan 4 = .ok (.iload_n 0, 1) := by decide +kernel
theorem dX9_isClan_5 : decode cX9_isClan 5 = .ok (.bipush 6, 2) := by decide +kernel
theorem dX9_isClan_7 : decode cX9_isClan 7 = .ok (.if_icmp .ge 7, 3) := by decide +kernel
theorem dX9_isClan_10 : decode cX9_isClan 10 = .ok (.iconst 1, 1) := by decide +kernel
theorem dX9_isClan_11 : decode cX9_isClan 11 = .ok (.goto 4, 3) := by decide +kernel
theorem dX9_isClan_14 : decode cX9_isClan 14 = .ok (.iconst 0, 1) := by decide +kernel
theorem dX9_isClan_15 : decode cX9_isClan 15 = .ok (.ireturn, 1) := by decide +kernel
theorem dX9_isDate_0 : decode cX9_isDate 0 = .ok (.iload_n 0, 1) := by decide +kernel
theorem dX9_isDate_1 : decode cX9_isDate 1 = .ok (.ifCond .lt 14, 3) := by decide +kernel
theorem dX9_isDate_4 : decode cX9_isDate 4 = .ok (.iload_n 0, 1) := by decide +kernel
theorem dX9_isDate_5 : decode cX9_isDate 5 = .ok (.sipush 199, 3) := by decide +kernel
theorem dX9_isDate_8 : decode cX9_isDate 8 = .ok (.if_icmp .gt 7, 3) := by decide +kernel
theorem dX9_isDate_11 : decode cX9_isDate 11 = .ok (.iconst 1, 1) := by decide +kernel
theorem dX9_isDate_12 : decode cX9_isDate 12 = .ok (.goto 4, 3) := by decide +kernel
theorem dX9_isDate_15 : decode cX9_isDate 15 = .ok (.iconst 0, 1) := by decide +kernel
theorem dX9_isDate_16 : decode cX9_isDate 16 = .ok (.ireturn, 1) := by decide +kernel
theorem dX9_isHerd_0 : decode cX9_isHerd 0 = .ok (.iload_n 0, 1) := by decide +kernel
theorem dX9_isHerd_1 : decode cX9_isHerd 1 = .ok (.ifCond .lt 12, 3) := by decide +kernel
theorem dX9_isHerd_4 : decode cX9_isHerd 4 = .ok (.iload_n 0, 1) := by decide +kernel
theorem dX9_isHerd_5 : decode cX9_isHerd 5 = .ok (.iconst 4, 1) := by decide +kernel
theorem dX9_isHerd_6 : decode cX9_isHerd 6 = .ok (.if_icmp .ge 7, 3) := by decide +kernel
theorem dX9_isHerd_9 : decode cX9_isHerd 9 = .ok (.iconst 1, 1) := by decide +kernel
theorem dX9_isHerd_10 : decode cX9_isHerd 10 = .ok (.goto 4, 3) := by decide +kernel
theorem dX9_isHerd_13 : decode cX9_isHerd 13 = .ok (.iconst 0, 1) := by decide +kernel
theorem dX9_isHerd_14 : decode cX9_isHerd 14 = .ok (.ireturn, 1) := by decide +kernel
theorem dX9_isWell_0 : decode cX9_isWell 0 = .ok (.iload_n 0, 1) := by decide +kernel
theorem dX9_isWell_1 : decode cX9_isWell 1 = .ok (.ifCond .lt 13, 3) := by decide +kernel
theorem dX9_isWell_4 : decode cX9_isWell 4 = .ok (.iload_n 0, 1) := by decide +kernel
theorem dX9_isWell_5 : decode cX9_isWell 5 = .ok (.bipush 6, 2) := by decide +kernel
theorem dX9_isWell_7 : decode cX9_isWell 7 = .ok (.if_icmp .ge 7, 3) := by decide +kernel
theorem dX9_isWell_10 : decode cX9_isWell 10 = .ok (.iconst 1, 1) := by decide +kernel
theorem dX9_isWell_11 : decode cX9_isWell 11 = .ok (.goto 4, 3) := by decide +kernel
theorem dX9_isWell_14 : decode cX9_isWell 14 = .ok (.iconst 0, 1) := by decide +kernel
theorem dX9_isWell_15 : decode cX9_isWell 15 = .ok (.ireturn, 1) := by decide +kernel
theorem dX9_isWellThere_0 : decode cX9_isWellThere 0 = .ok (.iload_n 1, 1) := by decide +kernel
theorem dX9_isWellThere_1 : decode cX9_isWellThere 1 = .ok (.invokestatic 93, 3) := by decide +kernel
theorem dX9_isWellThere_4 : decode cX9_isWellThere 4 = .ok (.ifCond .eq 18, 3) := by decide +kernel
theorem dX9_isWellThere_7 : decode cX9_isWellThere 7 = .ok (.aload_n 0, 1) := by decide +kernel
theorem dX9_isWellThere_8 : decode cX9_isWellThere 8 = .ok (.getfield 28, 3) := by decide +kernel
theorem dX9_isWellThere_11 : decode cX9_isWellThere 11 = .ok (.iload_n 1, 1) := by decide +kernel
theorem dX9_isWellThere_12 : decode cX9_isWellThere 12 = .ok (.invokevirtual 97, 3) := by decide +kernel
theorem dX9_isWellThere_15 : decode cX9_isWellThere 15 = .ok (.ifCond .eq 7, 3) := by decide +kernel
theorem dX9_isWellThere_18 : decode cX9_isWellThere 18 = .ok (.iconst 1, 1) := by decide +kernel
theorem dX9_isWellThere_19 : decode cX9_isWellThere 19 = .ok (.goto 4, 3) := by decide +kernel
theorem dX9_isWellThere_22 : decode cX9_isWellThere 22 = .ok (.iconst 0, 1) := by decide +kernel
theorem dX9_isWellThere_23 : decode cX9_isWellThere 23 = .ok (.ireturn, 1) := by decide +kernel
theorem dX9_isWithin_0 : decode cX9_isWithin 0 = .ok (.iload_n 0, 1) := by decide +kernel
theorem dX9_isWithin_1 : decode cX9_isWithin 1 = .ok (.iload_n 1, 1) := by decide +kernel
theorem dX9_isWithin_2 : decode cX9_isWithin 2 = .ok (.if_icmp .lt 12, 3) := by decide +kernel
theorem dX9_isWithin_5 : decode cX9_isWithin 5 = .ok (.iload_n 0, 1) := by decide +kernel
theorem dX9_isWithin_6 : decode cX9_isWithin 6 = .ok (.iload_n 2, 1) := by decide +kernel
theorem dX9_isWithin_7 : decode cX9_isWithin 7 = .ok (.if_icmp .gt 7, 3) := by decide +kernel
theorem dX9_isWithin_10 : decode cX9_isWithin 10 = .ok (.iconst 1, 1) := by decide +kernel
theorem dX9_isWithin_11 : decode cX9_isWithin 11 = .ok (.goto 4, 3) := by decide +kernel
theorem dX9_isWithin_14 : decode cX9_isWithin 14 = .ok (.iconst 0, 1) := by decide +kernel
theorem dX9_isWithin_15 : decode cX9_isWithin 15 = .ok (.ireturn, 1) := by decide +kernel
theorem gs_lt {x : Int32} {n : Nat} (h : vp_in x n) : x.toNatClampNeg < n := Nat.not_le.mp fun q => h (Or.inr q)
theorem gz_addI {a b : Int32} {x y : Int} (ha : a.toInt = x) (hb : b.toInt = y) (h1 : -2147483648 ≤ x + y) (h2 : x + y < 2147483648) : (a + b).toInt = x + y := by
  rw [Int32.toInt_add, ha, hb, Int.bmod_eq_of_le (by omega) (by omega)]
theorem gz_addP {a b : Int32} {x y : Int} (ha : a.toInt = x) (hb : b.toInt = y) (h1 : 0 ≤ y) (h2 : x + y < 2147483648) : (a + b).toInt = x + y := gz_addI ha hb (by have := Int32.le_toInt a; rw [ha] at this; omega) h2
theorem gs_max {x a b : Int32} (h : x = if a < b then b else a) : (a.toInt ≤ x.toInt ∧ b.toInt ≤ x.toInt) ∧ (x.toInt = a.toInt ∨ x.toInt = b.toInt) := by
  by_cases q : a < b
  · rw [if_pos q] at h; subst h; have := Int32.lt_iff_toInt_lt.mp q; omega
  · rw [if_neg q] at h; subst h; have := Int.not_lt.mp (fun z => q (Int32.lt_iff_toInt_lt.mpr z)); omega
theorem gN0 {a b : gS} (h : gN [] a b) : a = b := (funext (fun k => h k List.not_mem_nil)).symm
set_option maxHeartbeats 4000000 in
set_option maxRecDepth 100000 in
/-- WellCourt.isWithin -/
theorem s_isWithin (l : Launch) (G : va_G) (cy : Nat → ClassId) (sK sV : Nat → Nat) (ad : Nat → Nat → Nat) (sz : Nat) (st : gS)  (x : Int32) (y : Int32) (z : Int32) (Xx : Int) (Xy : Int) (Xz : Int) (kx : x.toInt = Xx) (ky : y.toInt = Xy) (kz : z.toInt = Xz)   : gsMi l yX9_isWithin cX9_isWithin 3 (some .boolean) ({ frames := 0, cells := 0, slots := 0, locals := 0 } : Room) G cy sK sV (shX cy ad) cnX ad sz [.int x, .int y, .int z] st (fun (r : Int32) (u : gS) => gN [] st u ∧ ((r = 1 ∧ (Xy ≤ Xx) ∧ (Xx ≤ Xz)) ∨ (r = 0 ∧ (Xx < Xy ∨ Xz < Xx)))) := by
  refine gs_start (fun A => gsQi G (shX cy ad) cnX ad _ A) (by decide) (Nat.le_of_ble_eq_true rfl) ?_
  intro p e s m below meth c A ls H hx hb hr hml hlocks hown hts hK hov hE hI hM hm hS hA hl
  have hl : lv_has ls 3 [(0, .int x), (1, .int y), (2, .int z)] := hl
  refine lv_iload_n hx hb dX9_isWithin_0 rfl (lv_at hl 0 rfl) ?_
  refine lv_iload_n hx hb dX9_isWithin_1 rfl (lv_at hl 1 rfl) ?_
  refine lv_icmp_lt (tgt := 14) hx hb dX9_isWithin_2 (by decide) (fun c_1 => ?_) (fun c_1 => ?_)
  · have ic_1 := gz_lt (rfl : x.toInt = x.toInt) (rfl : y.toInt = y.toInt) c_1
    refine lv_iconst (v := 0) hx hb dX9_isWithin_14 (by decide) ?_
    exact gs_iret hx hb hr hlocks hM hS (by decide) ⟨gN.rf, (Or.inr (⟨rfl, (by have hl9 : (0 : Int32).toInt = 0 := (by decide); omega)⟩))⟩ (by exact Nat.le_refl _) (by exact Nat.le_refl _) dX9_isWithin_15
  · have ic_1 := gz_nlt (rfl : x.toInt = x.toInt) (rfl : y.toInt = y.toInt) c_1
    refine lv_iload_n hx hb dX9_isWithin_5 rfl (lv_at hl 0 rfl) ?_
    refine lv_iload_n hx hb dX9_isWithin_6 rfl (lv_at hl 2 rfl) ?_
    refine lv_icmp_gt (tgt := 14) hx hb dX9_isWithin_7 (by decide) (fun c_2 => ?_) (fun c_2 => ?_)
    · have ic_2 := gz_lt (rfl : z.toInt = z.toInt) (rfl : x.toInt = x.toInt) c_2
      refine lv_iconst (v := 0) hx hb dX9_isWithin_14 (by decide) ?_
      exact gs_iret hx hb hr hlocks hM hS (by decide) ⟨gN.rf, (Or.inr (⟨rfl, (by have hl9 : (0 : Int32).toInt = 0 := (by decide); omega)⟩))⟩ (by exact Nat.le_refl _) (by exact Nat.le_refl _) dX9_isWithin_15
    · have ic_2 := gz_nlt (rfl : z.toInt = z.toInt) (rfl : x.toInt = x.toInt) c_2
      refine lv_iconst (v := 1) hx hb dX9_isWithin_10 (by decide) ?_
      refine lv_goto (tgt := 15) hx hb dX9_isWithin_11 (by decide) ?_
      exact gs_iret hx hb hr hlocks hM hS (by decide) ⟨gN.rf, (Or.inl (⟨rfl, (by have hl9 : (1 : Int32).toInt = 1 := (by decide); omega), (by have hl9 : (1 : Int32).toInt = 1 := (by decide); omega)⟩))⟩ (by exact Nat.le_refl _) (by exact Nat.le_refl _) dX9_isWithin_15

set_option maxHeartbeats 4000000 in
set_option maxRecDepth 100000 in
/-- WellCourt.isWell -/
theorem s_isWell (l : Launch) (G : va_G) (cy : Nat → ClassId) (sK sV : Nat → Nat) (ad : Nat → Nat → Nat) (sz : Nat) (st : gS)  (x : Int32) (Xx : Int) (kx : x.toInt = Xx)   : gsMi l yX9_isWell cX9_isWell 1 (some .boolean) ({ frames := 0, cells := 0, slots := 0, locals := 0 } : Room) G cy sK sV (shX cy ad) cnX ad sz [.int x] st (fun (r : Int32) (u : gS) => gN [] st u ∧ ((r = 1 ∧ (0 ≤ Xx) ∧ (Xx ≤ 5)) ∨ (r = 0 ∧ (Xx < 0 ∨ 5 < Xx)))) := by
  refine gs_start (fun A => gsQi G (shX cy ad) cnX ad _ A) (by decide) (Nat.le_of_ble_eq_true rfl) ?_
  intro p e s m below meth c A ls H hx hb hr hml hlocks hown hts hK hov hE hI hM hm hS hA hl
  have hl : lv_has ls 1 [(0, .int x)] := hl
  refine lv_iload_n hx hb dX9_isWell_0 rfl (lv_at hl 0 rfl) ?_
  refine lv_if_lt (tgt := 14) hx hb dX9_isWell_1 (by decide) (fun c_1 => ?_) (fun c_1 => ?_)
  · have ic_1 := gz_lt (rfl : x.toInt = x.toInt) (by decide : (0 : Int32).toInt = 0) c_1
    refine lv_iconst (v := 0) hx hb dX9_isWell_14 (by decide) ?_
    exact gs_iret hx hb hr hlocks hM hS (by decide) ⟨gN.rf, (Or.inr (⟨rfl, (by have hl9 : (0 : Int32).toInt = 0 := (by decide); omega)⟩))⟩ (by exact Nat.le_refl _) (by exact Nat.le_refl _) dX9_isWell_15
  · have ic_1 := gz_nlt (rfl : x.toInt = x.toInt) (by decide : (0 : Int32).toInt = 0) c_1
    refine lv_iload_n hx hb dX9_isWell_4 rfl (lv_at hl 0 rfl) ?_
    refine lv_bipush (v := 6) hx hb dX9_isWell_5 (by decide) ?_
    refine lv_icmp_ge (tgt := 14) hx hb dX9_isWell_7 (by decide) (fun c_2 => ?_) (fun c_2 => ?_)
    · have ic_2 := gz_le (by decide : (6 : Int32).toInt = 6) (rfl : x.toInt = x.toInt) c_2
      refine lv_iconst (v := 0) hx hb dX9_isWell_14 (by decide) ?_
      exact gs_iret hx hb hr hlocks hM hS (by decide) ⟨gN.rf, (Or.inr (⟨rfl, (by have hl9 : (0 : Int32).toInt = 0 := (by decide); omega)⟩))⟩ (by exact Nat.le_refl _) (by exact Nat.le_refl _) dX9_isWell_15
    · have ic_2 := gz_nle (by decide : (6 : Int32).toInt = 6) (rfl : x.toInt = x.toInt) c_2
      refine lv_iconst (v := 1) hx hb dX9_isWell_10 (by decide) ?_
      refine lv_goto (tgt := 15) hx hb dX9_isWell_11 (by decide) ?_
      exact gs_iret hx hb hr hlocks hM hS (by decide) ⟨gN.rf, (Or.inl (⟨rfl, (by have hl9 : (1 : Int32).toInt = 1 := (by decide); omega), (by have hl9 : (1 : Int32).toInt = 1 := (by decide); omega)⟩))⟩ (by exact Nat.le_refl _) (by exact Nat.le_refl _) dX9_isWell_15

set_option maxHeartbeats 4000000 in
set_option maxRecDepth 100000 in
/-- WellCourt.isClan -/
theorem s_isClan (l : Launch) (G : va_G) (cy : Nat → ClassId) (sK sV : Nat → Nat) (ad : Nat → Nat → Nat) (sz : Nat) (st : gS)  (x : Int32) (Xx : Int) (kx : x.toInt = Xx)   : gsMi l yX9_isClan cX9_isClan 1 (some .boolean) ({ frames := 0, cells := 0, slots := 0, locals := 0 } : Room) G cy sK sV (shX cy ad) cnX ad sz [.int x] st (fun (r : Int32) (u : gS) => gN [] st u ∧ ((r = 1 ∧ (0 ≤ Xx) ∧ (Xx ≤ 5)) ∨ (r = 0 ∧ (Xx < 0 ∨ 5 < Xx)))) := by
  refine gs_start (fun A => gsQi G (shX cy ad) cnX ad _ A) (by decide) (Nat.le_of_ble_eq_true rfl) ?_
  intro p e s m below meth c A ls H hx hb hr hml hlocks hown hts hK hov hE hI hM hm hS hA hl
  have hl : lv_has ls 1 [(0, .int x)] := hl
  refine lv_iload_n hx hb dX9_isClan_0 rfl (lv_at hl 0 rfl) ?_
  refine lv_if_lt (tgt := 14) hx hb dX9_isClan_1 (by decide) (fun c_1 => ?_) (fun c_1 => ?_)
  · have ic_1 := gz_lt (rfl : x.toInt = x.toInt) (by decide : (0 : Int32).toInt = 0) c_1
    refine lv_iconst (v := 0) hx hb dX9_isClan_14 (by decide) ?_
    exact gs_iret hx hb hr hlocks hM hS (by decide) ⟨gN.rf, (Or.inr (⟨rfl, (by have hl9 : (0 : Int32).toInt = 0 := (by decide); omega)⟩))⟩ (by exact Nat.le_refl _) (by exact Nat.le_refl _) dX9_isClan_15
  · have ic_1 := gz_nlt (rfl : x.toInt = x.toInt) (by decide : (0 : Int32).toInt = 0) c_1
    refine lv_iload_n hx hb dX9_isClan_4 rfl (lv_at hl 0 rfl) ?_
    refine lv_bipush (v := 6) hx hb dX9_isClan_5 (by decide) ?_
    refine lv_icmp_ge (tgt := 14) hx hb dX9_isClan_7 (by decide) (fun c_2 => ?_) (fun c_2 => ?_)
    · have ic_2 := gz_le (by decide : (6 : Int32).toInt = 6) (rfl : x.toInt = x.toInt) c_2
      refine lv_iconst (v := 0) hx hb dX9_isClan_14 (by decide) ?_
      exact gs_iret hx hb hr hlocks hM hS (by decide) ⟨gN.rf, (Or.inr (⟨rfl, (by have hl9 : (0 : Int32).toInt = 0 := (by decide); omega)⟩))⟩ (by exact Nat.le_refl _) (by exact Nat.le_refl _) dX9_isClan_15
    · have ic_2 := gz_nle (by decide : (6 : Int32).toInt = 6) (rfl : x.toInt = x.toInt) c_2
      refine lv_iconst (v := 1) hx hb dX9_isClan_10 (by decide) ?_
      refine lv_goto (tgt := 15) hx hb dX9_isClan_11 (by decide) ?_
      exact gs_iret hx hb hr hlocks hM hS (by decide) ⟨gN.rf, (Or.inl (⟨rfl, (by have hl9 : (1 : Int32).toInt = 1 := (by decide); omega), (by have hl9 : (1 : Int32).toInt = 1 := (by decide); omega)⟩))⟩ (by exact Nat.le_refl _) (by exact Nat.le_refl _) dX9_isClan_15

set_option maxHeartbeats 4000000 in
set_option maxRecDepth 100000 in
/-- WellCourt.isHerd -/
theorem s_isHerd (l : Launch) (G : va_G) (cy : Nat → ClassId) (sK sV : Nat → Nat) (ad : Nat → Nat → Nat) (sz : Nat) (st : gS)  (x : Int32) (Xx : Int) (kx : x.toInt = Xx)   : gsMi l yX9_isHerd cX9_isHerd 1 (some .boolean) ({ frames := 0, cells := 0, slots := 0, locals := 0 } : Room) G cy sK sV (shX cy ad) cnX ad sz [.int x] st (fun (r : Int32) (u : gS) => gN [] st u ∧ ((r = 1 ∧ (0 ≤ Xx) ∧ (Xx ≤ 3)) ∨ (r = 0 ∧ (Xx < 0 ∨ 3 < Xx)))) := by
  refine gs_start (fun A => gsQi G (shX cy ad) cnX ad _ A) (by decide) (Nat.le_of_ble_eq_true rfl) ?_
  intro p e s m below meth c A ls H hx hb hr hml hlocks hown hts hK hov hE hI hM hm hS hA hl
  have hl : lv_has ls 1 [(0, .int x)] := hl
  refine lv_iload_n hx hb dX9_isHerd_0 rfl (lv_at hl 0 rfl) ?_
  refine lv_if_lt (tgt := 13) hx hb dX9_isHerd_1 (by decide) (fun c_1 => ?_) (fun c_1 => ?_)
  · have ic_1 := gz_lt (rfl : x.toInt = x.toInt) (by decide : (0 : Int32).toInt = 0) c_1
    refine lv_iconst (v := 0) hx hb dX9_isHerd_13 (by decide) ?_
    exact gs_iret hx hb hr hlocks hM hS (by decide) ⟨gN.rf, (Or.inr (⟨rfl, (by have hl9 : (0 : Int32).toInt = 0 := (by decide); omega)⟩))⟩ (by exact Nat.le_refl _) (by exact Nat.le_refl _) dX9_isHerd_14
  · have ic_1 := gz_nlt (rfl : x.toInt = x.toInt) (by decide : (0 : Int32).toInt = 0) c_1
    refine lv_iload_n hx hb dX9_isHerd_4 rfl (lv_at hl 0 rfl) ?_
    refine lv_iconst (v := 4) hx hb dX9_isHerd_5 (by decide) ?_
    refine lv_icmp_ge (tgt := 13) hx hb dX9_isHerd_6 (by decide) (fun c_2 => ?_) (fun c_2 => ?_)
    · have ic_2 := gz_le (by decide : (4 : Int32).toInt = 4) (rfl : x.toInt = x.toInt) c_2
      refine lv_iconst (v := 0) hx hb dX9_isHerd_13 (by decide) ?_
      exact gs_iret hx hb hr hlocks hM hS (by decide) ⟨gN.rf, (Or.inr (⟨rfl, (by have hl9 : (0 : Int32).toInt = 0 := (by decide); omega)⟩))⟩ (by exact Nat.le_refl _) (by exact Nat.le_refl _) dX9_isHerd_14
    · have ic_2 := gz_nle (by decide : (4 : Int32).toInt = 4) (rfl : x.toInt = x.toInt) c_2
      refine lv_iconst (v := 1) hx hb dX9_isHerd_9 (by decide) ?_
      refine lv_goto (tgt := 14) hx hb dX9_isHerd_10 (by decide) ?_
      exact gs_iret hx hb hr hlocks hM hS (by decide) ⟨gN.rf, (Or.inl (⟨rfl, (by have hl9 : (1 : Int32).toInt = 1 := (by decide); omega), (by have hl9 : (1 : Int32).toInt = 1 := (by decide); omega)⟩))⟩ (by exact Nat.le_refl _) (by exact Nat.le_refl _) dX9_isHerd_14

set_option maxHeartbeats 4000000 in
set_option maxRecDepth 100000 in
/-- WellCourt.isDate -/
theorem s_isDate (l : Launch) (G : va_G) (cy : Nat → ClassId) (sK sV : Nat → Nat) (ad : Nat → Nat → Nat) (sz : Nat) (st : gS)  (x : Int32) (Xx : Int) (kx : x.toInt = Xx)   : gsMi l yX9_isDate cX9_isDate 1 (some .boolean) ({ frames := 0, cells := 0, slots := 0, locals := 0 } : Room) G cy sK sV (shX cy ad) cnX ad sz [.int x] st (fun (r : Int32) (u : gS) => gN [] st u ∧ ((r = 1 ∧ (0 ≤ Xx) ∧ (Xx ≤ 199)) ∨ (r = 0 ∧ (Xx < 0 ∨ 199 < Xx)))) := by
  refine gs_start (fun A => gsQi G (shX cy ad) cnX ad _ A) (by decide) (Nat.le_of_ble_eq_true rfl) ?_
  intro p e s m below meth c A ls H hx hb hr hml hlocks hown hts hK hov hE hI hM hm hS hA hl
  have hl : lv_has ls 1 [(0, .int x)] := hl
  refine lv_iload_n hx hb dX9_isDate_0 rfl (lv_at hl 0 rfl) ?_
  refine lv_if_lt (tgt := 15) hx hb dX9_isDate_1 (by decide) (fun c_1 => ?_) (fun c_1 => ?_)
  · have ic_1 := gz_lt (rfl : x.toInt = x.toInt) (by decide : (0 : Int32).toInt = 0) c_1
    refine lv_iconst (v := 0) hx hb dX9_isDate_15 (by decide) ?_
    exact gs_iret hx hb hr hlocks hM hS (by decide) ⟨gN.rf, (Or.inr (⟨rfl, (by have hl9 : (0 : Int32).toInt = 0 := (by decide); omega)⟩))⟩ (by exact Nat.le_refl _) (by exact Nat.le_refl _) dX9_isDate_16
  · have ic_1 := gz_nlt (rfl : x.toInt = x.toInt) (by decide : (0 : Int32).toInt = 0) c_1
    refine lv_iload_n hx hb dX9_isDate_4 rfl (lv_at hl 0 rfl) ?_
    refine lv_sipush (v := 199) hx hb dX9_isDate_5 (by decide) ?_
    refine lv_icmp_gt (tgt := 15) hx hb dX9_isDate_8 (by decide) (fun c_2 => ?_) (fun c_2 => ?_)
    · have ic_2 := gz_lt (by decide : (199 : Int32).toInt = 199) (rfl : x.toInt = x.toInt) c_2
      refine lv_iconst (v := 0) hx hb dX9_isDate_15 (by decide) ?_
      exact gs_iret hx hb hr hlocks hM hS (by decide) ⟨gN.rf, (Or.inr (⟨rfl, (by have hl9 : (0 : Int32).toInt = 0 := (by decide); omega)⟩))⟩ (by exact Nat.le_refl _) (by exact Nat.le_refl _) dX9_isDate_16
    · have ic_2 := gz_nlt (by decide : (199 : Int32).toInt = 199) (rfl : x.toInt = x.toInt) c_2
      refine lv_iconst (v := 1) hx hb dX9_isDate_11 (by decide) ?_
      refine lv_goto (tgt := 16) hx hb dX9_isDate_12 (by decide) ?_
      exact gs_iret hx hb hr hlocks hM hS (by decide) ⟨gN.rf, (Or.inl (⟨rfl, (by have hl9 : (1 : Int32).toInt = 1 := (by decide); omega), (by have hl9 : (1 : Int32).toInt = 1 := (by decide); omega)⟩))⟩ (by exact Nat.le_refl _) (by exact Nat.le_refl _) dX9_isDate_16

set_option maxHeartbeats 4000000 in
set_option maxRecDepth 100000 in
/-- WellCourt$Land.isThere -/
theorem s_X3_isThere (l : Launch) (G : va_G) (cy : Nat → ClassId) (sK sV : Nat → Nat) (ad : Nat → Nat → Nat) (sz : Nat) (st : gS)  (x : Int32) (Xx : Int) (kx : x.toInt = Xx)  (hx0 : 0 ≤ Xx) (hx1 : Xx < 6) : gsMi l yX3_isThere cX3_isThere 2 (some .boolean) ({ frames := 0, cells := 0, slots := 0, locals := 0 } : Room) G cy sK sV (shX cy ad) cnX ad sz [.ref (ad 4 0), .int x] st (fun (r : Int32) (u : gS) => gN [] st u ∧ ((r = 1 ∧ (0 < (st 5 0 x.toNatClampNeg).toInt)) ∨ (r = 0 ∧ ((st 5 0 x.toNatClampNeg).toInt ≤ 0)))) := by
  refine gs_start (fun A => gsQi G (shX cy ad) cnX ad _ A) (by decide) (Nat.le_of_ble_eq_true rfl) ?_
  intro p e s m below meth c A ls H hx hb hr hml hlocks hown hts hK hov hE hI hM hm hS hA hl
  have hl : lv_has ls 2 [(0, .ref (ad 4 0)), (1, .int x)] := hl
  refine lv_aload_n hx hb dX3_isThere_0 rfl (lv_at hl 0 rfl) ?_
  refine gs_get (C := RX3) (T := TX3) (N := 3) hx hb hts inX3 hown hK hM 4 0 0 (by decide) rfl rfl (by decide) (hts _ gm_82) (fun _ h9 => h9) rfl dX3_isThere_1 ?_
  refine lv_iload_n hx hb dX3_isThere_4 rfl (lv_at hl 1 rfl) ?_
  refine gs_iald hx hb hK hM 5 0 (by decide) rfl (vp_in_iff.mpr ⟨by omega, by omega⟩) dX3_isThere_5 ?_
  refine lv_if_le (tgt := 13) hx hb dX3_isThere_6 (by decide) (fun c_1 => ?_) (fun c_1 => ?_)
  · have ic_1 := gz_le (rfl : (st 5 0 (x.toNatClampNeg)).toInt = (st 5 0 (x.toNatClampNeg)).toInt) (by decide : (0 : Int32).toInt = 0) c_1
    refine lv_iconst (v := 0) hx hb dX3_isThere_13 (by decide) ?_
    exact gs_iret hx hb hr hlocks hM hS (by decide) ⟨gN.rf, (Or.inr (⟨rfl, (by have hl9 : (0 : Int32).toInt = 0 := (by decide); omega)⟩))⟩ (by exact Nat.le_refl _) (by exact Nat.le_refl _) dX3_isThere_14
  · have ic_1 := gz_nle (rfl : (st 5 0 (x.toNatClampNeg)).toInt = (st 5 0 (x.toNatClampNeg)).toInt) (by decide : (0 : Int32).toInt = 0) c_1
    refine lv_iconst (v := 1) hx hb dX3_isThere_9 (by decide) ?_
    refine lv_goto (tgt := 14) hx hb dX3_isThere_10 (by decide) ?_
    exact gs_iret hx hb hr hlocks hM hS (by decide) ⟨gN.rf, (Or.inl (⟨rfl, (by have hl9 : (1 : Int32).toInt = 1 := (by decide); omega)⟩))⟩ (by exact Nat.le_refl _) (by exact Nat.le_refl _) dX3_isThere_14

set_option maxHeartbeats 4000000 in
set_option maxRecDepth 100000 in
/-- WellCourt$Flock.isThere -/
theorem s_X2_isThere (l : Launch) (G : va_G) (cy : Nat → ClassId) (sK sV : Nat → Nat) (ad : Nat → Nat → Nat) (sz : Nat) (st : gS)  (x : Int32) (Xx : Int) (kx : x.toInt = Xx)  (hx0 : 0 ≤ Xx) (hx1 : Xx < 4) : gsMi l yX2_isThere cX2_isThere 2 (some .boolean) ({ frames := 0, cells := 0, slots := 0, locals := 0 } : Room) G cy sK sV (shX cy ad) cnX ad sz [.ref (ad 19 0), .int x] st (fun (r : Int32) (u : gS) => gN [] st u ∧ ((r = 1 ∧ (¬ (st 20 0 x.toNatClampNeg).toInt = -1)) ∨ (r = 0 ∧ ((st 20 0 x.toNatClampNeg).toInt = -1)))) := by
  refine gs_start (fun A => gsQi G (shX cy ad) cnX ad _ A) (by decide) (Nat.le_of_ble_eq_true rfl) ?_
  intro p e s m below meth c A ls H hx hb hr hml hlocks hown hts hK hov hE hI hM hm hS hA hl
  have hl : lv_has ls 2 [(0, .ref (ad 19 0)), (1, .int x)] := hl
  refine lv_aload_n hx hb dX2_isThere_0 rfl (lv_at hl 0 rfl) ?_
  refine gs_get (C := RX2) (T := TX2) (N := 5) hx hb hts inX2 hown hK hM 19 0 0 (by decide) rfl rfl (by decide) (hts _ gm_157) (fun _ h9 => h9) rfl dX2_isThere_1 ?_
  refine lv_iload_n hx hb dX2_isThere_4 rfl (lv_at hl 1 rfl) ?_
  refine gs_iald hx hb hK hM 20 0 (by decide) rfl (vp_in_iff.mpr ⟨by omega, by omega⟩) dX2_isThere_5 ?_
  refine lv_iconst (v := (-1)) hx hb dX2_isThere_6 (by decide) ?_
  refine lv_icmp_eq (tgt := 14) hx hb dX2_isThere_7 (by decide) (fun c_1 => ?_) (fun c_1 => ?_)
  · have ic_1 := gz_eq (rfl : (st 20 0 (x.toNatClampNeg)).toInt = (st 20 0 (x.toNatClampNeg)).toInt) (by decide : ((-1) : Int32).toInt = -1) c_1
    refine lv_iconst (v := 0) hx hb dX2_isThere_14 (by decide) ?_
    exact gs_iret hx hb hr hlocks hM hS (by decide) ⟨gN.rf, (Or.inr (⟨rfl, (by have hl9 : (0 : Int32).toInt = 0 := (by decide); omega)⟩))⟩ (by exact Nat.le_refl _) (by exact Nat.le_refl _) dX2_isThere_15
  · have ic_1 := gz_ne (rfl : (st 20 0 (x.toNatClampNeg)).toInt = (st 20 0 (x.toNatClampNeg)).toInt) (by decide : ((-1) : Int32).toInt = -1) c_1
    refine lv_iconst (v := 1) hx hb dX2_isThere_10 (by decide) ?_
    refine lv_goto (tgt := 15) hx hb dX2_isThere_11 (by decide) ?_
    exact gs_iret hx hb hr hlocks hM hS (by decide) ⟨gN.rf, (Or.inl (⟨rfl, (by have hl9 : (1 : Int32).toInt = 1 := (by decide); omega)⟩))⟩ (by exact Nat.le_refl _) (by exact Nat.le_refl _) dX2_isThere_15

set_option maxHeartbeats 4000000 in
set_option maxRecDepth 100000 in
/-- WellCourt.isWellThere -/
theorem s_isWellThere (l : Launch) (G : va_G) (cy : Nat → ClassId) (sK sV : Nat → Nat) (ad : Nat → Nat → Nat) (sz : Nat) (st : gS)  (x : Int32) (Xx : Int) (kx : x.toInt = Xx)   : gsMi l yX9_isWellThere cX9_isWellThere 2 (some .boolean) ({ frames := 1, cells := 0, slots := 0, locals := 21 } : Room) G cy sK sV (shX cy ad) cnX ad sz [.ref (ad 0 0), .int x] st (fun (r : Int32) (u : gS) => gN [] st u ∧ ((r = 1 ∧ (0 ≤ Xx) ∧ (Xx < 6) ∧ (0 < (st 5 0 x.toNatClampNeg).toInt)) ∨ (r = 0 ∧ (Xx < 0 ∨ 5 < Xx ∨ (st 5 0 x.toNatClampNeg).toInt ≤ 0)))) := by
  refine gs_start (fun A => gsQi G (shX cy ad) cnX ad _ A) (by decide) (Nat.le_of_ble_eq_true rfl) ?_
  intro p e s m below meth c A ls H hx hb hr hml hlocks hown hts hK hov hE hI hM hm hS hA hl
  have hl : lv_has ls 2 [(0, .ref (ad 0 0)), (1, .int x)] := hl
  refine lv_iload_n hx hb dX9_isWellThere_0 rfl (lv_at hl 1 rfl) ?_
  refine gs_calli (va_runS (As := [.int x]) (rest := []) ⟨hx, hb, hml, hown, hts⟩ (s_isWell l G cy sK sV ad H.size st x x.toInt rfl ) ⟨(gz_cb (n := 1) hts gm_344 gm_1 gm_346 ⟨by decide +kernel, by decide +kernel, by decide +kernel⟩ ⟨Nat.le_of_ble_eq_true rfl, Nat.le_of_ble_eq_true rfl⟩), hts _ gm_345⟩ (gs_preS hK hov hE hI hM hm hS hA) rfl rfl hl.1 rfl (lv_room (Nat.le_of_ble_eq_true rfl)) dX9_isWellThere_1 ⟨Nat.le_of_ble_eq_true rfl, Nat.le_of_ble_eq_true rfl⟩) hm hS hA (fun r_1 st_1 H locs hw_1 hM hS => ?_)
  obtain ⟨n_1, hw_1⟩ := hw_1
  have n_1 := gN0 n_1
  subst n_1
  rcases hw_1 with ⟨rfl, hw_1_0, hw_1_1⟩ | ⟨rfl, hw_1_0⟩
  · skip
    refine lv_if_eq (tgt := 22) hx hb dX9_isWellThere_4 (by decide) (fun h9 => absurd h9 (by decide)) (fun _ => ?_)
    refine lv_aload_n hx hb dX9_isWellThere_7 rfl (lv_at hl 0 rfl) ?_
    refine gs_get (C := RX9) (T := TX9) (N := 12) hx hb hts inX9 hown hK hM 0 0 2 (by decide) rfl rfl (by decide) (hts _ gm_293) (fun _ h9 => h9) rfl dX9_isWellThere_8 ?_
    refine lv_iload_n hx hb dX9_isWellThere_11 rfl (lv_at hl 1 rfl) ?_
    refine gs_calli (va_runV (As := [.int x]) (rest := []) ⟨hx, hb, hml, hown, hts⟩ (s_X3_isThere l G cy sK sV ad H.size st x x.toInt rfl (by first | decide | omega) (by first | decide | omega)) ⟨(gz_cb (n := 1) hts gm_347 gm_4 gm_350 ⟨by decide +kernel, by decide +kernel, by decide +kernel⟩ ⟨Nat.le_of_ble_eq_true rfl, Nat.le_of_ble_eq_true rfl⟩), hts _ gm_348, hts _ gm_349⟩ (gs_preV hK hov hE hI hM hm hS hA 4 0 (by decide) rfl rfl) rfl rfl hl.1 rfl (lv_room (Nat.le_of_ble_eq_true rfl)) dX9_isWellThere_12 ⟨Nat.le_of_ble_eq_true rfl, Nat.le_of_ble_eq_true rfl⟩) hm hS hA (fun r_2 st_2 H locs hw_2 hM hS => ?_)
    obtain ⟨n_2, hw_2⟩ := hw_2
    have n_2 := gN0 n_2
    subst n_2
    rcases hw_2 with ⟨rfl, hw_2_0⟩ | ⟨rfl, hw_2_0⟩
    · skip
      refine lv_if_eq (tgt := 22) hx hb dX9_isWellThere_15 (by decide) (fun h9 => absurd h9 (by decide)) (fun _ => ?_)
      refine lv_iconst (v := 1) hx hb dX9_isWellThere_18 (by decide) ?_
      refine lv_goto (tgt := 23) hx hb dX9_isWellThere_19 (by decide) ?_
      exact gs_iret hx hb hr hlocks hM hS (by decide) ⟨gN.rf, (Or.inl (⟨rfl, (by have hl9 : (1 : Int32).toInt = 1 := (by decide); omega), (by have hl9 : (1 : Int32).toInt = 1 := (by decide); omega), (by have hl9 : (1 : Int32).toInt = 1 := (by decide); omega)⟩))⟩ (by exact Nat.le_refl _) (by exact Nat.le_refl _) dX9_isWellThere_23
    · skip
      refine lv_if_eq (tgt := 22) hx hb dX9_isWellThere_15 (by decide) (fun _ => ?_) (fun h9 => absurd (by decide) h9)
      refine lv_iconst (v := 0) hx hb dX9_isWellThere_22 (by decide) ?_
      exact gs_iret hx hb hr hlocks hM hS (by decide) ⟨gN.rf, (Or.inr (⟨rfl, (by have hl9 : (0 : Int32).toInt = 0 := (by decide); omega)⟩))⟩ (by exact Nat.le_refl _) (by exact Nat.le_refl _) dX9_isWellThere_23
  · skip
    refine lv_if_eq (tgt := 22) hx hb dX9_isWellThere_4 (by decide) (fun _ => ?_) (fun h9 => absurd (by decide) h9)
    refine lv_iconst (v := 0) hx hb dX9_isWellThere_22 (by decide) ?_
    exact gs_iret hx hb hr hlocks hM hS (by decide) ⟨gN.rf, (Or.inr (⟨rfl, (by have hl9 : (0 : Int32).toInt = 0 := (by decide); omega)⟩))⟩ (by exact Nat.le_refl _) (by exact Nat.le_refl _) dX9_isWellThere_23

set_option maxHeartbeats 4000000 in
set_option maxRecDepth 100000 in
/-- WellCourt$Ledger.has -/
theorem s_X5_has (l : Launch) (G : va_G) (cy : Nat → ClassId) (sK sV : Nat → Nat) (ad : Nat → Nat → Nat) (sz : Nat) (st : gS)  (x : Int32) (Xx : Int) (kx : x.toInt = Xx)   : gsMi l yX5_has cX5_has 2 (some .boolean) ({ frames := 0, cells := 0, slots := 0, locals := 0 } : Room) G cy sK sV (shX cy ad) cnX ad sz [.ref (ad 16 0), .int x] st (fun (r : Int32) (u : gS) => gN [] st u ∧ ((r = 1 ∧ (0 ≤ Xx) ∧ (Xx < (st 16 0 1).toInt)) ∨ (r = 0 ∧ (Xx < 0 ∨ (st 16 0 1).toInt ≤ Xx)))) := by
  refine gs_start (fun A => gsQi G (shX cy ad) cnX ad _ A) (by decide) (Nat.le_of_ble_eq_true rfl) ?_
  intro p e s m below meth c A ls H hx hb hr hml hlocks hown hts hK hov hE hI hM hm hS hA hl
  have hl : lv_has ls 2 [(0, .ref (ad 16 0)), (1, .int x)] := hl
  refine lv_iload_n hx hb dX5_has_0 rfl (lv_at hl 1 rfl) ?_
  refine lv_if_lt (tgt := 16) hx hb dX5_has_1 (by decide) (fun c_1 => ?_) (fun c_1 => ?_)
  · have ic_1 := gz_lt (rfl : x.toInt = x.toInt) (by decide : (0 : Int32).toInt = 0) c_1
    refine lv_iconst (v := 0) hx hb dX5_has_16 (by decide) ?_
    exact gs_iret hx hb hr hlocks hM hS (by decide) ⟨gN.rf, (Or.inr (⟨rfl, (by have hl9 : (0 : Int32).toInt = 0 := (by decide); omega)⟩))⟩ (by exact Nat.le_refl _) (by exact Nat.le_refl _) dX5_has_17
  · have ic_1 := gz_nlt (rfl : x.toInt = x.toInt) (by decide : (0 : Int32).toInt = 0) c_1
    refine lv_iload_n hx hb dX5_has_4 rfl (lv_at hl 1 rfl) ?_
    refine lv_aload_n hx hb dX5_has_5 rfl (lv_at hl 0 rfl) ?_
    refine gs_get (C := RX5) (T := TX5) (N := 2) hx hb hts inX5 hown hK hM 16 0 1 (by decide) rfl rfl (by decide) (hts _ gm_143) (fun _ h9 => h9) rfl dX5_has_6 ?_
    refine lv_icmp_ge (tgt := 16) hx hb dX5_has_9 (by decide) (fun c_2 => ?_) (fun c_2 => ?_)
    · have ic_2 := gz_le (rfl : (st 16 0 1).toInt = (st 16 0 1).toInt) (rfl : x.toInt = x.toInt) c_2
      refine lv_iconst (v := 0) hx hb dX5_has_16 (by decide) ?_
      exact gs_iret hx hb hr hlocks hM hS (by decide) ⟨gN.rf, (Or.inr (⟨rfl, (by have hl9 : (0 : Int32).toInt = 0 := (by decide); omega)⟩))⟩ (by exact Nat.le_refl _) (by exact Nat.le_refl _) dX5_has_17
    · have ic_2 := gz_nle (rfl : (st 16 0 1).toInt = (st 16 0 1).toInt) (rfl : x.toInt = x.toInt) c_2
      refine lv_iconst (v := 1) hx hb dX5_has_12 (by decide) ?_
      refine lv_goto (tgt := 17) hx hb dX5_has_13 (by decide) ?_
      exact gs_iret hx hb hr hlocks hM hS (by decide) ⟨gN.rf, (Or.inl (⟨rfl, (by have hl9 : (1 : Int32).toInt = 1 := (by decide); omega), (by have hl9 : (1 : Int32).toInt = 1 := (by decide); omega)⟩))⟩ (by exact Nat.le_refl _) (by exact Nat.le_refl _) dX5_has_17
