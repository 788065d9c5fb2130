theorem gm_21 : (Jvm.Cond.initialized "java/util/NoSuchElementException") ∈ gz_T := gz_at 21 (by decide +kernel) rfl
theorem gm_22 : (Jvm.Cond.initialized "java/lang/IllegalArgumentException") ∈ gz_T := gz_at 22 (by decide +kernel) rfl
theorem gm_747 : (Jvm.Cond.classLink "WellCourt" (182 : Nat) "java/util/NoSuchElementException") ∈ gz_T := gz_at 747 (by decide +kernel) rfl
theorem gm_822 : (Jvm.Cond.constant "WellCourt" (223 : Nat) (50000 : Int32)) ∈ gz_T := gz_at 822 (by decide +kernel) rfl
theorem gm_823 : (Jvm.Cond.classLink "WellCourt" (224 : Nat) "java/lang/IllegalArgumentException") ∈ gz_T := gz_at 823 (by decide +kernel) rfl
theorem dX9_drawn_0 : decode cX9_drawn 0 = .ok (.aload_n 0, 1) := by decide +kernel
theorem dX9_drawn_1 : decode cX9_drawn 1 = .ok (.getfield 49, 3) := by decide +kernel
theorem dX9_drawn_4 : decode cX9_drawn 4 = .ok (.iload_n 1, 1) := by decide +kernel
theorem dX9_drawn_5 : decode cX9_drawn 5 = .ok (.invokevirtual 175, 3) := by decide +kernel
theorem dX9_drawn_8 : decode cX9_drawn 8 = .ok (.ifCond .ne 13, 3) := by decide +kernel
theorem dX9_drawn_11 : decode cX9_drawn 11 = .ok (.new 182, 3) := by decide +kernel
theorem dX9_drawn_14 : decode cX9_drawn 14 = .ok (.dup, 1) := by decide +kernel
theorem dX9_drawn_15 : decode cX9_drawn 15 = .ok (.ldc 184, 2) := by decide +kernel
theorem dX9_drawn_17 : decode cX9_drawn 17 = .ok (.invokespecial 186, 3) := by decide +kernel
theorem dX9_drawn_20 : decode cX9_drawn 20 = .ok (.athrow, 1) := by decide +kernel
theorem dX9_plan_0 : decode cX9_plan 0 = .ok (.iload_n 2, 1) := by decide +kernel
theorem dX9_plan_1 : decode cX9_plan 1 = .ok (.iconst 1, 1) := by decide +kernel
theorem dX9_plan_2 : decode cX9_plan 2 = .ok (.ldc 223, 2) := by decide +kernel
theorem dX9_plan_4 : decode cX9_plan 4 = .ok (.invokestatic 100, 3) := by decide +kernel
theorem dX9_plan_7 : decode cX9_plan 7 = .ok (.ifCond .ne 13, 3) := by decide +kernel
theorem dX9_plan_10 : decode cX9_plan 10 = .ok (.new 224, 3) := by decide +kernel
theorem dX9_plan_13 : decode cX9_plan 13 = .ok (.dup, 1) := by decide +kernel
theorem dX9_plan_14 : decode cX9_plan 14 = .ok (.ldc 226, 2) := by decide +kernel
theorem dX9_plan_16 : decode cX9_plan 16 = .ok (.invokespecial 228, 3) := by decide +kernel
theorem dX9_plan_19 : decode cX9_plan 19 = .ok (.athrow, 1) := by decide +kernel
theorem dX9_plan_20 : decode cX9_plan 20 = .ok (.aload_n 0, 1) := by decide +kernel
theorem dX9_plan_21 : decode cX9_plan 21 = .ok (.getfield 56, 3) := by decide +kernel
theorem dX9_plan_24 : decode cX9_plan 24 = .ok (.invokevirtual 229, 3) := by decide +kernel
theorem dX9_plan_27 : decode cX9_plan 27 = .ok (.ifCond .eq 25, 3) := by decide +kernel
theorem dX9_plan_52 : decode cX9_plan 52 = .ok (.aload_n 0, 1) := by decide +kernel
theorem dX9_plan_53 : decode cX9_plan 53 = .ok (.getfield 75, 3) := by decide +kernel
theorem dX9_plan_56 : decode cX9_plan 56 = .ok (.iconst 0, 1) := by decide +kernel
theorem dX9_plan_57 : decode cX9_plan 57 = .ok (.putfield 232, 3) := by decide +kernel
theorem dX9_plan_60 : decode cX9_plan 60 = .ok (.iconst (-1), 1) := by decide +kernel
theorem dX9_plan_61 : decode cX9_plan 61 = .ok (.ireturn, 1) := by decide +kernel
theorem gz_badu {args : Array Value} {s : State} (h : ∀ w ∈ gzB, va_Nw w s) : ∀ w ∈ gzB, w.before args s = true := fun w hw => by
  have hg : gBadK w = true := (List.mem_filter.mp hw).2
  refine va_Nw.use ?_ (h w hw)
  cases w <;> first | rfl | (simp [gBadK] at hg; done)
theorem xw1 : ∀ w ∈ ((gx_own RX9 186 "java/util/NoSuchElementException" "java/lang/RuntimeException" 13 prog_23_method_4_code ["java/lang/Exception"]).filter vx_no).filter goodWord, w ∈ lw_tbl := by decide +kernel
theorem xw1_bad : ∀ w ∈ ((gx_own RX9 186 "java/util/NoSuchElementException" "java/lang/RuntimeException" 13 prog_23_method_4_code ["java/lang/Exception"]).filter vx_no).filter (fun w => !goodWord w), w ∈ gzB := by decide +kernel
theorem xw1_ot : ∀ w ∈ Cond.classLink RX9 182 "java/util/NoSuchElementException" :: Cond.initialized "java/util/NoSuchElementException" :: (gx_own RX9 186 "java/util/NoSuchElementException" "java/lang/RuntimeException" 13 prog_23_method_4_code ["java/lang/Exception"]).filter vx_no, vx_ot w = true := by decide +kernel
theorem xw2 : ∀ w ∈ (vx_atS RX9 228 "java/lang/IllegalArgumentException" ["java/lang/RuntimeException", "java/lang/Exception"]).filter goodWord, w ∈ lw_tbl := by decide +kernel
theorem xw2_bad : ∀ w ∈ (vx_atS RX9 228 "java/lang/IllegalArgumentException" ["java/lang/RuntimeException", "java/lang/Exception"]).filter (fun w => !goodWord w), w ∈ gzB := by decide +kernel
theorem xw2_ot : ∀ w ∈ Cond.classLink RX9 224 "java/lang/IllegalArgumentException" :: Cond.initialized "java/lang/IllegalArgumentException" :: vx_atS RX9 228 "java/lang/IllegalArgumentException" ["java/lang/RuntimeException", "java/lang/Exception"], vx_ot w = true := by decide +kernel
set_option maxHeartbeats 4000000 in
set_option maxRecDepth 100000 in
theorem x_drawn (l : Launch) (hlt : l.stackTraces = false) (G : va_G) (cy : Nat → ClassId) (sz : Nat) (h0 : Nat) (g0 : Nat) (g1 : Nat) (g2 : Nat) (g3 : Nat) (g4 : Nat) (g5 : Nat) (g6 : Nat) (g7 : Nat) (g8 : Nat) (g9 : Nat) (g18 : Nat) (x : Int32) (y : Int32) (Xx : Int) (Xy : Int) (kx : x.toInt = Xx) (ky : y.toInt = Xy) : vx_Met l yX9_drawn (Cond.code yX9_drawn cX9_drawn 3 (some .int) :: gz_T) ({ frames := 6, cells := 1, slots := 6, locals := 100 }) (va_Pc [.ref h0, .int x, .int y] (gPx G cy sz [(h0, .inr (9, [.ref g0, .ref g1, .ref g2, .ref g3, .ref g4, .ref g5, .ref g6, .ref g7, .ref g8, .ref g9, .int 0, .int 0])), (g5, .inr (5, [.ref g18, .int 0]))])) (gQi G cy (fun (r : Int32) (u : Unit) => r = 0 ∧ (False)) (fun (u : Unit) => []) (va_A [(h0, .inr (9, [.ref g0, .ref g1, .ref g2, .ref g3, .ref g4, .ref g5, .ref g6, .ref g7, .ref g8, .ref g9, .int 0, .int 0])), (g5, .inr (5, [.ref g18, .int 0]))] sz)) (gXx (fun (_ : Unit) => True) "java/util/NoSuchElementException" (va_A [(h0, .inr (9, [.ref g0, .ref g1, .ref g2, .ref g3, .ref g4, .ref g5, .ref g6, .ref g7, .ref g8, .ref g9, .int 0, .int 0])), (g5, .inr (5, [.ref g18, .int 0]))] sz)) 1 6 (va_A [(h0, .inr (9, [.ref g0, .ref g1, .ref g2, .ref g3, .ref g4, .ref g5, .ref g6, .ref g7, .ref g8, .ref g9, .int 0, .int 0])), (g5, .inr (5, [.ref g18, .int 0]))] sz) := by
  refine gz_startX (rm := { frames := 6, cells := 1, slots := 6, locals := 100 }) (fun A => gQi G cy _ _ A) (fun A => gXx _ _ A) (by decide) (Nat.le_of_ble_eq_true rfl) ?_
  intro p e s m below meth c A ls H htab hth hx hb hr hml hlocks hin hown hts hK hov hsz hP hD hS hA hl
  have hl : lv_has ls 3 [(0, .ref h0), (1, .int x), (2, .int y)] := hl
  refine lv_aload_n hx hb dX9_drawn_0 rfl (lv_at hl 0 rfl) ?_
  refine va_get (ci := 9) (v := .ref g5) (C := RX9) (T := TX9) (N := 12) hx hb hts inX9 hown hK hP 0 rfl rfl 5 (by decide) (hts _ gm_296) (fun _ h9 => h9) rfl dX9_drawn_1 ?_
  refine lv_iload_n hx hb dX9_drawn_4 rfl (lv_at hl 1 rfl) ?_
  refine gz_afti (va_runV (As := [.int x]) (rest := []) ⟨hx, hb, hml, hown, hts⟩ (c_X5_has l G cy H.size g5 g18 x x.toInt rfl) ⟨(gz_cb (n := 1) hts gm_663 gm_8 gm_666 ⟨by decide +kernel, by decide +kernel, by decide +kernel⟩ ⟨Nat.le_of_ble_eq_true rfl, Nat.le_of_ble_eq_true rfl⟩), hts _ gm_664, hts _ gm_665⟩ (gz_preV (ci := 5) (q0 := 0) hK hov hP hD [1] (by decide) rfl rfl rfl) rfl rfl hl.1 rfl (lv_room (Nat.le_of_ble_eq_true rfl)) dX9_drawn_5 ⟨Nat.le_of_ble_eq_true rfl, Nat.le_of_ble_eq_true rfl⟩) hP hD hS hA [1] [0] rfl rfl (by decide) (by decide) (fun r_1 u_1 H locs hw_1 hP hD hS => ?_)
  have hP : va_P G vwCl [(h0, .inr (9, [.ref g0, .ref g1, .ref g2, .ref g3, .ref g4, .ref g5, .ref g6, .ref g7, .ref g8, .ref g9, .int 0, .int 0])), (g5, .inr (5, [.ref g18, .int 0]))] H := hP
  have hD : va_D A [(h0, .inr (9, [.ref g0, .ref g1, .ref g2, .ref g3, .ref g4, .ref g5, .ref g6, .ref g7, .ref g8, .ref g9, .int 0, .int 0])), (g5, .inr (5, [.ref g18, .int 0]))] := hD
  obtain rfl := hw_1
  refine lv_if_ne (tgt := 21) hx hb dX9_drawn_8 (by decide) (fun h9 => absurd (by decide) h9) (fun _ => ?_)
  obtain ⟨sa, hstr⟩ := hth.2.2.1
  exact gx_throwS (own := RX9) (cls := "java/util/NoSuchElementException") (E2 := "java/lang/RuntimeException") (i1 := 13) (b1 := prog_23_method_4_code) (names := ["java/lang/Exception"]) (A := A) hx hb hlt hown (by decide +kernel) (by decide +kernel) (by decide +kernel) (by decide +kernel) (by decide +kernel) (by decide +kernel) (by decide +kernel) (hts _ gm_747) (hts _ gm_21) hstr (vx_hat (fun w9 h9 => hts w9 (List.mem_filter.mpr ⟨xw1 w9 h9, (List.mem_filter.mp h9).2⟩)) xw1_bad (gz_badu hth.2.2.2.2)) xw1_ot hth.1 hth.2.1 hS (hl.1.trans hml.symm) dX9_drawn_11 dX9_drawn_14 dX9_drawn_15 dX9_drawn_17 dX9_drawn_20 (fun x9 hx9 => (htab x9 hx9).elim) (Nat.le_of_ble_eq_true rfl) (Nat.le_of_ble_eq_true rfl) (Nat.le_of_ble_eq_true rfl) (Nat.le_of_ble_eq_true rfl) hlocks (fun t hvm hsz9 hold => ⟨(), trivial, rfl, Nat.le_trans hS.1 hsz9, fun q h1 h2 => (hold q (Nat.lt_of_lt_of_le h1 hS.1)).trans (hS.2.1 q h1 h2)⟩) hS.2.2 (by exact Nat.le_of_ble_eq_true rfl) (by exact Nat.le_of_ble_eq_true rfl)

set_option maxHeartbeats 4000000 in
set_option maxRecDepth 100000 in
theorem x_plan (l : Launch) (hlt : l.stackTraces = false) (G : va_G) (cy : Nat → ClassId) (sz : Nat) (h0 : Nat) (g0 : Nat) (g1 : Nat) (g2 : Nat) (g3 : Nat) (g4 : Nat) (g5 : Nat) (g6 : Nat) (g7 : Nat) (g8 : Nat) (g9 : Nat) (g19 : Nat) (g20 : Nat) (g21 : Nat) (g22 : Nat) (g23 : Nat) (g46 : Nat) (g47 : Nat) (g48 : Nat) (g49 : Nat) (g50 : Nat) (g51 : Nat) (x : Int32) (y : Int32) (Xx : Int) (Xy : Int) (kx : x.toInt = Xx) (ky : y.toInt = Xy) : vx_Met l yX9_plan (Cond.code yX9_plan cX9_plan 3 (some .int) :: gz_T) ({ frames := 6, cells := 1, slots := 6, locals := 100 }) (va_Pc [.ref h0, .int x, .int y] (gPx G cy sz [(h0, .inr (9, [.ref g0, .ref g1, .ref g2, .ref g3, .ref g4, .ref g5, .ref g6, .ref g7, .ref g8, .ref g9, .int 0, .int 0])), (g6, .inr (2, [.ref g19, .ref g20, .ref g21, .ref g22, .ref g23])), (g19, .inl (cy 0, 4, .inl (fun _ => (-1)))), (g9, .inr (6, [.ref g2, .ref g3, .ref g6, .ref g7, .int 0, .ref g46, .ref g47, .ref g48, .ref g49, .ref g50, .int 0, .int 0, .ref g51, .int 0, .int 0]))])) (gQi G cy (fun (r : Int32) (u : Unit) => r = (-1) ∧ (1 ≤ Xy ∧ Xy ≤ 50000)) (fun (u : Unit) => []) (va_A [(h0, .inr (9, [.ref g0, .ref g1, .ref g2, .ref g3, .ref g4, .ref g5, .ref g6, .ref g7, .ref g8, .ref g9, .int 0, .int 0])), (g6, .inr (2, [.ref g19, .ref g20, .ref g21, .ref g22, .ref g23])), (g19, .inl (cy 0, 4, .inl (fun _ => (-1)))), (g9, .inr (6, [.ref g2, .ref g3, .ref g6, .ref g7, .int 0, .ref g46, .ref g47, .ref g48, .ref g49, .ref g50, .int 0, .int 0, .ref g51, .int 0, .int 0]))] sz)) (gXx (fun (_ : Unit) => ¬ (1 ≤ Xy ∧ Xy ≤ 50000)) "java/lang/IllegalArgumentException" (va_A [(h0, .inr (9, [.ref g0, .ref g1, .ref g2, .ref g3, .ref g4, .ref g5, .ref g6, .ref g7, .ref g8, .ref g9, .int 0, .int 0])), (g6, .inr (2, [.ref g19, .ref g20, .ref g21, .ref g22, .ref g23])), (g19, .inl (cy 0, 4, .inl (fun _ => (-1)))), (g9, .inr (6, [.ref g2, .ref g3, .ref g6, .ref g7, .int 0, .ref g46, .ref g47, .ref g48, .ref g49, .ref g50, .int 0, .int 0, .ref g51, .int 0, .int 0]))] sz)) 1 6 (va_A [(h0, .inr (9, [.ref g0, .ref g1, .ref g2, .ref g3, .ref g4, .ref g5, .ref g6, .ref g7, .ref g8, .ref g9, .int 0, .int 0])), (g6, .inr (2, [.ref g19, .ref g20, .ref g21, .ref g22, .ref g23])), (g19, .inl (cy 0, 4, .inl (fun _ => (-1)))), (g9, .inr (6, [.ref g2, .ref g3, .ref g6, .ref g7, .int 0, .ref g46, .ref g47, .ref g48, .ref g49, .ref g50, .int 0, .int 0, .ref g51, .int 0, .int 0]))] sz) := by
  refine gz_startX (rm := { frames := 6, cells := 1, slots := 6, locals := 100 }) (fun A => gQi G cy _ _ A) (fun A => gXx _ _ A) (by decide) (Nat.le_of_ble_eq_true rfl) ?_
  intro p e s m below meth c A ls H htab hth hx hb hr hml hlocks hin hown hts hK hov hsz hP hD hS hA hl
  have hl : lv_has ls 3 [(0, .ref h0), (1, .int x), (2, .int y)] := hl
  refine lv_iload_n hx hb dX9_plan_0 rfl (lv_at hl 2 rfl) ?_
  refine lv_iconst (v := 1) hx hb dX9_plan_1 (by decide) ?_
  refine lv_ldc (v := 50000) hx hb hown (hts _ gm_822) dX9_plan_2 ?_
  refine gz_afti (va_runS (As := [.int y, .int 1, .int 50000]) (rest := []) ⟨hx, hb, hml, hown, hts⟩ (c_isWithin l G cy H.size y 1 50000 y.toInt 1 50000 rfl (by decide) (by decide)) ⟨(gz_cb (n := 3) hts gm_351 gm_1 gm_353 ⟨by decide +kernel, by decide +kernel, by decide +kernel⟩ ⟨Nat.le_of_ble_eq_true rfl, Nat.le_of_ble_eq_true rfl⟩), hts _ gm_352⟩ (gz_preS hK hov hP hD [] (by decide) rfl) rfl rfl hl.1 rfl (lv_room (Nat.le_of_ble_eq_true rfl)) dX9_plan_4 ⟨Nat.le_of_ble_eq_true rfl, Nat.le_of_ble_eq_true rfl⟩) hP hD hS hA [] [0, 1, 2, 3] rfl rfl (by decide) (by decide) (fun r_1 u_1 H locs hw_1 hP hD hS => ?_)
  have hP : va_P G vwCl [(h0, .inr (9, [.ref g0, .ref g1, .ref g2, .ref g3, .ref g4, .ref g5, .ref g6, .ref g7, .ref g8, .ref g9, .int 0, .int 0])), (g6, .inr (2, [.ref g19, .ref g20, .ref g21, .ref g22, .ref g23])), (g19, .inl (cy 0, 4, .inl (fun _ => (-1)))), (g9, .inr (6, [.ref g2, .ref g3, .ref g6, .ref g7, .int 0, .ref g46, .ref g47, .ref g48, .ref g49, .ref g50, .int 0, .int 0, .ref g51, .int 0, .int 0]))] H := hP
  have hD : va_D A [(h0, .inr (9, [.ref g0, .ref g1, .ref g2, .ref g3, .ref g4, .ref g5, .ref g6, .ref g7, .ref g8, .ref g9, .int 0, .int 0])), (g6, .inr (2, [.ref g19, .ref g20, .ref g21, .ref g22, .ref g23])), (g19, .inl (cy 0, 4, .inl (fun _ => (-1)))), (g9, .inr (6, [.ref g2, .ref g3, .ref g6, .ref g7, .int 0, .ref g46, .ref g47, .ref g48, .ref g49, .ref g50, .int 0, .int 0, .ref g51, .int 0, .int 0]))] := hD
  rcases hw_1 with ⟨rfl, hw_1_0, hw_1_1⟩ | ⟨rfl, hw_1_0⟩
  · skip
    refine lv_if_ne (tgt := 20) hx hb dX9_plan_7 (by decide) (fun _ => ?_) (fun h9 => absurd h9 (by decide))
    refine lv_aload_n hx hb dX9_plan_20 rfl (lv_at hl 0 rfl) ?_
    refine va_get (ci := 9) (v := .ref g6) (C := RX9) (T := TX9) (N := 12) hx hb hts inX9 hown hK hP 0 rfl rfl 6 (by decide) (hts _ gm_297) (fun _ h9 => h9) rfl dX9_plan_21 ?_
    refine gz_afti (va_runV (As := []) (rest := []) ⟨hx, hb, hml, hown, hts⟩ (c_X2_size l G cy H.size g6 g19 g20 g21 g22 g23 ) ⟨(gz_cb (n := 0) hts gm_734 gm_9 gm_737 ⟨by decide +kernel, by decide +kernel, by decide +kernel⟩ ⟨Nat.le_of_ble_eq_true rfl, Nat.le_of_ble_eq_true rfl⟩), hts _ gm_735, hts _ gm_736⟩ (gz_preV (ci := 2) (q0 := 0) hK hov hP hD [1, 2] (by decide) rfl rfl rfl) rfl rfl hl.1 rfl (lv_room (Nat.le_of_ble_eq_true rfl)) dX9_plan_24 ⟨Nat.le_of_ble_eq_true rfl, Nat.le_of_ble_eq_true rfl⟩) hP hD hS hA [1, 2] [0, 3] rfl rfl (by decide) (by decide) (fun r_2 u_2 H locs hw_2 hP hD hS => ?_)
    have hP : va_P G vwCl [(h0, .inr (9, [.ref g0, .ref g1, .ref g2, .ref g3, .ref g4, .ref g5, .ref g6, .ref g7, .ref g8, .ref g9, .int 0, .int 0])), (g9, .inr (6, [.ref g2, .ref g3, .ref g6, .ref g7, .int 0, .ref g46, .ref g47, .ref g48, .ref g49, .ref g50, .int 0, .int 0, .ref g51, .int 0, .int 0])), (g6, .inr (2, [.ref g19, .ref g20, .ref g21, .ref g22, .ref g23])), (g19, .inl (cy 0, 4, .inl (fun _ => (-1))))] H := hP
    have hD : va_D A [(h0, .inr (9, [.ref g0, .ref g1, .ref g2, .ref g3, .ref g4, .ref g5, .ref g6, .ref g7, .ref g8, .ref g9, .int 0, .int 0])), (g9, .inr (6, [.ref g2, .ref g3, .ref g6, .ref g7, .int 0, .ref g46, .ref g47, .ref g48, .ref g49, .ref g50, .int 0, .int 0, .ref g51, .int 0, .int 0])), (g6, .inr (2, [.ref g19, .ref g20, .ref g21, .ref g22, .ref g23])), (g19, .inl (cy 0, 4, .inl (fun _ => (-1))))] := hD
    obtain rfl := hw_2
    refine lv_if_eq (tgt := 52) hx hb dX9_plan_27 (by decide) (fun _ => ?_) (fun h9 => absurd (by decide) h9)
    refine lv_aload_n hx hb dX9_plan_52 rfl (lv_at hl 0 rfl) ?_
    refine va_get (ci := 9) (v := .ref g9) (C := RX9) (T := TX9) (N := 12) hx hb hts inX9 hown hK hP 0 rfl rfl 9 (by decide) (hts _ gm_300) (fun _ h9 => h9) rfl dX9_plan_53 ?_
    refine lv_iconst (v := 0) hx hb dX9_plan_56 (by decide) ?_
    refine va_putN (host := "WellCourt") (ci := 6) (v := .int 0) (ty := .int) (C := RX6) (T := TX6) (N := 15) hx hb hts inX6 tyX6 tyX6_ok nmX6 hown hK hP hD hS 1 rfl rfl 10 (by decide) (va_Nw.use rfl (hov.2.2 _ gn_254)) (fun _ h9 => h9) rfl (by decide +kernel) rfl rfl (Nat.le_of_ble_eq_true rfl) dX9_plan_57 (fun H locs hP hD hS => ?_)
    have hP : va_P G vwCl [(h0, .inr (9, [.ref g0, .ref g1, .ref g2, .ref g3, .ref g4, .ref g5, .ref g6, .ref g7, .ref g8, .ref g9, .int 0, .int 0])), (g9, .inr (6, [.ref g2, .ref g3, .ref g6, .ref g7, .int 0, .ref g46, .ref g47, .ref g48, .ref g49, .ref g50, .int 0, .int 0, .ref g51, .int 0, .int 0])), (g6, .inr (2, [.ref g19, .ref g20, .ref g21, .ref g22, .ref g23])), (g19, .inl (cy 0, 4, .inl (fun _ => (-1))))] H := hP
    have hD : va_D A [(h0, .inr (9, [.ref g0, .ref g1, .ref g2, .ref g3, .ref g4, .ref g5, .ref g6, .ref g7, .ref g8, .ref g9, .int 0, .int 0])), (g9, .inr (6, [.ref g2, .ref g3, .ref g6, .ref g7, .int 0, .ref g46, .ref g47, .ref g48, .ref g49, .ref g50, .int 0, .int 0, .ref g51, .int 0, .int 0])), (g6, .inr (2, [.ref g19, .ref g20, .ref g21, .ref g22, .ref g23])), (g19, .inl (cy 0, 4, .inl (fun _ => (-1))))] := hD
    refine lv_iconst (v := (-1)) hx hb dX9_plan_60 (by decide) ?_
    refine vx_ret ?_
    exact gz_iret (p := p) (l := l) (e := e) (s := s) (m := m) (below := below) (meth := meth) (c := c) (H := H) (cells := 0) (slots := 0) (mc := 1) (ms := 6) (cf := (fun (u : Unit) => [])) (post := (fun (r : Int32) (u : Unit) => r = (-1) ∧ (1 ≤ Xy ∧ Xy ≤ 50000))) hx hb hr hlocks hK hP hD hS () [] rfl ⟨rfl, by omega⟩ (by decide) rfl (by exact Nat.le_of_ble_eq_true rfl) (by exact Nat.le_of_ble_eq_true rfl) dX9_plan_61
  · skip
    refine lv_if_ne (tgt := 20) hx hb dX9_plan_7 (by decide) (fun h9 => absurd (by decide) h9) (fun _ => ?_)
    obtain ⟨sa, hstr⟩ := hth.2.2.2.1
    exact vx_throwS (own := RX9) (cls := "java/lang/IllegalArgumentException") (names := ["java/lang/RuntimeException", "java/lang/Exception"]) (A := A) hx hb hlt hown (by decide +kernel) (by decide +kernel) (hts _ gm_823) (hts _ gm_22) hstr (vx_hat (fun w9 h9 => hts w9 (List.mem_filter.mpr ⟨xw2 w9 h9, (List.mem_filter.mp h9).2⟩)) xw2_bad (gz_badu hth.2.2.2.2)) xw2_ot hth.1 hth.2.1 hS (hl.1.trans hml.symm) dX9_plan_10 dX9_plan_13 dX9_plan_14 dX9_plan_16 dX9_plan_19 (fun x9 hx9 => (htab x9 hx9).elim) (Nat.le_of_ble_eq_true rfl) (Nat.le_of_ble_eq_true rfl) (Nat.le_of_ble_eq_true rfl) (Nat.le_of_ble_eq_true rfl) hlocks (fun t hvm hsz9 hold => ⟨(), by omega, rfl, Nat.le_trans hS.1 hsz9, fun q h1 h2 => (hold q (Nat.lt_of_lt_of_le h1 hS.1)).trans (hS.2.1 q h1 h2)⟩) hS.2.2 (by exact Nat.le_of_ble_eq_true rfl) (by exact Nat.le_of_ble_eq_true rfl)
