theorem gb_749 : (Jvm.Cond.castable "java/util/NoSuchElementException" "java/util/NoSuchElementException") ∈ gzB := gz_bad 749 (by decide +kernel) rfl
theorem gb_825 : (Jvm.Cond.castable "java/lang/IllegalArgumentException" "java/lang/IllegalArgumentException") ∈ gzB := gz_bad 825 (by decide +kernel) rfl
theorem gm_742 : (Jvm.Cond.classLink "WellCourtLaw" (13 : Nat) "java/util/NoSuchElementException") ∈ gz_T := gz_at 742 (by decide +kernel) rfl
theorem gm_743 : (Jvm.Cond.methodLink "WellCourtLaw" (7 : Nat) ({ cls := "WellCourt", name := "drawn", desc := "(II)I" } : Jvm.MethodName)) ∈ gz_T := gz_at 743 (by decide +kernel) rfl
theorem gm_744 : (Jvm.Cond.instanceMethod ({ cls := "WellCourt", name := "drawn", desc := "(II)I" } : Jvm.MethodName)) ∈ gz_T := gz_at 744 (by decide +kernel) rfl
theorem gm_745 : (Jvm.Cond.selects "WellCourt" ({ cls := "WellCourt", name := "drawn", desc := "(II)I" } : Jvm.MethodName) ({ cls := "WellCourt", name := "drawn", desc := "(II)I" } : Jvm.MethodName)) ∈ gz_T := gz_at 745 (by decide +kernel) rfl
theorem gm_746 : (Jvm.Cond.code ({ cls := "WellCourt", name := "drawn", desc := "(II)I" } : Jvm.MethodName) prog_1_method_15_code (3 : Nat) (Option.some Jvm.ClassFile.FieldType.int)) ∈ gz_T := gz_at 746 (by decide +kernel) rfl
theorem gm_817 : (Jvm.Cond.classLink "WellCourtLaw" (18 : Nat) "java/lang/IllegalArgumentException") ∈ gz_T := gz_at 817 (by decide +kernel) rfl
theorem gm_818 : (Jvm.Cond.methodLink "WellCourtLaw" (15 : Nat) ({ cls := "WellCourt", name := "plan", desc := "(II)I" } : Jvm.MethodName)) ∈ gz_T := gz_at 818 (by decide +kernel) rfl
theorem gm_819 : (Jvm.Cond.instanceMethod ({ cls := "WellCourt", name := "plan", desc := "(II)I" } : Jvm.MethodName)) ∈ gz_T := gz_at 819 (by decide +kernel) rfl
theorem gm_820 : (Jvm.Cond.selects "WellCourt" ({ cls := "WellCourt", name := "plan", desc := "(II)I" } : Jvm.MethodName) ({ cls := "WellCourt", name := "plan", desc := "(II)I" } : Jvm.MethodName)) ∈ gz_T := gz_at 820 (by decide +kernel) rfl
theorem gm_821 : (Jvm.Cond.code ({ cls := "WellCourt", name := "plan", desc := "(II)I" } : Jvm.MethodName) prog_1_method_20_code (3 : Nat) (Option.some Jvm.ClassFile.FieldType.int)) ∈ gz_T := gz_at 821 (by decide +kernel) rfl
theorem dL_drawn_0 : decode cL_drawn 0 = .ok (.aload_n 3, 1) := by decide +kernel
theorem dL_drawn_1 : decode cL_drawn 1 = .ok (.iconst 0, 1) := by decide +kernel
theorem dL_drawn_2 : decode cL_drawn 2 = .ok (.aload_n 0, 1) := by decide +kernel
theorem dL_drawn_3 : decode cL_drawn 3 = .ok (.iload_n 1, 1) := by decide +kernel
theorem dL_drawn_4 : decode cL_drawn 4 = .ok (.iload_n 2, 1) := by decide +kernel
theorem dL_drawn_5 : decode cL_drawn 5 = .ok (.invokevirtual 7, 3) := by decide +kernel
theorem dL_drawn_13 : decode cL_drawn 13 = .ok (.astore 4, 2) := by decide +kernel
theorem dL_drawn_15 : decode cL_drawn 15 = .ok (.iconst 1, 1) := by decide +kernel
theorem dL_drawn_16 : decode cL_drawn 16 = .ok (.ireturn, 1) := by decide +kernel
theorem dL_plan_0 : decode cL_plan 0 = .ok (.aload_n 3, 1) := by decide +kernel
theorem dL_plan_1 : decode cL_plan 1 = .ok (.iconst 0, 1) := by decide +kernel
theorem dL_plan_2 : decode cL_plan 2 = .ok (.aload_n 0, 1) := by decide +kernel
theorem dL_plan_3 : decode cL_plan 3 = .ok (.iload_n 1, 1) := by decide +kernel
theorem dL_plan_4 : decode cL_plan 4 = .ok (.iload_n 2, 1) := by decide +kernel
theorem dL_plan_5 : decode cL_plan 5 = .ok (.invokevirtual 15, 3) := by decide +kernel
theorem dL_plan_8 : decode cL_plan 8 = .ok (.i2l, 1) := by decide +kernel
theorem dL_plan_9 : decode cL_plan 9 = .ok (.lastore, 1) := by decide +kernel
theorem dL_plan_10 : decode cL_plan 10 = .ok (.goto 7, 3) := by decide +kernel
theorem dL_plan_13 : decode cL_plan 13 = .ok (.astore 4, 2) := by decide +kernel
theorem dL_plan_15 : decode cL_plan 15 = .ok (.iconst 1, 1) := by decide +kernel
theorem dL_plan_16 : decode cL_plan 16 = .ok (.ireturn, 1) := by decide +kernel
theorem dL_plan_17 : decode cL_plan 17 = .ok (.iconst 0, 1) := by decide +kernel
theorem dL_plan_18 : decode cL_plan 18 = .ok (.ireturn, 1) := by decide +kernel
set_option maxHeartbeats 4000000 in
set_option maxRecDepth 100000 in
theorem h_drawn (l : Launch) (hlt : l.stackTraces = false) (G : va_G) (cy : Nat → ClassId) (sz : Nat) (h0 : Nat) (g0 : Nat) (g1 : Nat) (g2 : Nat) (g3 : Nat) (g4 : Nat) (g5 : Nat) (g6 : Nat) (g7 : Nat) (g8 : Nat) (g9 : Nat) (g18 : Nat) (o : Nat) (x : Int32) (y : Int32) (Xx : Int) (Xy : Int) (kx : x.toInt = Xx) (ky : y.toInt = Xy) : Met l yL_drawn (Cond.codeWith yL_drawn cL_drawn 5 (some .int) [(0, 10, 13, 13)] :: gz_T) ({ frames := 7, cells := 1, slots := 6, locals := 130 } : Room) (va_Pc [.ref h0, .int x, .int y, .ref o] (gPx G cy sz [(h0, .inr (9, [.ref g0, .ref g1, .ref g2, .ref g3, .ref g4, .ref g5, .ref g6, .ref g7, .ref g8, .ref g9, .int 0, .int 0])), (g5, .inr (5, [.ref g18, .int 0]))])) (gQi G cy (fun (r : Int32) (u : Unit) => r = 1) (fun (u : Unit) => []) (va_A [(h0, .inr (9, [.ref g0, .ref g1, .ref g2, .ref g3, .ref g4, .ref g5, .ref g6, .ref g7, .ref g8, .ref g9, .int 0, .int 0])), (g5, .inr (5, [.ref g18, .int 0]))] sz)) 1 6 (va_A [(h0, .inr (9, [.ref g0, .ref g1, .ref g2, .ref g3, .ref g4, .ref g5, .ref g6, .ref g7, .ref g8, .ref g9, .int 0, .int 0])), (g5, .inr (5, [.ref g18, .int 0]))] sz) := by
  refine gz_startH (hh := [(0, 10, 13, 13)]) (rm := ({ frames := 7, cells := 1, slots := 6, locals := 130 } : Room)) (fun A => gQi G cy _ _ A) (by decide) (Nat.le_of_ble_eq_true rfl) ?_
  intro p e s m below meth c A ls H htab hth hx hb hr hml hlocks hin hown hts hK hov hsz hP hD hS hA hl
  have hl : lv_has ls 5 [(0, .ref h0), (1, .int x), (2, .int y), (3, .ref o)] := hl
  refine lv_aload_n hx hb dL_drawn_0 rfl (lv_at hl 3 rfl) ?_
  refine lv_iconst (v := 0) hx hb dL_drawn_1 (by decide) ?_
  refine lv_aload_n hx hb dL_drawn_2 rfl (lv_at hl 0 rfl) ?_
  refine lv_iload_n hx hb dL_drawn_3 rfl (lv_at hl 1 rfl) ?_
  refine lv_iload_n hx hb dL_drawn_4 rfl (lv_at hl 2 rfl) ?_
  refine gz_aftx (vx_runV (As := [.int x, .int y]) (rest := [.int 0, .ref o]) ⟨hx, hb, hml, hown, hts⟩ (x_drawn l hlt G cy H.size h0 g0 g1 g2 g3 g4 g5 g6 g7 g8 g9 g18 x y Xx Xy kx ky) ⟨(gz_cb (n := 2) (rm := ({ frames := 6, cells := 1, slots := 6, locals := 100 } : Room)) hts gm_743 gm_1 gm_746 ⟨by decide +kernel, by decide +kernel, by decide +kernel⟩ ⟨Nat.le_of_ble_eq_true rfl, Nat.le_of_ble_eq_true rfl⟩), hts _ gm_744, hts _ gm_745⟩ (gz_preVX (ci := 9) (q0 := 0) hK hov hth hP hD hS hA [0, 1] (by decide) rfl rfl rfl) rfl rfl hl.1 rfl (lv_room (Nat.le_of_ble_eq_true rfl)) dL_drawn_5 ⟨Nat.le_of_ble_eq_true rfl, Nat.le_of_ble_eq_true rfl⟩) hP hD hS hA [0, 1] [] rfl rfl (by decide) (by decide) (fun ce q9 u H locs hpx hP hD hS hce hcv hcl => ?_) (fun r u H locs hw hP hD hS => ?_)
  · refine vx_catch (own := RL) (name := "java/util/NoSuchElementException") hown [] ⟨0, 10, 13, 13⟩ [] (by rw [htab]; rfl) (fun z hz => by cases hz) rfl (by decide) (hts _ gm_742) (va_Nw.use rfl (hth.2.2.2.2 _ gb_749)) hce hcv hcl ?_
    have hP : va_P G vwCl [] H := hP
    have hD : va_D A [] := hD
    refine lv_astore (lv' := [(4, .ref q9), (0, .ref h0), (1, .int x), (2, .int y), (3, .ref o)]) hx hb dL_drawn_13 hl (by decide) rfl (fun ls hl => ?_)
    refine lv_iconst (v := 1) hx hb dL_drawn_15 (by decide) ?_
    exact gz_iret (p := p) (l := l) (e := e) (s := s) (m := m) (below := below) (meth := meth) (c := c) (H := H) (cells := 1) (slots := 6) (mc := 1) (ms := 6) (cf := (fun (u : Unit) => [])) (post := (fun (r : Int32) (u : Unit) => r = 1)) hx hb hr hlocks hK hP hD hS () [] rfl rfl (by decide) rfl (by exact Nat.le_of_ble_eq_true rfl) (by exact Nat.le_of_ble_eq_true rfl) dL_drawn_16
  · exact hw.2.elim

set_option maxHeartbeats 4000000 in
set_option maxRecDepth 100000 in
theorem h_plan (l : Launch) (hlt : l.stackTraces = false) (G : va_G) (cy : Nat → ClassId) (sz : Nat) (h0 : Nat) (g0 : Nat) (g1 : Nat) (g2 : Nat) (g3 : Nat) (g4 : Nat) (g5 : Nat) (g6 : Nat) (g7 : Nat) (g8 : Nat) (g9 : Nat) (g19 : Nat) (g20 : Nat) (g21 : Nat) (g22 : Nat) (g23 : Nat) (g46 : Nat) (g47 : Nat) (g48 : Nat) (g49 : Nat) (g50 : Nat) (g51 : Nat) (o : Nat) (x : Int32) (y : Int32) (Xx : Int) (Xy : Int) (kx : x.toInt = Xx) (ky : y.toInt = Xy) : Met l yL_plan (Cond.codeWith yL_plan cL_plan 5 (some .int) [(0, 10, 13, 18)] :: gz_T) ({ frames := 7, cells := 1, slots := 6, locals := 130 } : Room) (va_Pc [.ref h0, .int x, .int y, .ref o] (gPx G cy sz [(h0, .inr (9, [.ref g0, .ref g1, .ref g2, .ref g3, .ref g4, .ref g5, .ref g6, .ref g7, .ref g8, .ref g9, .int 0, .int 0])), (g6, .inr (2, [.ref g19, .ref g20, .ref g21, .ref g22, .ref g23])), (g19, .inl (cy 0, 4, .inl (fun _ => (-1)))), (g9, .inr (6, [.ref g2, .ref g3, .ref g6, .ref g7, .int 0, .ref g46, .ref g47, .ref g48, .ref g49, .ref g50, .int 0, .int 0, .ref g51, .int 0, .int 0])), (o, .inl (cy 5, 1, .inr (.inl (fun _ => 0))))])) (gQi G cy (fun (r : Int32) (u : Nat → Int64) => (r = 1 ∧ ¬ (1 ≤ Xy ∧ Xy ≤ 50000)) ∨ (r = 0 ∧ (1 ≤ Xy ∧ Xy ≤ 50000) ∧ u 0 = -1)) (fun (u : Nat → Int64) => [(o, .inl (cy 5, 1, .inr (.inl u)))]) (va_A [(h0, .inr (9, [.ref g0, .ref g1, .ref g2, .ref g3, .ref g4, .ref g5, .ref g6, .ref g7, .ref g8, .ref g9, .int 0, .int 0])), (g6, .inr (2, [.ref g19, .ref g20, .ref g21, .ref g22, .ref g23])), (g19, .inl (cy 0, 4, .inl (fun _ => (-1)))), (g9, .inr (6, [.ref g2, .ref g3, .ref g6, .ref g7, .int 0, .ref g46, .ref g47, .ref g48, .ref g49, .ref g50, .int 0, .int 0, .ref g51, .int 0, .int 0])), (o, .inl (cy 5, 1, .inr (.inl (fun _ => 0))))] sz)) 1 6 (va_A [(h0, .inr (9, [.ref g0, .ref g1, .ref g2, .ref g3, .ref g4, .ref g5, .ref g6, .ref g7, .ref g8, .ref g9, .int 0, .int 0])), (g6, .inr (2, [.ref g19, .ref g20, .ref g21, .ref g22, .ref g23])), (g19, .inl (cy 0, 4, .inl (fun _ => (-1)))), (g9, .inr (6, [.ref g2, .ref g3, .ref g6, .ref g7, .int 0, .ref g46, .ref g47, .ref g48, .ref g49, .ref g50, .int 0, .int 0, .ref g51, .int 0, .int 0])), (o, .inl (cy 5, 1, .inr (.inl (fun _ => 0))))] sz) := by
  refine gz_startH (hh := [(0, 10, 13, 18)]) (rm := ({ frames := 7, cells := 1, slots := 6, locals := 130 } : Room)) (fun A => gQi G cy _ _ A) (by decide) (Nat.le_of_ble_eq_true rfl) ?_
  intro p e s m below meth c A ls H htab hth hx hb hr hml hlocks hin hown hts hK hov hsz hP hD hS hA hl
  have hl : lv_has ls 5 [(0, .ref h0), (1, .int x), (2, .int y), (3, .ref o)] := hl
  refine lv_aload_n hx hb dL_plan_0 rfl (lv_at hl 3 rfl) ?_
  refine lv_iconst (v := 0) hx hb dL_plan_1 (by decide) ?_
  refine lv_aload_n hx hb dL_plan_2 rfl (lv_at hl 0 rfl) ?_
  refine lv_iload_n hx hb dL_plan_3 rfl (lv_at hl 1 rfl) ?_
  refine lv_iload_n hx hb dL_plan_4 rfl (lv_at hl 2 rfl) ?_
  refine gz_aftx (vx_runV (As := [.int x, .int y]) (rest := [.int 0, .ref o]) ⟨hx, hb, hml, hown, hts⟩ (x_plan l hlt G cy H.size h0 g0 g1 g2 g3 g4 g5 g6 g7 g8 g9 g19 g20 g21 g22 g23 g46 g47 g48 g49 g50 g51 x y Xx Xy kx ky) ⟨(gz_cb (n := 2) (rm := ({ frames := 6, cells := 1, slots := 6, locals := 100 } : Room)) hts gm_818 gm_1 gm_821 ⟨by decide +kernel, by decide +kernel, by decide +kernel⟩ ⟨Nat.le_of_ble_eq_true rfl, Nat.le_of_ble_eq_true rfl⟩), hts _ gm_819, hts _ gm_820⟩ (gz_preVX (ci := 9) (q0 := 0) hK hov hth hP hD hS hA [0, 1, 2, 3] (by decide) rfl rfl rfl) rfl rfl hl.1 rfl (lv_room (Nat.le_of_ble_eq_true rfl)) dL_plan_5 ⟨Nat.le_of_ble_eq_true rfl, Nat.le_of_ble_eq_true rfl⟩) hP hD hS hA [0, 1, 2, 3] [4] rfl rfl (by decide) (by decide) (fun ce q9 u H locs hpx hP hD hS hce hcv hcl => ?_) (fun r u H locs hw hP hD hS => ?_)
  · refine vx_catch (own := RL) (name := "java/lang/IllegalArgumentException") hown [] ⟨0, 10, 13, 18⟩ [] (by rw [htab]; rfl) (fun z hz => by cases hz) rfl (by decide) (hts _ gm_817) (va_Nw.use rfl (hth.2.2.2.2 _ gb_825)) hce hcv hcl ?_
    have hP : va_P G vwCl [(o, .inl (cy 5, 1, .inr (.inl (fun _ => 0))))] H := hP
    have hD : va_D A [(o, .inl (cy 5, 1, .inr (.inl (fun _ => 0))))] := hD
    refine lv_astore (lv' := [(4, .ref q9), (0, .ref h0), (1, .int x), (2, .int y), (3, .ref o)]) hx hb dL_plan_13 hl (by decide) rfl (fun ls hl => ?_)
    refine lv_iconst (v := 1) hx hb dL_plan_15 (by decide) ?_
    exact gz_iret (p := p) (l := l) (e := e) (s := s) (m := m) (below := below) (meth := meth) (c := c) (H := H) (cells := 1) (slots := 6) (mc := 1) (ms := 6) (cf := (fun (u : Nat → Int64) => [(o, .inl (cy 5, 1, .inr (.inl u)))])) (post := (fun (r : Int32) (u : Nat → Int64) => (r = 1 ∧ ¬ (1 ≤ Xy ∧ Xy ≤ 50000)) ∨ (r = 0 ∧ (1 ≤ Xy ∧ Xy ≤ 50000) ∧ u 0 = -1))) hx hb hr hlocks hK hP hD hS (fun _ => 0) [0] rfl (Or.inl ⟨rfl, hpx⟩) (by decide) rfl (by exact Nat.le_of_ble_eq_true rfl) (by exact Nat.le_of_ble_eq_true rfl) dL_plan_16
  · obtain ⟨rfl, hpp⟩ := hw
    have hP : va_P G vwCl [(o, .inl (cy 5, 1, .inr (.inl (fun _ => 0))))] H := hP
    have hD : va_D A [(o, .inl (cy 5, 1, .inr (.inl (fun _ => 0))))] := hD
    refine lv_i2l (v := -1) hx hb dL_plan_8 (by decide) ?_
    refine va_last hx hb hK hP hD hS 0 5 rfl rfl (vp_in_iff.mpr (by decide)) dL_plan_9 (fun H locs hP hD hS => ?_)
    refine lv_goto (tgt := 17) hx hb dL_plan_10 (by decide) ?_
    refine lv_iconst (v := 0) hx hb dL_plan_17 (by decide) ?_
    exact gz_iret (p := p) (l := l) (e := e) (s := s) (m := m) (below := below) (meth := meth) (c := c) (H := H) (cells := 1) (slots := 6) (mc := 1) (ms := 6) (cf := (fun (u : Nat → Int64) => [(o, .inl (cy 5, 1, .inr (.inl u)))])) (post := (fun (r : Int32) (u : Nat → Int64) => (r = 1 ∧ ¬ (1 ≤ Xy ∧ Xy ≤ 50000)) ∨ (r = 0 ∧ (1 ≤ Xy ∧ Xy ≤ 50000) ∧ u 0 = -1))) hx hb hr hlocks hK hP hD hS (vp_updL (fun _ => 0) (0 : Int32).toNatClampNeg (-1)) [0] rfl (Or.inr ⟨rfl, hpp, rfl⟩) (by decide) rfl (by exact Nat.le_of_ble_eq_true rfl) (by exact Nat.le_of_ble_eq_true rfl) dL_plan_18
