theorem gb_749 : (Jvm.Cond.castable "java/util/NoSuchElementException" "java/util/NoSuchElementException") ∈ gzB := gz_bad 749 (by decide +kernel) rfl
theorem gb_825 : (Jvm.Cond.castable "java/lang/IllegalArgumentException" "java/lang/IllegalArgumentException") ∈ gzB := gz_bad 825 (by decide +kernel) rfl
theorem gm_742 : (Jvm.Cond.classLink "WellCourtLaw" (13 : Nat) "java/util/NoSuchElementException") ∈ gz_T := gz_at 742 (by decide +kernel) rfl
theorem gm_743 : (Jvm.Cond.methodLink "WellCourtLaw" (7 : Nat) ({ cls := "WellCourt", name := "drawn", desc := "(II)I" } : Jvm.MethodName)) ∈ gz_T := gz_at 743 (by decide +kernel) rfl
theorem gm_744 : (Jvm.Cond.instanceMethod ({ cls := "WellCourt", name := "drawn", desc := "(II)I" } : Jvm.MethodName)) ∈ gz_T := gz_at 744 (by decide +kernel) rfl
theorem gm_745 : (Jvm.Cond.selects "WellCourt" ({ cls := "WellCourt", name := "drawn", desc := "(II)I" } : Jvm.MethodName) ({ cls := "WellCourt", name := "drawn", desc := "(II)I" } : Jvm.MethodName)) ∈ gz_T := gz_at 745 (by decide +kernel) rfl
theorem gm_746 : (Jvm.Cond.code ({ cls := "WellCourt", name := "drawn", desc := "(II)I" } : Jvm.MethodName) prog_1_method_15_code (3 : Nat) (Option.some Jvm.ClassFile.FieldType.int)) ∈ gz_T := gz_at 746 (by decide +kernel) rfl
theorem gm_817 : (Jvm.Cond.classLink "WellCourtLaw" (18 : Nat) "java/lang/IllegalArgumentException") ∈ gz_T := gz_at 817 (by decide +kernel) rfl
theorem gm_818 : (Jvm.Cond.methodLink "WellCourtLaw" (15 : Nat) ({ cls := "WellCourt", name := "plan", desc := "(II)I" } : Jvm.MethodName)) ∈ gz_T := gz_at 818 (by decide +kernel) rfl
theorem gm_819 : (Jvm.Cond.instanceMethod ({ cls := "WellCourt", name := "plan", desc := "(II)I" } : Jvm.MethodName)) ∈ gz_T := gz_at 819 (by decide +kernel) rfl
theorem gm_820 : (Jvm.Cond.selects "WellCourt" ({ cls := "WellCourt", name := "plan", desc := "(II)I" } : Jvm.MethodName) ({ cls := "WellCourt", name := "plan", desc := "(II)I" } : Jvm.MethodName)) ∈ gz_T := gz_at 820 (by decide +kernel) rfl
theorem gm_821 : (Jvm.Cond.code ({ cls := "WellCourt", name := "plan", desc := "(II)I" } : Jvm.MethodName) prog_1_method_20_code (3 : Nat) (Option.some Jvm.ClassFile.FieldType.int)) ∈ gz_T := gz_at 821 (by decide +kernel) rfl
theorem dL_drawn_0 : decode cL_drawn 0 = .ok (.aload_n 3, 1) := by decide +kernel
theorem dL_drawn_1 : decode cL_drawn 1 = .ok (.iconst 0, 1) := by decide +kernel
theorem dL_drawn_2 : decode cL_drawn 2 = .ok (.aload_n 0, 1) := by decide +kernel
theorem dL_drawn_3 : decode cL_drawn 3 = .ok (.iload_n 1, 1) := by decide +kernel
theorem dL_drawn_4 : decode cL_drawn 4 = .ok (.iload_n 2, 1) := by decide +kernel
theorem dL_drawn_5 : decode cL_drawn 5 = .ok (.invokevirtual 7, 3) := by decide +kernel
theorem dL_drawn_8 : decode cL_drawn 8 = .ok (.i2l, 1) := by decide +kernel
theorem dL_drawn_9 : decode cL_drawn 9 = .ok (.lastore, 1) := by decide +kernel
theorem dL_drawn_10 : decode cL_drawn 10 = .ok (.goto 7, 3) := by decide +kernel
theorem dL_drawn_13 : decode cL_drawn 13 = .ok (.astore 4, 2) := by decide +kernel
theorem dL_drawn_15 : decode cL_drawn 15 = .ok (.iconst 1, 1) := by decide +kernel
theorem dL_drawn_16 : decode cL_drawn 16 = .ok (.ireturn, 1) := by decide +kernel
theorem dL_drawn_17 : decode cL_drawn 17 = .ok (.iconst 0, 1) := by decide +kernel
theorem dL_drawn_18 : decode cL_drawn 18 = .ok (.ireturn, 1) := by decide +kernel
theorem dL_plan_0 : decode cL_plan 0 = .ok (.aload_n 3, 1) := by decide +kernel
theorem dL_plan_1 : decode cL_plan 1 = .ok (.iconst 0, 1) := by decide +kernel
theorem dL_plan_2 : decode cL_plan 2 = .ok (.aload_n 0, 1) := by decide +kernel
theorem dL_plan_3 : decode cL_plan 3 = .ok (.iload_n 1, 1) := by decide +kernel
theorem dL_plan_4 : decode cL_plan 4 = .ok (.iload_n 2, 1) := by decide +kernel
theorem dL_plan_5 : decode cL_plan 5 = .ok (.invokevirtual 15, 3) := by decide +kernel
theorem dL_plan_8 : decode cL_plan 8 = .ok (.i2l, 1) := by decide +kernel
theorem dL_plan_9 : decode cL_plan 9 = .ok (.lastore, 1) := by decide +kernel
theorem dL_plan_10 : decode cL_plan 10 = .ok (.goto 7, 3) := by decide +kernel
theorem dL_plan_13 : decode cL_plan 13 = .ok (.astore 4, 2) := by decide +kernel
theorem dL_plan_15 : decode cL_plan 15 = .ok (.iconst 1, 1) := by decide +kernel
theorem dL_plan_16 : decode cL_plan 16 = .ok (.ireturn, 1) := by decide +kernel
theorem dL_plan_17 : decode cL_plan 17 = .ok (.iconst 0, 1) := by decide +kernel
theorem dL_plan_18 : decode cL_plan 18 = .ok (.ireturn, 1) := by decide +kernel
set_option maxHeartbeats 4000000 in
set_option maxRecDepth 100000 in
theorem h_drawn (l : Launch) (hlt : l.stackTraces = false) (G : va_G) (cy : Nat → ClassId) (sK sV : Nat → Nat) (ad : Nat → Nat → Nat) (o sz : Nat) (st : gS) (f : Nat → Int64) (hB : gBd bX st) (x y : Int32) (Xx Xy : Int) (kx : x.toInt = Xx) (ky : y.toInt = Xy)  : Met l yL_drawn (Cond.codeWith yL_drawn cL_drawn 5 (some .int) [(0, 10, 13, 13)] :: gz_T) ({ frames := 7, cells := 1, slots := 6, locals := 130 } : Room) (va_Pc [.ref (ad 0 0), .int x, .int y, .ref o] (gsPo G cy sK sV (shX cy ad) cnX ad o sz st f)) (gsQo G cy (shX cy ad) cnX ad o (fun (r : Int32) (u : gS) (g : Nat → Int64) => gBN bX kX [] st u ∧ ((r = 1 ∧ u = st ∧ ¬ (0 ≤ Xx ∧ Xx < (st 16 0 1).toInt ∧ 0 ≤ Xy ∧ Xy ≤ 5)) ∨ (r = 0 ∧ (0 ≤ Xx ∧ Xx < (st 16 0 1).toInt ∧ 0 ≤ Xy ∧ Xy ≤ 5) ∧ (g = vp_updL f (0 : Int32).toNatClampNeg (Int32.toInt64 (st 18 y.toNatClampNeg x.toNatClampNeg)))))) (gAo cnX ad o sz)) 1 6 (gAo cnX ad o sz) := by
  refine gs_startO (hh := [(0, 10, 13, 13)]) (rm := ({ frames := 7, cells := 1, slots := 6, locals := 130 } : Room)) (fun A => gsQo G cy (shX cy ad) cnX ad o _ A) (by decide) (Nat.le_of_ble_eq_true rfl) ?_
  intro p e s m below meth c A ls H htab hx hb hr hml hlocks hown hts hK hov hE hI hM hO hne hm hAo hS hA hl
  have hl : lv_has ls 5 [(0, .ref (ad 0 0)), (1, .int x), (2, .int y), (3, .ref o)] := hl
  refine lv_aload_n hx hb dL_drawn_0 rfl (lv_at hl 3 rfl) ?_
  refine lv_iconst (v := 0) hx hb dL_drawn_1 (by decide) ?_
  refine lv_aload_n hx hb dL_drawn_2 rfl (lv_at hl 0 rfl) ?_
  refine lv_iload_n hx hb dL_drawn_3 rfl (lv_at hl 1 rfl) ?_
  refine lv_iload_n hx hb dL_drawn_4 rfl (lv_at hl 2 rfl) ?_
  refine gs_callx (vx_runV (As := [.int x, .int y]) (rest := [.int 0, .ref o]) ⟨hx, hb, hml, hown, hts⟩ (x_drawn l hlt G cy sK sV ad H.size st hB x y Xx Xy kx ky ) ⟨(gz_cb (n := 2) (rm := ({ frames := 6, cells := 1, slots := 6, locals := 100 } : Room)) hts gm_743 gm_1 gm_746 ⟨by decide +kernel, by decide +kernel, by decide +kernel⟩ ⟨Nat.le_of_ble_eq_true rfl, Nat.le_of_ble_eq_true rfl⟩), hts _ gm_744, hts _ gm_745⟩ (gs_preV hK hov hE hI hM hm hS hA 0 0 (by decide) rfl rfl) rfl rfl hl.1 rfl (lv_room (Nat.le_of_ble_eq_true rfl)) dL_drawn_5 ⟨Nat.le_of_ble_eq_true rfl, Nat.le_of_ble_eq_true rfl⟩) hm hO hne hS hA (fun ce q9 st1 H locs hpx hM hO hS hce hcv hcl => ?_) (fun r st1 H locs hw hM hO hS => ?_)
  · refine vx_catch (own := RL) (name := "java/util/NoSuchElementException") hown [] ⟨0, 10, 13, 13⟩ [] (by rw [htab]; rfl) (fun z hz => by cases hz) rfl (by decide) (hts _ gm_742) (va_Nw.use rfl (hE.1.2.2.2.2.2 _ gb_749)) hce hcv hcl ?_
    obtain ⟨e1, hpx⟩ := hpx
    refine lv_astore (lv' := [(4, .ref q9), (0, .ref (ad 0 0)), (1, .int x), (2, .int y), (3, .ref o)]) hx hb dL_drawn_13 hl (by decide) rfl (fun ls hl => ?_)
    refine lv_iconst (v := 1) hx hb dL_drawn_15 (by decide) ?_
    exact gs_oret hx hb hr hlocks hM hO hS ⟨(by rw [e1]; exact gBN.rf hB), Or.inl ⟨rfl, e1, hpx⟩⟩ (by exact Nat.le_of_ble_eq_true rfl) (by exact Nat.le_of_ble_eq_true rfl) dL_drawn_16
  · obtain ⟨hB1, hw⟩ := hw
    refine lv_i2l hx hb dL_drawn_8 rfl ?_
    refine gs_last hx hb hK hM hO hne hAo hS dL_drawn_9 (fun H locs hM hO hS => ?_)
    refine lv_goto (tgt := 17) hx hb dL_drawn_10 (by decide) ?_
    refine lv_iconst (v := 0) hx hb dL_drawn_17 (by decide) ?_
    exact gs_oret hx hb hr hlocks hM hO hS ⟨hB1, Or.inr ⟨rfl, hw.1, (by rw [hw.2])⟩⟩ (by exact Nat.le_of_ble_eq_true rfl) (by exact Nat.le_of_ble_eq_true rfl) dL_drawn_18

set_option maxHeartbeats 4000000 in
set_option maxRecDepth 100000 in
theorem h_plan (l : Launch) (hlt : l.stackTraces = false) (G : va_G) (cy : Nat → ClassId) (sK sV : Nat → Nat) (ad : Nat → Nat → Nat) (o sz : Nat) (st : gS) (f : Nat → Int64) (hB : gBd bX st) (x y : Int32) (Xx Xy : Int) (kx : x.toInt = Xx) (ky : y.toInt = Xy) (rs : List Rl) (hLa : LXa rs st (st 0 0 7).toNatClampNeg) (hwf : ∀ r ∈ rs, wfR r) : Met l yL_plan (Cond.codeWith yL_plan cL_plan 5 (some .int) [(0, 10, 13, 18)] :: gz_T) ({ frames := 7, cells := 1, slots := 6, locals := 163 } : Room) (va_Pc [.ref (ad 0 0), .int x, .int y, .ref o] (gsPo G cy sK sV (shX cy ad) cnX ad o sz st f)) (gsQo G cy (shX cy ad) cnX ad o (fun (r : Int32) (u : gS) (g : Nat → Int64) => gBN bX kX [1300, 1400, 1500, 3803, 3804, 3810, 3811, 3813, 3814, 4100, 4300, 4500, 4600, 4700] st u ∧ ((r = 1 ∧ u = st ∧ ¬ (1 ≤ Xy ∧ Xy ≤ 50000)) ∨ (r = 0 ∧ (1 ≤ Xy ∧ Xy ≤ 50000) ∧ (tdX st u)))) (gAo cnX ad o sz)) 1 6 (gAo cnX ad o sz) := by
  refine gs_startO (hh := [(0, 10, 13, 18)]) (rm := ({ frames := 7, cells := 1, slots := 6, locals := 163 } : Room)) (fun A => gsQo G cy (shX cy ad) cnX ad o _ A) (by decide) (Nat.le_of_ble_eq_true rfl) ?_
  intro p e s m below meth c A ls H htab hx hb hr hml hlocks hown hts hK hov hE hI hM hO hne hm hAo hS hA hl
  have hl : lv_has ls 5 [(0, .ref (ad 0 0)), (1, .int x), (2, .int y), (3, .ref o)] := hl
  refine lv_aload_n hx hb dL_plan_0 rfl (lv_at hl 3 rfl) ?_
  refine lv_iconst (v := 0) hx hb dL_plan_1 (by decide) ?_
  refine lv_aload_n hx hb dL_plan_2 rfl (lv_at hl 0 rfl) ?_
  refine lv_iload_n hx hb dL_plan_3 rfl (lv_at hl 1 rfl) ?_
  refine lv_iload_n hx hb dL_plan_4 rfl (lv_at hl 2 rfl) ?_
  refine gs_callx (vx_runV (As := [.int x, .int y]) (rest := [.int 0, .ref o]) ⟨hx, hb, hml, hown, hts⟩ (x_plan l hlt G cy sK sV ad H.size st hB x y Xx Xy kx ky rs hLa hwf) ⟨(gz_cb (n := 2) (rm := ({ frames := 6, cells := 1, slots := 6, locals := 141 } : Room)) hts gm_818 gm_1 gm_821 ⟨by decide +kernel, by decide +kernel, by decide +kernel⟩ ⟨Nat.le_of_ble_eq_true rfl, Nat.le_of_ble_eq_true rfl⟩), hts _ gm_819, hts _ gm_820⟩ (gs_preV hK hov hE hI hM hm hS hA 0 0 (by decide) rfl rfl) rfl rfl hl.1 rfl (lv_room (Nat.le_of_ble_eq_true rfl)) dL_plan_5 ⟨Nat.le_of_ble_eq_true rfl, Nat.le_of_ble_eq_true rfl⟩) hm hO hne hS hA (fun ce q9 st1 H locs hpx hM hO hS hce hcv hcl => ?_) (fun r st1 H locs hw hM hO hS => ?_)
  · refine vx_catch (own := RL) (name := "java/lang/IllegalArgumentException") hown [] ⟨0, 10, 13, 18⟩ [] (by rw [htab]; rfl) (fun z hz => by cases hz) rfl (by decide) (hts _ gm_817) (va_Nw.use rfl (hE.1.2.2.2.2.2 _ gb_825)) hce hcv hcl ?_
    obtain ⟨e1, hpx⟩ := hpx
    refine lv_astore (lv' := [(4, .ref q9), (0, .ref (ad 0 0)), (1, .int x), (2, .int y), (3, .ref o)]) hx hb dL_plan_13 hl (by decide) rfl (fun ls hl => ?_)
    refine lv_iconst (v := 1) hx hb dL_plan_15 (by decide) ?_
    exact gs_oret hx hb hr hlocks hM hO hS ⟨(by rw [e1]; exact gBN.rf hB), Or.inl ⟨rfl, e1, hpx⟩⟩ (by exact Nat.le_of_ble_eq_true rfl) (by exact Nat.le_of_ble_eq_true rfl) dL_plan_16
  · obtain ⟨hB1, hw⟩ := hw
    refine lv_i2l hx hb dL_plan_8 rfl ?_
    refine gs_last hx hb hK hM hO hne hAo hS dL_plan_9 (fun H locs hM hO hS => ?_)
    refine lv_goto (tgt := 17) hx hb dL_plan_10 (by decide) ?_
    refine lv_iconst (v := 0) hx hb dL_plan_17 (by decide) ?_
    exact gs_oret hx hb hr hlocks hM hO hS ⟨hB1, Or.inr ⟨rfl, hw.1, hw.2⟩⟩ (by exact Nat.le_of_ble_eq_true rfl) (by exact Nat.le_of_ble_eq_true rfl) dL_plan_18
