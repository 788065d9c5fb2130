theorem gm_543 : (Jvm.Cond.methodLink "WellCourt" (134 : Nat) ({ cls := "WellCourt", name := "settleToday", desc := "()V" } : Jvm.MethodName)) ∈ gz_T := gz_at 543 (by decide +kernel) rfl
theorem gm_545 : (Jvm.Cond.instanceMethod ({ cls := "WellCourt", name := "settleToday", desc := "()V" } : Jvm.MethodName)) ∈ gz_T := gz_at 545 (by decide +kernel) rfl
theorem gm_546 : (Jvm.Cond.code ({ cls := "WellCourt", name := "settleToday", desc := "()V" } : Jvm.MethodName) prog_1_method_24_code (1 : Nat) (Option.none : Option Jvm.ClassFile.FieldType)) ∈ gz_T := gz_at 546 (by decide +kernel) rfl
theorem gm_547 : (Jvm.Cond.methodLink "WellCourt" (250 : Nat) ({ cls := "WellCourt$Day", name := "settle", desc := "(LWellCourt$Law;LWellCourt$Calendar;I)V" } : Jvm.MethodName)) ∈ gz_T := gz_at 547 (by decide +kernel) rfl
theorem gm_548 : (Jvm.Cond.instanceMethod ({ cls := "WellCourt$Day", name := "settle", desc := "(LWellCourt$Law;LWellCourt$Calendar;I)V" } : Jvm.MethodName)) ∈ gz_T := gz_at 548 (by decide +kernel) rfl
theorem gm_549 : (Jvm.Cond.selects "WellCourt$Day" ({ cls := "WellCourt$Day", name := "settle", desc := "(LWellCourt$Law;LWellCourt$Calendar;I)V" } : Jvm.MethodName) ({ cls := "WellCourt$Day", name := "settle", desc := "(LWellCourt$Law;LWellCourt$Calendar;I)V" } : Jvm.MethodName)) ∈ gz_T := gz_at 549 (by decide +kernel) rfl
theorem gm_550 : (Jvm.Cond.code ({ cls := "WellCourt$Day", name := "settle", desc := "(LWellCourt$Law;LWellCourt$Calendar;I)V" } : Jvm.MethodName) prog_3_method_4_code (6 : Nat) (Option.none : Option Jvm.ClassFile.FieldType)) ∈ gz_T := gz_at 550 (by decide +kernel) rfl
theorem gm_563 : (Jvm.Cond.methodLink "WellCourt" (254 : Nat) ({ cls := "WellCourt$Calendar", name := "keep", desc := "(LWellCourt$Day;I)V" } : Jvm.MethodName)) ∈ gz_T := gz_at 563 (by decide +kernel) rfl
theorem gm_564 : (Jvm.Cond.instanceMethod ({ cls := "WellCourt$Calendar", name := "keep", desc := "(LWellCourt$Day;I)V" } : Jvm.MethodName)) ∈ gz_T := gz_at 564 (by decide +kernel) rfl
theorem gm_565 : (Jvm.Cond.selects "WellCourt$Calendar" ({ cls := "WellCourt$Calendar", name := "keep", desc := "(LWellCourt$Day;I)V" } : Jvm.MethodName) ({ cls := "WellCourt$Calendar", name := "keep", desc := "(LWellCourt$Day;I)V" } : Jvm.MethodName)) ∈ gz_T := gz_at 565 (by decide +kernel) rfl
theorem gm_566 : (Jvm.Cond.code ({ cls := "WellCourt$Calendar", name := "keep", desc := "(LWellCourt$Day;I)V" } : Jvm.MethodName) prog_2_method_4_code (4 : Nat) (Option.none : Option Jvm.ClassFile.FieldType)) ∈ gz_T := gz_at 566 (by decide +kernel) rfl
theorem gm_575 : (Jvm.Cond.methodLink "WellCourt" (140 : Nat) ({ cls := "WellCourt$Day", name := "grow", desc := "(LWellCourt$Day;LWellCourt$Land;)V" } : Jvm.MethodName)) ∈ gz_T := gz_at 575 (by decide +kernel) rfl
theorem gm_576 : (Jvm.Cond.instanceMethod ({ cls := "WellCourt$Day", name := "grow", desc := "(LWellCourt$Day;LWellCourt$Land;)V" } : Jvm.MethodName)) ∈ gz_T := gz_at 576 (by decide +kernel) rfl
theorem gm_577 : (Jvm.Cond.selects "WellCourt$Day" ({ cls := "WellCourt$Day", name := "grow", desc := "(LWellCourt$Day;LWellCourt$Land;)V" } : Jvm.MethodName) ({ cls := "WellCourt$Day", name := "grow", desc := "(LWellCourt$Day;LWellCourt$Land;)V" } : Jvm.MethodName)) ∈ gz_T := gz_at 577 (by decide +kernel) rfl
theorem gm_578 : (Jvm.Cond.code ({ cls := "WellCourt$Day", name := "grow", desc := "(LWellCourt$Day;LWellCourt$Land;)V" } : Jvm.MethodName) prog_3_method_3_code (4 : Nat) (Option.none : Option Jvm.ClassFile.FieldType)) ∈ gz_T := gz_at 578 (by decide +kernel) rfl
theorem gs_16 : (Jvm.Cond.selects "WellCourt" ({ cls := "WellCourt", name := "settleToday", desc := "()V" } : Jvm.MethodName) ({ cls := "WellCourt", name := "settleToday", desc := "()V" } : Jvm.MethodName)) ∈ gz_T := gz_sel 16 (by decide +kernel) rfl
theorem dX9_next_0 : decode cX9_next 0 = .ok (.aload_n 0, 1) := by decide +kernel
theorem dX9_next_1 : decode cX9_next 1 = .ok (.getfield 79, 3) := by decide +kernel
theorem dX9_next_4 : decode cX9_next 4 = .ok (.sipush 199, 3) := by decide +kernel
theorem dX9_next_7 : decode cX9_next 7 = .ok (.if_icmp .lt 5, 3) := by decide +kernel
theorem dX9_next_10 : decode cX9_next 10 = .ok (.iconst 0, 1) := by decide +kernel
theorem dX9_next_11 : decode cX9_next 11 = .ok (.ireturn, 1) := by decide +kernel
theorem dX9_next_12 : decode cX9_next 12 = .ok (.aload_n 0, 1) := by decide +kernel
theorem dX9_next_13 : decode cX9_next 13 = .ok (.dup, 1) := by decide +kernel
theorem dX9_next_14 : decode cX9_next 14 = .ok (.getfield 79, 3) := by decide +kernel
theorem dX9_next_17 : decode cX9_next 17 = .ok (.iconst 1, 1) := by decide +kernel
theorem dX9_next_18 : decode cX9_next 18 = .ok (.iadd, 1) := by decide +kernel
theorem dX9_next_19 : decode cX9_next 19 = .ok (.putfield 79, 3) := by decide +kernel
theorem dX9_next_22 : decode cX9_next 22 = .ok (.aload_n 0, 1) := by decide +kernel
theorem dX9_next_23 : decode cX9_next 23 = .ok (.getfield 42, 3) := by decide +kernel
theorem dX9_next_26 : decode cX9_next 26 = .ok (.aload_n 0, 1) := by decide +kernel
theorem dX9_next_27 : decode cX9_next 27 = .ok (.getfield 42, 3) := by decide +kernel
theorem dX9_next_30 : decode cX9_next 30 = .ok (.aload_n 0, 1) := by decide +kernel
theorem dX9_next_31 : decode cX9_next 31 = .ok (.getfield 28, 3) := by decide +kernel
theorem dX9_next_34 : decode cX9_next 34 = .ok (.invokevirtual 140, 3) := by decide +kernel
theorem dX9_next_37 : decode cX9_next 37 = .ok (.aload_n 0, 1) := by decide +kernel
theorem dX9_next_38 : decode cX9_next 38 = .ok (.invokevirtual 134, 3) := by decide +kernel
theorem dX9_next_41 : decode cX9_next 41 = .ok (.iconst 1, 1) := by decide +kernel
theorem dX9_next_42 : decode cX9_next 42 = .ok (.ireturn, 1) := by decide +kernel
theorem dX9_settleToday_0 : decode cX9_settleToday 0 = .ok (.aload_n 0, 1) := by decide +kernel
theorem dX9_settleToday_1 : decode cX9_settleToday 1 = .ok (.getfield 42, 3) := by decide +kernel
theorem dX9_settleToday_4 : decode cX9_settleToday 4 = .ok (.aload_n 0, 1) := by decide +kernel
theorem dX9_settleToday_5 : decode cX9_settleToday 5 = .ok (.getfield 63, 3) := by decide +kernel
theorem dX9_settleToday_8 : decode cX9_settleToday 8 = .ok (.aload_n 0, 1) := by decide +kernel
theorem dX9_settleToday_9 : decode cX9_settleToday 9 = .ok (.getfield 35, 3) := by decide +kernel
theorem dX9_settleToday_12 : decode cX9_settleToday 12 = .ok (.aload_n 0, 1) := by decide +kernel
theorem dX9_settleToday_13 : decode cX9_settleToday 13 = .ok (.getfield 79, 3) := by decide +kernel
theorem dX9_settleToday_16 : decode cX9_settleToday 16 = .ok (.invokevirtual 250, 3) := by decide +kernel
theorem dX9_settleToday_19 : decode cX9_settleToday 19 = .ok (.aload_n 0, 1) := by decide +kernel
theorem dX9_settleToday_20 : decode cX9_settleToday 20 = .ok (.getfield 35, 3) := by decide +kernel
theorem dX9_settleToday_23 : decode cX9_settleToday 23 = .ok (.aload_n 0, 1) := by decide +kernel
theorem dX9_settleToday_24 : decode cX9_settleToday 24 = .ok (.getfield 42, 3) := by decide +kernel
theorem dX9_settleToday_27 : decode cX9_settleToday 27 = .ok (.aload_n 0, 1) := by decide +kernel
theorem dX9_settleToday_28 : decode cX9_settleToday 28 = .ok (.getfield 79, 3) := by decide +kernel
theorem dX9_settleToday_31 : decode cX9_settleToday 31 = .ok (.invokevirtual 254, 3) := by decide +kernel
theorem dX9_settleToday_34 : decode cX9_settleToday 34 = .ok (.return_, 1) := by decide +kernel
set_option maxHeartbeats 4000000 in
set_option maxRecDepth 100000 in
/-- WellCourt.settleToday -/
theorem s_settleToday (l : Launch) (G : va_G) (cy : Nat → ClassId) (sK sV : Nat → Nat) (ad : Nat → Nat → Nat) (sz : Nat) (st : gS) (hB : gBd bX st) (rs : List Rl) (hLa : LXa rs st (st 0 0 7).toNatClampNeg) (hwf : ∀ r ∈ rs, wfR r) : gsMv l yX9_settleToday cX9_settleToday 1 ({ frames := 3, cells := 0, slots := 0, locals := 67 } : Room) G cy sK sV (shX cy ad) cnX ad sz [.ref (ad 0 0)] st (fun (u : gS) => gBN bX kX [1100, 1500] st u ∧ ((stC rs (st 14 15) (fun w9 d9 => (st 11 w9 d9).toInt) u (st 0 0 10).toInt))) := by
  refine gs_start (fun A => gsQv G (shX cy ad) cnX ad _ A) (by decide) (Nat.le_of_ble_eq_true rfl) ?_
  intro p e s m below meth c A ls H hx hb hr hml hlocks hown hts hK hov hE hI hM hm hS hA hl
  have hl : lv_has ls 1 [(0, .ref (ad 0 0))] := hl
  have hB_st : gBN bX kX [1100, 1500] st st := gBN.rf hB
  have b10 : (0 : Int) ≤ (st 0 0 10).toInt ∧ (st 0 0 10).toInt ≤ (199 : Int) := hB 0 0 10
  refine lv_aload_n hx hb dX9_settleToday_0 rfl (lv_at hl 0 rfl) ?_
  refine gs_get (C := RX9) (T := TX9) (N := 12) hx hb hts inX9 hown hK hM 0 0 4 (by decide) rfl rfl (by decide) (hts _ gm_295) (fun _ h9 => h9) rfl dX9_settleToday_1 ?_
  refine lv_aload_n hx hb dX9_settleToday_4 rfl (lv_at hl 0 rfl) ?_
  refine gs_get (C := RX9) (T := TX9) (N := 12) hx hb hts inX9 hown hK hM 0 0 7 (by decide) rfl rfl (by decide) (hts _ gm_298) (fun _ h9 => h9) rfl dX9_settleToday_5 ?_
  have h_1 : (0 : Int) ≤ (st 0 0 7).toInt ∧ (st 0 0 7).toInt ≤ (1 : Int) := hB_st.1 0 0 7
  refine lv_aload_n hx hb dX9_settleToday_8 rfl (lv_at hl 0 rfl) ?_
  refine gs_get (C := RX9) (T := TX9) (N := 12) hx hb hts inX9 hown hK hM 0 0 3 (by decide) rfl rfl (by decide) (hts _ gm_294) (fun _ h9 => h9) rfl dX9_settleToday_9 ?_
  refine lv_aload_n hx hb dX9_settleToday_12 rfl (lv_at hl 0 rfl) ?_
  refine gs_get (C := RX9) (T := TX9) (N := 12) hx hb hts inX9 hown hK hM 0 0 10 (by decide) rfl rfl (by decide) (hts _ gm_301) (fun _ h9 => h9) rfl dX9_settleToday_13 ?_
  have bf_2 : (0 : Int) ≤ (st 0 0 10).toInt ∧ (st 0 0 10).toInt ≤ (199 : Int) := hB_st.1 0 0 10
  refine gs_callv (va_runV (As := [.ref (ad 25 ((st 0 0 7).toNatClampNeg)), .ref (ad 9 0), .int (st 0 0 10)]) (rest := []) ⟨hx, hb, hml, hown, hts⟩ (s_X1_settle l G cy sK sV ad H.size st hB_st.1 15 (st 0 0 7) (st 0 0 10) ((st 0 0 10).toInt) rfl (by decide) h_1 (by first | decide | omega) (by first | decide | omega) rs hLa.2.2.2.1) ⟨(gz_cb (n := 3) hts gm_547 gm_7 gm_550 ⟨by decide +kernel, by decide +kernel, by decide +kernel⟩ ⟨Nat.le_of_ble_eq_true rfl, Nat.le_of_ble_eq_true rfl⟩), hts _ gm_548, hts _ gm_549⟩ (gs_preV hK hov hE hI hM hm hS hA 12 15 (by decide) rfl rfl) rfl rfl hl.1 rfl (lv_room (Nat.le_of_ble_eq_true rfl)) dX9_settleToday_16 ⟨Nat.le_of_ble_eq_true rfl, Nat.le_of_ble_eq_true rfl⟩) hm hS hA (fun st_3 H locs hw_3 hM hS => ?_)
  obtain ⟨n_3, hw_3⟩ := hw_3
  have hB_st_3 : gBN bX kX [1100, 1500] st st_3 := hB_st.call n_3 (by decide)
  have hbhw_30 : (0 : Int) ≤ (st 0 0 10).toInt ∧ (st 0 0 10).toInt ≤ (199 : Int) := hB_st.1 0 0 10
  obtain ⟨hw_3_0, hw_3_1⟩ := hw_3
  refine lv_aload_n hx hb dX9_settleToday_19 rfl (lv_at hl 0 rfl) ?_
  refine gs_get (C := RX9) (T := TX9) (N := 12) hx hb hts inX9 hown hK hM 0 0 3 (by decide) rfl rfl (by decide) (hts _ gm_294) (fun _ h9 => h9) rfl dX9_settleToday_20 ?_
  refine lv_aload_n hx hb dX9_settleToday_23 rfl (lv_at hl 0 rfl) ?_
  refine gs_get (C := RX9) (T := TX9) (N := 12) hx hb hts inX9 hown hK hM 0 0 4 (by decide) rfl rfl (by decide) (hts _ gm_295) (fun _ h9 => h9) rfl dX9_settleToday_24 ?_
  refine lv_aload_n hx hb dX9_settleToday_27 rfl (lv_at hl 0 rfl) ?_
  refine gs_get (C := RX9) (T := TX9) (N := 12) hx hb hts inX9 hown hK hM 0 0 10 (by decide) rfl rfl (by decide) (hts _ gm_301) (fun _ h9 => h9) rfl dX9_settleToday_28 ?_
  refine lv_topi (fun x_4 ex_4 => ?_)
  have ex_4 : (st 0 0 10) = x_4 := Eq.symm (ex_4.trans (n_3.2 0 0 10 (show (10 : Nat) ∉ _ from by decide)))
  subst ex_4
  have bf_5 : (0 : Int) ≤ (st 0 0 10).toInt ∧ (st 0 0 10).toInt ≤ (199 : Int) := hB_st.1 0 0 10
  refine gs_callv (va_runV (As := [.ref (ad 12 15), .int (st 0 0 10)]) (rest := []) ⟨hx, hb, hml, hown, hts⟩ (s_X0_keep l G cy sK sV ad H.size st_3 hB_st_3.1 15 (st 0 0 10) ((st 0 0 10).toInt) rfl (by decide) (by first | decide | omega) (by first | decide | omega)) ⟨(gz_cb (n := 2) hts gm_563 gm_5 gm_566 ⟨by decide +kernel, by decide +kernel, by decide +kernel⟩ ⟨Nat.le_of_ble_eq_true rfl, Nat.le_of_ble_eq_true rfl⟩), hts _ gm_564, hts _ gm_565⟩ (gs_preV hK hov hE hI hM hm hS hA 9 0 (by decide) rfl rfl) rfl rfl hl.1 rfl (lv_room (Nat.le_of_ble_eq_true rfl)) dX9_settleToday_31 ⟨Nat.le_of_ble_eq_true rfl, Nat.le_of_ble_eq_true rfl⟩) hm hS hA (fun st_6 H locs hw_6 hM hS => ?_)
  obtain ⟨n_6, hw_6⟩ := hw_6
  have hB_st_6 : gBN bX kX [1100, 1500] st st_6 := hB_st_3.call n_6 (by decide)
  have hw_6_0 := hw_6
  exact gs_vret hx hb hr hlocks hM hS ⟨hB_st_6, (stC.mk hw_3_0 hw_6_0 ((funext fun i9 => funext fun j9 => n_3.2 11 i9 j9 (show (1100 : Nat) ∉ _ from by decide)).trans rfl) (funext fun j9 => n_6.2 15 15 j9 (show (1500 : Nat) ∉ _ from by decide)))⟩ (by exact Nat.le_refl _) (by exact Nat.le_refl _) dX9_settleToday_34

set_option maxHeartbeats 4000000 in
set_option maxRecDepth 100000 in
/-- WellCourt.next -/
theorem s_next (l : Launch) (G : va_G) (cy : Nat → ClassId) (sK sV : Nat → Nat) (ad : Nat → Nat → Nat) (sz : Nat) (st : gS) (hB : gBd bX st) (rs : List Rl) (hLa : LXa rs st (st 0 0 7).toNatClampNeg) (hwf : ∀ r ∈ rs, wfR r) : gsMi l yX9_next cX9_next 1 (some .boolean) ({ frames := 4, cells := 0, slots := 0, locals := 87 } : Room) G cy sK sV (shX cy ad) cnX ad sz [.ref (ad 0 0)] st (fun (r : Int32) (u : gS) => gBN bX kX [10, 1100, 1300, 1400, 1500] st u ∧ ((r = 1 ∧ ((st 0 0 10).toInt < 199) ∧ ((u 0 0 10).toInt = (st 0 0 10).toInt + 1) ∧ (gwI (fun a9 => 0 < (st 5 0 a9).toInt) (st 13 15) (st 6 0) (st 5 0) (st 13 15) (u 13 15) 6) ∧ (gwI (fun a9 => 0 < (st 5 0 a9).toInt) (st 13 15) (st 6 0) (st 5 0) (st 14 15) (u 14 15) 6) ∧ (stC rs (u 14 15) (fun w9 d9 => (st 11 w9 d9).toInt) u (u 0 0 10).toInt)) ∨ (r = 0 ∧ (199 ≤ (st 0 0 10).toInt) ∧ (u = st)))) := by
  refine gs_start (fun A => gsQi G (shX cy ad) cnX ad _ A) (by decide) (Nat.le_of_ble_eq_true rfl) ?_
  intro p e s m below meth c A ls H hx hb hr hml hlocks hown hts hK hov hE hI hM hm hS hA hl
  have hl : lv_has ls 1 [(0, .ref (ad 0 0))] := hl
  have hB_st : gBN bX kX [10, 1100, 1300, 1400, 1500] st st := gBN.rf hB
  have b10 : (0 : Int) ≤ (st 0 0 10).toInt ∧ (st 0 0 10).toInt ≤ (199 : Int) := hB 0 0 10
  refine lv_aload_n hx hb dX9_next_0 rfl (lv_at hl 0 rfl) ?_
  refine gs_get (C := RX9) (T := TX9) (N := 12) hx hb hts inX9 hown hK hM 0 0 10 (by decide) rfl rfl (by decide) (hts _ gm_301) (fun _ h9 => h9) rfl dX9_next_1 ?_
  have bf_1 : (0 : Int) ≤ (st 0 0 10).toInt ∧ (st 0 0 10).toInt ≤ (199 : Int) := hB_st.1 0 0 10
  refine lv_sipush (v := 199) hx hb dX9_next_4 (by decide) ?_
  refine lv_icmp_lt (tgt := 12) hx hb dX9_next_7 (by decide) (fun c_2 => ?_) (fun c_2 => ?_)
  · have ic_2 := gz_lt (rfl : (st 0 0 10).toInt = (st 0 0 10).toInt) (by decide : (199 : Int32).toInt = 199) c_2
    refine lv_aload_n hx hb dX9_next_12 rfl (lv_at hl 0 rfl) ?_
    refine lv_dup hx hb dX9_next_13 rfl ?_
    refine gs_get (C := RX9) (T := TX9) (N := 12) hx hb hts inX9 hown hK hM 0 0 10 (by decide) rfl rfl (by decide) (hts _ gm_301) (fun _ h9 => h9) rfl dX9_next_14 ?_
    have bf_3 : (0 : Int) ≤ (st 0 0 10).toInt ∧ (st 0 0 10).toInt ≤ (199 : Int) := hB_st.1 0 0 10
    refine lv_iconst (v := 1) hx hb dX9_next_17 (by decide) ?_
    refine lv_iadd hx hb dX9_next_18 ?_
    refine lv_topi (fun x_4 ex_4 => ?_)
    try have tx_4 : x_4.toInt = (st 0 0 10).toInt + 1 := by rw [ex_4]; exact gz_addP (x := (st 0 0 10).toInt) (y := 1) rfl (by decide) (by omega) (by omega)
    refine gs_put (C := RX9) (T := TX9) (N := 12) (ty := .int) (val := .int x_4) hx hb hts inX9 tyX9 tyX9_ok nmX9 hown hK hI hm hM hS 0 0 10 (by decide) rfl rfl (by decide) (hts _ gm_301) (fun _ h9 => h9) rfl (x_4 : Int32) rfl (by decide +kernel) rfl rfl (Nat.le_of_ble_eq_true rfl) dX9_next_19 (fun st_5 H locs est_5 hM hS => ?_)
    have hB_st_5 : gBN bX kX [10, 1100, 1300, 1400, 1500] st st_5 := by rw [est_5]; exact hB_st.up (show (10 : Nat) ∈ _ from by decide) (show (0 : Int) ≤ x_4.toInt from by omega) (show x_4.toInt ≤ (199 : Int) from by omega)
    refine lv_aload_n hx hb dX9_next_22 rfl (lv_at hl 0 rfl) ?_
    refine gs_get (C := RX9) (T := TX9) (N := 12) hx hb hts inX9 hown hK hM 0 0 4 (by decide) rfl rfl (by decide) (hts _ gm_295) (fun _ h9 => h9) rfl dX9_next_23 ?_
    refine lv_aload_n hx hb dX9_next_26 rfl (lv_at hl 0 rfl) ?_
    refine gs_get (C := RX9) (T := TX9) (N := 12) hx hb hts inX9 hown hK hM 0 0 4 (by decide) rfl rfl (by decide) (hts _ gm_295) (fun _ h9 => h9) rfl dX9_next_27 ?_
    refine lv_aload_n hx hb dX9_next_30 rfl (lv_at hl 0 rfl) ?_
    refine gs_get (C := RX9) (T := TX9) (N := 12) hx hb hts inX9 hown hK hM 0 0 2 (by decide) rfl rfl (by decide) (hts _ gm_293) (fun _ h9 => h9) rfl dX9_next_31 ?_
    refine gs_callv (va_runV (As := [.ref (ad 12 15), .ref (ad 4 0)]) (rest := []) ⟨hx, hb, hml, hown, hts⟩ (s_X1_grow l G cy sK sV ad H.size st_5 hB_st_5.1 15 15 (by decide) (by decide) ) ⟨(gz_cb (n := 2) hts gm_575 gm_7 gm_578 ⟨by decide +kernel, by decide +kernel, by decide +kernel⟩ ⟨Nat.le_of_ble_eq_true rfl, Nat.le_of_ble_eq_true rfl⟩), hts _ gm_576, hts _ gm_577⟩ (gs_preV hK hov hE hI hM hm hS hA 12 15 (by decide) rfl rfl) rfl rfl hl.1 rfl (lv_room (Nat.le_of_ble_eq_true rfl)) dX9_next_34 ⟨Nat.le_of_ble_eq_true rfl, Nat.le_of_ble_eq_true rfl⟩) hm hS hA (fun st_6 H locs hw_6 hM hS => ?_)
    obtain ⟨n_6, hw_6⟩ := hw_6
    have hB_st_6 : gBN bX kX [10, 1100, 1300, 1400, 1500] st st_6 := hB_st_5.call n_6 (by decide)
    obtain ⟨hw_6_0, hw_6_1, hw_6_2⟩ := hw_6
    refine lv_aload_n hx hb dX9_next_37 rfl (lv_at hl 0 rfl) ?_
    refine gs_callv (va_runV (As := []) (rest := []) ⟨hx, hb, hml, hown, hts⟩ (s_settleToday l G cy sK sV ad H.size st_6 hB_st_6.1  rs (show LXa rs st_6 (st_6 0 0 7).toNatClampNeg from (by rw [show st_6 0 0 7 = st 0 0 7 from ((n_6.2 0 0 7 (show (7 : Nat) ∉ _ from by decide)).trans ((congrFun (congrFun (congrFun est_5 0) 0) 7).trans (gU_other (by decide))))]; exact (LXa.keep (LXa.upk hLa est_5 (by decide)) n_6.2 (by decide)))) hwf) ⟨(gz_cb (n := 0) hts gm_543 gm_1 gm_546 ⟨by decide +kernel, by decide +kernel, by decide +kernel⟩ ⟨Nat.le_of_ble_eq_true rfl, Nat.le_of_ble_eq_true rfl⟩), hts _ gm_545, hts _ gs_16⟩ (gs_preV hK hov hE hI hM hm hS hA 0 0 (by decide) rfl rfl) rfl rfl hl.1 rfl (lv_room (Nat.le_of_ble_eq_true rfl)) dX9_next_38 ⟨Nat.le_of_ble_eq_true rfl, Nat.le_of_ble_eq_true rfl⟩) hm hS hA (fun st_7 H locs hw_7 hM hS => ?_)
    obtain ⟨n_7, hw_7⟩ := hw_7
    have hB_st_7 : gBN bX kX [10, 1100, 1300, 1400, 1500] st st_7 := hB_st_6.call n_7 (by decide)
    have hqhw_70 : (st_6 0 0 10).toInt = (x_4 : Int32).toInt := congrArg Int32.toInt (((n_6.2 0 0 10 (show (10 : Nat) ∉ _ from by decide)).trans ((congrFun (congrFun (congrFun est_5 0) 0) 10).trans (gU_same _ _ _ _ _))))
    have hbhw_71 : (0 : Int) ≤ (st_6 0 0 10).toInt ∧ (st_6 0 0 10).toInt ≤ (199 : Int) := hB_st_6.1 0 0 10
    have hw_7_0 := hw_7
    refine lv_iconst (v := 1) hx hb dX9_next_41 (by decide) ?_
    exact gs_iret hx hb hr hlocks hM hS (by decide) ⟨hB_st_7, (Or.inl ⟨rfl, by omega, (by have hl0 : (1 : Int32).toInt = 1 := (by decide); have hq1 : (st_7 0 0 10).toInt = (x_4 : Int32).toInt := congrArg Int32.toInt (((n_7.2 0 0 10 (show (10 : Nat) ∉ _ from by decide)).trans ((n_6.2 0 0 10 (show (10 : Nat) ∉ _ from by decide)).trans ((congrFun (congrFun (congrFun est_5 0) 0) 10).trans (gU_same _ _ _ _ _))))); have hb2 : (0 : Int) ≤ (st_7 0 0 10).toInt ∧ (st_7 0 0 10).toInt ≤ (199 : Int) := hB_st_7.1 0 0 10; have hb3 : (0 : Int) ≤ (st 0 0 10).toInt ∧ (st 0 0 10).toInt ≤ (199 : Int) := hB_st.1 0 0 10; omega), (by have h9 := hw_6_0; rw [show st_5 5 0 = st 5 0 from ((congrFun (congrFun est_5 5) 0).trans ((congrFun (gU_k (by decide)) 0).trans rfl)), show st_5 6 0 = st 6 0 from ((congrFun (congrFun est_5 6) 0).trans ((congrFun (gU_k (by decide)) 0).trans rfl)), show st_5 13 15 = st 13 15 from ((congrFun (congrFun est_5 13) 15).trans ((congrFun (gU_k (by decide)) 15).trans rfl))] at h9; rw [show st_7 13 15 = st_6 13 15 from (funext fun j9 => n_7.2 13 15 j9 (show (1300 : Nat) ∉ _ from by decide))]; exact h9), (by have h9 := hw_6_1; rw [show st_5 5 0 = st 5 0 from ((congrFun (congrFun est_5 5) 0).trans ((congrFun (gU_k (by decide)) 0).trans rfl)), show st_5 6 0 = st 6 0 from ((congrFun (congrFun est_5 6) 0).trans ((congrFun (gU_k (by decide)) 0).trans rfl)), show st_5 13 15 = st 13 15 from ((congrFun (congrFun est_5 13) 15).trans ((congrFun (gU_k (by decide)) 15).trans rfl)), show st_5 14 15 = st 14 15 from ((congrFun (congrFun est_5 14) 15).trans ((congrFun (gU_k (by decide)) 15).trans rfl))] at h9; rw [show st_7 14 15 = st_6 14 15 from (funext fun j9 => n_7.2 14 15 j9 (show (1400 : Nat) ∉ _ from by decide))]; exact h9), (by have h9 := hw_7_0; rw [show st_6 11 = st 11 from ((funext fun i9 => funext fun j9 => n_6.2 11 i9 j9 (show (1100 : Nat) ∉ _ from by decide)).trans (((congrFun est_5 11).trans (gU_k (by decide))).trans rfl))] at h9; rw [show st_7 14 15 = st_6 14 15 from (funext fun j9 => n_7.2 14 15 j9 (show (1400 : Nat) ∉ _ from by decide)), show st_7 0 0 10 = st_6 0 0 10 from n_7.2 0 0 10 (show (10 : Nat) ∉ _ from by decide)]; exact h9)⟩)⟩ (by exact Nat.le_refl _) (by exact Nat.le_refl _) dX9_next_42
  · have ic_2 := gz_nlt (rfl : (st 0 0 10).toInt = (st 0 0 10).toInt) (by decide : (199 : Int32).toInt = 199) c_2
    refine lv_iconst (v := 0) hx hb dX9_next_10 (by decide) ?_
    exact gs_iret hx hb hr hlocks hM hS (by decide) ⟨hB_st, (Or.inr ⟨rfl, by omega, rfl⟩)⟩ (by exact Nat.le_refl _) (by exact Nat.le_refl _) dX9_next_11
