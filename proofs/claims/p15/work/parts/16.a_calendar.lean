theorem gm_17 : (Jvm.Cond.initialized "java/lang/Math") ∈ gz_T := gz_at 17 (by decide +kernel) rfl
theorem gm_109 : (Jvm.Cond.fieldLink "WellCourt$Calendar" (11 : Nat) "WellCourt$Calendar" "owners" "[[I") ∈ gz_T := gz_at 109 (by decide +kernel) rfl
theorem gm_536 : (Jvm.Cond.methodLink "WellCourt$Calendar" (29 : Nat) ({ cls := "java/lang/Math", name := "max", desc := "(II)I" } : Jvm.MethodName)) ∈ gz_T := gz_at 536 (by decide +kernel) rfl
theorem gm_537 : (Jvm.Cond.static ({ cls := "java/lang/Math", name := "max", desc := "(II)I" } : Jvm.MethodName)) ∈ gz_T := gz_at 537 (by decide +kernel) rfl
theorem gm_538 : (Jvm.Cond.code ({ cls := "java/lang/Math", name := "max", desc := "(II)I" } : Jvm.MethodName) prog_15_method_65_code (2 : Nat) (Option.some Jvm.ClassFile.FieldType.int)) ∈ gz_T := gz_at 538 (by decide +kernel) rfl
theorem gm_539 : (Jvm.Cond.methodLink "WellCourt$Calendar" (35 : Nat) ({ cls := "WellCourt$Law", name := "turnOn", desc := "(II)I" } : Jvm.MethodName)) ∈ gz_T := gz_at 539 (by decide +kernel) rfl
theorem gm_540 : (Jvm.Cond.instanceMethod ({ cls := "WellCourt$Law", name := "turnOn", desc := "(II)I" } : Jvm.MethodName)) ∈ gz_T := gz_at 540 (by decide +kernel) rfl
theorem gm_541 : (Jvm.Cond.selects "WellCourt$Law" ({ cls := "WellCourt$Law", name := "turnOn", desc := "(II)I" } : Jvm.MethodName) ({ cls := "WellCourt$Law", name := "turnOn", desc := "(II)I" } : Jvm.MethodName)) ∈ gz_T := gz_at 541 (by decide +kernel) rfl
theorem gm_542 : (Jvm.Cond.code ({ cls := "WellCourt$Law", name := "turnOn", desc := "(II)I" } : Jvm.MethodName) prog_6_method_9_code (4 : Nat) (Option.some Jvm.ClassFile.FieldType.int)) ∈ gz_T := gz_at 542 (by decide +kernel) rfl
theorem gm_561 : (Jvm.Cond.static ({ cls := "WellCourt", name := "isDate", desc := "(I)Z" } : Jvm.MethodName)) ∈ gz_T := gz_at 561 (by decide +kernel) rfl
theorem gm_562 : (Jvm.Cond.code ({ cls := "WellCourt", name := "isDate", desc := "(I)Z" } : Jvm.MethodName) prog_1_method_33_code (1 : Nat) (Option.some Jvm.ClassFile.FieldType.boolean)) ∈ gz_T := gz_at 562 (by decide +kernel) rfl
theorem gn_126 : (Jvm.Cond.fieldLinkNest "WellCourt$Calendar" (40 : Nat) "WellCourt$Day" "owner" "[I" "WellCourt") ∈ gzN := gz_nest 126 (by decide +kernel) rfl
theorem gn_559 : (Jvm.Cond.methodLinkNest "WellCourt$Calendar" (22 : Nat) ({ cls := "WellCourt", name := "isWell", desc := "(I)Z" } : Jvm.MethodName) "WellCourt") ∈ gzN := gz_nest 559 (by decide +kernel) rfl
theorem gn_560 : (Jvm.Cond.methodLinkNest "WellCourt$Calendar" (26 : Nat) ({ cls := "WellCourt", name := "isDate", desc := "(I)Z" } : Jvm.MethodName) "WellCourt") ∈ gzN := gz_nest 560 (by decide +kernel) rfl
theorem inX0 : ∀ w ∈ u_ws RX0 TX0 1, w ∈ gz_T := gz_inX [110] (by decide +kernel) (by decide +kernel)
theorem dX0_keep_0 : decode cX0_keep 0 = .ok (.iconst 0, 1) := by decide +kernel
theorem dX0_keep_1 : decode cX0_keep 1 = .ok (.istore_n 3, 1) := by decide +kernel
theorem dX0_keep_2 : decode cX0_keep 2 = .ok (.iload_n 3, 1) := by decide +kernel
theorem dX0_keep_3 : decode cX0_keep 3 = .ok (.bipush 6, 2) := by decide +kernel
theorem dX0_keep_5 : decode cX0_keep 5 = .ok (.if_icmp .ge 30, 3) := by decide +kernel
theorem dX0_keep_8 : decode cX0_keep 8 = .ok (.iload_n 2, 1) := by decide +kernel
theorem dX0_keep_9 : decode cX0_keep 9 = .ok (.invokestatic 26, 3) := by decide +kernel
theorem dX0_keep_12 : decode cX0_keep 12 = .ok (.ifCond .eq 23, 3) := by decide +kernel
theorem dX0_keep_15 : decode cX0_keep 15 = .ok (.aload_n 0, 1) := by decide +kernel
theorem dX0_keep_16 : decode cX0_keep 16 = .ok (.getfield 11, 3) := by decide +kernel
theorem dX0_keep_19 : decode cX0_keep 19 = .ok (.iload_n 3, 1) := by decide +kernel
theorem dX0_keep_20 : decode cX0_keep 20 = .ok (.aaload, 1) := by decide +kernel
theorem dX0_keep_21 : decode cX0_keep 21 = .ok (.iload_n 2, 1) := by decide +kernel
theorem dX0_keep_22 : decode cX0_keep 22 = .ok (.aload_n 1, 1) := by decide +kernel
theorem dX0_keep_23 : decode cX0_keep 23 = .ok (.getfield 40, 3) := by decide +kernel
theorem dX0_keep_26 : decode cX0_keep 26 = .ok (.iload_n 3, 1) := by decide +kernel
theorem dX0_keep_27 : decode cX0_keep 27 = .ok (.iaload, 1) := by decide +kernel
theorem dX0_keep_28 : decode cX0_keep 28 = .ok (.iastore, 1) := by decide +kernel
theorem dX0_keep_29 : decode cX0_keep 29 = .ok (.iinc 3 1, 3) := by decide +kernel
theorem dX0_keep_32 : decode cX0_keep 32 = .ok (.goto (-30), 3) := by decide +kernel
theorem dX0_keep_35 : decode cX0_keep 35 = .ok (.return_, 1) := by decide +kernel
theorem dX0_ownerOn_0 : decode cX0_ownerOn 0 = .ok (.iload_n 1, 1) := by decide +kernel
theorem dX0_ownerOn_1 : decode cX0_ownerOn 1 = .ok (.invokestatic 22, 3) := by decide +kernel
theorem dX0_ownerOn_4 : decode cX0_ownerOn 4 = .ok (.ifCond .eq 21, 3) := by decide +kernel
theorem dX0_ownerOn_7 : decode cX0_ownerOn 7 = .ok (.iload_n 2, 1) := by decide +kernel
theorem dX0_ownerOn_8 : decode cX0_ownerOn 8 = .ok (.invokestatic 26, 3) := by decide +kernel
theorem dX0_ownerOn_11 : decode cX0_ownerOn 11 = .ok (.ifCond .eq 14, 3) := by decide +kernel
theorem dX0_ownerOn_14 : decode cX0_ownerOn 14 = .ok (.aload_n 0, 1) := by decide +kernel
theorem dX0_ownerOn_15 : decode cX0_ownerOn 15 = .ok (.getfield 11, 3) := by decide +kernel
theorem dX0_ownerOn_18 : decode cX0_ownerOn 18 = .ok (.iload_n 1, 1) := by decide +kernel
theorem dX0_ownerOn_19 : decode cX0_ownerOn 19 = .ok (.aaload, 1) := by decide +kernel
theorem dX0_ownerOn_20 : decode cX0_ownerOn 20 = .ok (.iload_n 2, 1) := by decide +kernel
theorem dX0_ownerOn_21 : decode cX0_ownerOn 21 = .ok (.iaload, 1) := by decide +kernel
theorem dX0_ownerOn_22 : decode cX0_ownerOn 22 = .ok (.goto 4, 3) := by decide +kernel
theorem dX0_ownerOn_25 : decode cX0_ownerOn 25 = .ok (.iconst (-1), 1) := by decide +kernel
theorem dX0_ownerOn_26 : decode cX0_ownerOn 26 = .ok (.ireturn, 1) := by decide +kernel
theorem dX0_tellTurns_0 : decode cX0_tellTurns 0 = .ok (.iconst 0, 1) := by decide +kernel
theorem dX0_tellTurns_1 : decode cX0_tellTurns 1 = .ok (.istore_n 3, 1) := by decide +kernel
theorem dX0_tellTurns_2 : decode cX0_tellTurns 2 = .ok (.iload_n 3, 1) := by decide +kernel
theorem dX0_tellTurns_3 : decode cX0_tellTurns 3 = .ok (.bipush 6, 2) := by decide +kernel
theorem dX0_tellTurns_5 : decode cX0_tellTurns 5 = .ok (.if_icmp .ge 46, 3) := by decide +kernel
theorem dX0_tellTurns_8 : decode cX0_tellTurns 8 = .ok (.iload_n 2, 1) := by decide +kernel
theorem dX0_tellTurns_9 : decode cX0_tellTurns 9 = .ok (.iconst 0, 1) := by decide +kernel
theorem dX0_tellTurns_10 : decode cX0_tellTurns 10 = .ok (.invokestatic 29, 3) := by decide +kernel
theorem dX0_tellTurns_13 : decode cX0_tellTurns 13 = .ok (.istore 4, 2) := by decide +kernel
theorem dX0_tellTurns_15 : decode cX0_tellTurns 15 = .ok (.iload 4, 2) := by decide +kernel
theorem dX0_tellTurns_17 : decode cX0_tellTurns 17 = .ok (.sipush 199, 3) := by decide +kernel
theorem dX0_tellTurns_20 : decode cX0_tellTurns 20 = .ok (.if_icmp .gt 25, 3) := by decide +kernel
theorem dX0_tellTurns_23 : decode cX0_tellTurns 23 = .ok (.aload_n 0, 1) := by decide +kernel
theorem dX0_tellTurns_24 : decode cX0_tellTurns 24 = .ok (.getfield 11, 3) := by decide +kernel
theorem dX0_tellTurns_27 : decode cX0_tellTurns 27 = .ok (.iload_n 3, 1) := by decide +kernel
theorem dX0_tellTurns_28 : decode cX0_tellTurns 28 = .ok (.aaload, 1) := by decide +kernel
theorem dX0_tellTurns_29 : decode cX0_tellTurns 29 = .ok (.iload 4, 2) := by decide +kernel
theorem dX0_tellTurns_31 : decode cX0_tellTurns 31 = .ok (.aload_n 1, 1) := by decide +kernel
theorem dX0_tellTurns_32 : decode cX0_tellTurns 32 = .ok (.iload_n 3, 1) := by decide +kernel
theorem dX0_tellTurns_33 : decode cX0_tellTurns 33 = .ok (.iload 4, 2) := by decide +kernel
theorem dX0_tellTurns_35 : decode cX0_tellTurns 35 = .ok (.invokevirtual 35, 3) := by decide +kernel
theorem dX0_tellTurns_38 : decode cX0_tellTurns 38 = .ok (.iastore, 1) := by decide +kernel
theorem dX0_tellTurns_39 : decode cX0_tellTurns 39 = .ok (.iinc 4 1, 3) := by decide +kernel
theorem dX0_tellTurns_42 : decode cX0_tellTurns 42 = .ok (.goto (-27), 3) := by decide +kernel
theorem dX0_tellTurns_45 : decode cX0_tellTurns 45 = .ok (.iinc 3 1, 3) := by decide +kernel
theorem dX0_tellTurns_48 : decode cX0_tellTurns 48 = .ok (.goto (-46), 3) := by decide +kernel
theorem dX0_tellTurns_51 : decode cX0_tellTurns 51 = .ok (.return_, 1) := by decide +kernel
set_option maxHeartbeats 4000000 in
set_option maxRecDepth 100000 in
/-- WellCourt$Calendar.ownerOn -/
theorem s_X0_ownerOn (l : Launch) (G : va_G) (cy : Nat → ClassId) (sK sV : Nat → Nat) (ad : Nat → Nat → Nat) (sz : Nat) (st : gS) (hB : gBd bX st) (x : Int32) (y : Int32) (Xx : Int) (Xy : Int) (kx : x.toInt = Xx) (ky : y.toInt = Xy) : gsMi l yX0_ownerOn cX0_ownerOn 3 (some .int) ({ frames := 1, cells := 0, slots := 0, locals := 20 } : Room) G cy sK sV (shX cy ad) cnX ad sz [.ref (ad 9 0), .int x, .int y] st (fun (r : Int32) (u : gS) => gBN bX kX [] st u ∧ (((0 ≤ Xx ∧ Xx ≤ 5 ∧ 0 ≤ Xy ∧ Xy ≤ 199 ∧ r.toInt = (st 11 x.toNatClampNeg y.toNatClampNeg).toInt) ∨ (¬ (0 ≤ Xx ∧ Xx ≤ 5 ∧ 0 ≤ Xy ∧ Xy ≤ 199) ∧ r.toInt = -1)))) := by
  refine gs_start (fun A => gsQi G (shX cy ad) cnX ad _ A) (by decide) (Nat.le_of_ble_eq_true rfl) ?_
  intro p e s m below meth c A ls H hx hb hr hml hlocks hown hts hK hov hE hI hM hm hS hA hl
  have hl : lv_has ls 3 [(0, .ref (ad 9 0)), (1, .int x), (2, .int y)] := hl
  have hB_st : gBN bX kX [] st st := gBN.rf hB
  refine lv_iload_n hx hb dX0_ownerOn_0 rfl (lv_at hl 1 rfl) ?_
  refine gs_calli (va_runSN (As := [.int x]) (rest := []) ⟨hx, hb, hml, hown, hts⟩ (s_isWell l G cy sK sV ad H.size st hB_st.1 x x.toInt rfl ) ⟨(va_cnB 1 hts (gz_good gm_346) rfl rfl rfl (hov.2.2 _ gn_559) (hts _ gm_1) ⟨by decide +kernel, by decide +kernel, by decide +kernel⟩ ⟨Nat.le_of_ble_eq_true rfl, Nat.le_of_ble_eq_true rfl⟩), hts _ gm_345, trivial⟩ (gs_preS hK hov hE hI hM hm hS hA) rfl rfl hl.1 rfl (lv_room (Nat.le_of_ble_eq_true rfl)) dX0_ownerOn_1 ⟨Nat.le_of_ble_eq_true rfl, Nat.le_of_ble_eq_true rfl⟩) hm hS hA (fun r_1 st_1 H locs hw_1 hM hS => ?_)
  obtain ⟨n_1, hw_1⟩ := hw_1
  have n_1 := gBN.nil n_1
  subst n_1
  rcases hw_1 with ⟨rfl, hw_1_0, hw_1_1⟩ | ⟨rfl, hw_1_0⟩
  · skip
    refine lv_if_eq (tgt := 25) hx hb dX0_ownerOn_4 (by decide) (fun h9 => absurd h9 (by decide)) (fun _ => ?_)
    refine lv_iload_n hx hb dX0_ownerOn_7 rfl (lv_at hl 2 rfl) ?_
    refine gs_calli (va_runSN (As := [.int y]) (rest := []) ⟨hx, hb, hml, hown, hts⟩ (s_isDate l G cy sK sV ad H.size st hB_st.1 y y.toInt rfl ) ⟨(va_cnB 1 hts (gz_good gm_562) rfl rfl rfl (hov.2.2 _ gn_560) (hts _ gm_1) ⟨by decide +kernel, by decide +kernel, by decide +kernel⟩ ⟨Nat.le_of_ble_eq_true rfl, Nat.le_of_ble_eq_true rfl⟩), hts _ gm_561, trivial⟩ (gs_preS hK hov hE hI hM hm hS hA) rfl rfl hl.1 rfl (lv_room (Nat.le_of_ble_eq_true rfl)) dX0_ownerOn_8 ⟨Nat.le_of_ble_eq_true rfl, Nat.le_of_ble_eq_true rfl⟩) hm hS hA (fun r_2 st_2 H locs hw_2 hM hS => ?_)
    obtain ⟨n_2, hw_2⟩ := hw_2
    have n_2 := gBN.nil n_2
    subst n_2
    rcases hw_2 with ⟨rfl, hw_2_0, hw_2_1⟩ | ⟨rfl, hw_2_0⟩
    · skip
      refine lv_if_eq (tgt := 25) hx hb dX0_ownerOn_11 (by decide) (fun h9 => absurd h9 (by decide)) (fun _ => ?_)
      refine lv_aload_n hx hb dX0_ownerOn_14 rfl (lv_at hl 0 rfl) ?_
      refine gs_get (C := RX0) (T := TX0) (N := 1) hx hb hts inX0 hown hK hM 9 0 0 (by decide) rfl rfl (by decide) (hts _ gm_109) (fun _ h9 => h9) rfl dX0_ownerOn_15 ?_
      refine lv_iload_n hx hb dX0_ownerOn_18 rfl (lv_at hl 1 rfl) ?_
      have h_3 : x.toNatClampNeg < 6 := gs_lt (vp_in_iff.mpr ⟨by omega, by omega⟩)
      refine gs_alda hx hb hK hM 10 0 (by decide) rfl (vp_in_iff.mpr ⟨by omega, by omega⟩) (a := ad 11 x.toNatClampNeg) (if_pos h_3) dX0_ownerOn_19 ?_
      refine lv_iload_n hx hb dX0_ownerOn_20 rfl (lv_at hl 2 rfl) ?_
      refine gs_iald hx hb hK hM 11 x.toNatClampNeg h_3 rfl (vp_in_iff.mpr ⟨by omega, by omega⟩) dX0_ownerOn_21 ?_
      refine lv_topi (fun x_4 ex_4 => ?_)
      have qx_4 : x_4.toInt = (st 11 x.toNatClampNeg (y.toNatClampNeg)).toInt := congrArg Int32.toInt ex_4
      refine lv_goto (tgt := 26) hx hb dX0_ownerOn_22 (by decide) ?_
      exact gs_iret hx hb hr hlocks hM hS rfl ⟨hB_st, (Or.inl ⟨by omega, by omega, by omega, by omega, qx_4⟩)⟩ (by exact Nat.le_refl _) (by exact Nat.le_refl _) dX0_ownerOn_26
    · skip
      refine lv_if_eq (tgt := 25) hx hb dX0_ownerOn_11 (by decide) (fun _ => ?_) (fun h9 => absurd (by decide) h9)
      refine lv_iconst (v := (-1)) hx hb dX0_ownerOn_25 (by decide) ?_
      exact gs_iret hx hb hr hlocks hM hS rfl ⟨hB_st, (Or.inr ⟨by omega, by decide⟩)⟩ (by exact Nat.le_refl _) (by exact Nat.le_refl _) dX0_ownerOn_26
  · skip
    refine lv_if_eq (tgt := 25) hx hb dX0_ownerOn_4 (by decide) (fun _ => ?_) (fun h9 => absurd (by decide) h9)
    refine lv_iconst (v := (-1)) hx hb dX0_ownerOn_25 (by decide) ?_
    exact gs_iret hx hb hr hlocks hM hS rfl ⟨hB_st, (Or.inr ⟨by omega, by decide⟩)⟩ (by exact Nat.le_refl _) (by exact Nat.le_refl _) dX0_ownerOn_26

set_option maxHeartbeats 4000000 in
set_option maxRecDepth 100000 in
/-- WellCourt$Calendar.tellTurns -/
theorem s_X0_tellTurns (l : Launch) (G : va_G) (cy : Nat → ClassId) (sK sV : Nat → Nat) (ad : Nat → Nat → Nat) (sz : Nat) (st : gS) (hB : gBd bX st) (z : Int32) (x : Int32) (Xx : Int) (kx : x.toInt = Xx) (hz_z : (0 : Int) ≤ z.toInt ∧ z.toInt ≤ (1 : Int)) (hx0 : 0 ≤ Xx) (rs : List Rl) (hL : LXt rs st z.toNatClampNeg) : gsMv l yX0_tellTurns cX0_tellTurns 5 ({ frames := 1, cells := 0, slots := 0, locals := 23 } : Room) G cy sK sV (shX cy ad) cnX ad sz [.ref (ad 9 0), .ref (ad 25 z.toNatClampNeg), .int x] st (fun (u : gS) => gBN bX kX [1100] st u ∧ ((ownC rs st u Xx 6 Xx))) := by
  refine gs_start (fun A => gsQv G (shX cy ad) cnX ad _ A) (by decide) (Nat.le_of_ble_eq_true rfl) ?_
  intro p e s m below meth c A ls H hx hb hr hml hlocks hown hts hK hov hE hI hM hm hS hA hl
  have hl : lv_has ls 5 [(0, .ref (ad 9 0)), (1, .ref (ad 25 z.toNatClampNeg)), (2, .int x)] := hl
  have hB_st : gBN bX kX [1100] st st := gBN.rf hB
  generalize hQe : MQ below _ _ s _ _ A = Q
  refine lv_iconst (v := 0) hx hb dX0_tellTurns_0 (by decide) ?_
  refine lv_istore_n (lv' := [(3, .int 0), (0, .ref (ad 9 0)), (1, .ref (ad 25 z.toNatClampNeg)), (2, .int x)]) hx hb dX0_tellTurns_1 rfl hl (by decide) rfl (fun ls hl => ?_)
  have lp1 : ∀ (n1 : Nat) (sv1 : gS) (y1_0 : Int32) (H : Heap) (locs : List Loc) (ls : Array Slot), (6 - y1_0.toInt).toNat < n1 → gBN bX kX [1100] st sv1 → (0 ≤ y1_0.toInt) → (ownC rs st sv1 Xx y1_0.toInt Xx) → gM G (shX cy ad) cnX ad sv1 H → va_S A s.heap H locs → lv_has ls 5 [(3, .int y1_0), (0, .ref (ad 9 0)), (1, .ref (ad 25 z.toNatClampNeg)), (2, .int x)] → W p l e ({ frames := 1, cells := 0, slots := 0, locals := 23 } : Room) s m [.ref (ad 9 0), .ref (ad 25 z.toNatClampNeg), .int x].toArray below meth c H locs 0 0 Q (F0 m 2 ls []) := by
    intro n1
    induction n1 with
    | zero => intro sv1 y1_0 H locs ls h9; exact absurd h9 (Nat.not_lt_zero _)
    | succ n1 ih_1 =>
      intro sv1 y1_0 H locs ls hme1 hB_sv1 hv1_0 hv1_1 hM hS hl
      refine lv_iload_n hx hb dX0_tellTurns_2 rfl (lv_at hl 0 rfl) ?_
      refine lv_bipush (v := 6) hx hb dX0_tellTurns_3 (by decide) ?_
      refine lv_icmp_ge (tgt := 51) hx hb dX0_tellTurns_5 (by decide) (fun c_2 => ?_) (fun c_2 => ?_)
      · have ic_2 := gz_le (by decide : (6 : Int32).toInt = 6) (rfl : y1_0.toInt = y1_0.toInt) c_2
        rw [← hQe]
        exact gs_vret hx hb hr hlocks hM hS ⟨hB_sv1, (by have h9 := hv1_1; intro w9 d9 h1 h2; rw [h9 w9 d9 h1 h2]; by_cases h3 : Xx ≤ (d9 : Int); rw [if_pos (by omega), if_pos (by omega)]; rw [if_neg (by omega), if_neg (by omega)])⟩ (by exact Nat.le_refl _) (by exact Nat.le_refl _) dX0_tellTurns_51
      · have ic_2 := gz_nle (by decide : (6 : Int32).toInt = 6) (rfl : y1_0.toInt = y1_0.toInt) c_2
        refine lv_iload_n hx hb dX0_tellTurns_8 rfl (lv_at hl 3 rfl) ?_
        refine lv_iconst (v := 0) hx hb dX0_tellTurns_9 (by decide) ?_
        refine va_mmax hx hb (hml.trans hl.1.symm) hown (hts _ gm_536) (hts _ gm_537) (hts _ gm_17) (hts _ gm_538) (Nat.le_of_ble_eq_true rfl) (Nat.le_of_ble_eq_true rfl) (Nat.le_of_ble_eq_true rfl) (Nat.le_of_ble_eq_true rfl) dX0_tellTurns_10 ?_
        refine lv_topi (fun x_3 ex_3 => ?_)
        have tx_3 := gs_max ex_3
        have ux_3 : (0 : Int32).toInt = 0 := (by decide)
        refine lv_istore (lv' := [(4, .int x_3), (3, .int y1_0), (0, .ref (ad 9 0)), (1, .ref (ad 25 z.toNatClampNeg)), (2, .int x)]) hx hb dX0_tellTurns_13 hl (by decide) rfl (fun ls hl => ?_)
        have lp4 : ∀ (n4 : Nat) (sv4 : gS) (y4_0 : Int32) (H : Heap) (locs : List Loc) (ls : Array Slot), (200 - y4_0.toInt).toNat < n4 → gBN bX kX [1100] st sv4 → (Xx ≤ y4_0.toInt) → (ownC rs st sv4 Xx y1_0.toInt y4_0.toInt) → gM G (shX cy ad) cnX ad sv4 H → va_S A s.heap H locs → lv_has ls 5 [(4, .int y4_0), (3, .int y1_0), (0, .ref (ad 9 0)), (1, .ref (ad 25 z.toNatClampNeg)), (2, .int x)] → W p l e ({ frames := 1, cells := 0, slots := 0, locals := 23 } : Room) s m [.ref (ad 9 0), .ref (ad 25 z.toNatClampNeg), .int x].toArray below meth c H locs 0 0 Q (F0 m 15 ls []) := by
          intro n4
          induction n4 with
          | zero => intro sv4 y4_0 H locs ls h9; exact absurd h9 (Nat.not_lt_zero _)
          | succ n4 ih_4 =>
            intro sv4 y4_0 H locs ls hme4 hB_sv4 hv4_0 hv4_1 hM hS hl
            refine lv_iload hx hb dX0_tellTurns_15 (lv_at hl 0 rfl) ?_
            refine lv_sipush (v := 199) hx hb dX0_tellTurns_17 (by decide) ?_
            refine lv_icmp_gt (tgt := 45) hx hb dX0_tellTurns_20 (by decide) (fun c_5 => ?_) (fun c_5 => ?_)
            · have ic_5 := gz_lt (by decide : (199 : Int32).toInt = 199) (rfl : y4_0.toInt = y4_0.toInt) c_5
              obtain ⟨x_6, ex_6⟩ : ∃ y : Int32, y = y1_0 + 1 := ⟨_, rfl⟩
              try have tx_6 : x_6.toInt = y1_0.toInt + 1 := by rw [ex_6]; exact gz_addP (x := y1_0.toInt) (y := 1) rfl (by decide) (by omega) (by omega)
              refine lv_iinc (v := (x_6)) (lv' := [(3, .int x_6), (4, .int y4_0), (0, .ref (ad 9 0)), (1, .ref (ad 25 z.toNatClampNeg)), (2, .int x)]) hx hb dX0_tellTurns_45 hl (k := 1) rfl (by rw [ex_6]; rfl) (by decide) rfl (fun ls hl => ?_)
              refine lv_goto (tgt := 2) hx hb dX0_tellTurns_48 (by decide) ?_
              exact ih_1 sv4 (x_6 : Int32) H _ ls (by omega) hB_sv4 (by omega) (ownC.next hv4_1 (by omega) (by omega) (Int.le_refl _)) hM hS (lv_sub hl [0, 2, 3, 4] rfl)
            · have ic_5 := gz_nlt (by decide : (199 : Int32).toInt = 199) (rfl : y4_0.toInt = y4_0.toInt) c_5
              refine lv_aload_n hx hb dX0_tellTurns_23 rfl (lv_at hl 2 rfl) ?_
              refine gs_get (C := RX0) (T := TX0) (N := 1) hx hb hts inX0 hown hK hM 9 0 0 (by decide) rfl rfl (by decide) (hts _ gm_109) (fun _ h9 => h9) rfl dX0_tellTurns_24 ?_
              refine lv_iload_n hx hb dX0_tellTurns_27 rfl (lv_at hl 1 rfl) ?_
              have h_7 : y1_0.toNatClampNeg < 6 := gs_lt (vp_in_iff.mpr ⟨by omega, by omega⟩)
              refine gs_alda hx hb hK hM 10 0 (by decide) rfl (vp_in_iff.mpr ⟨by omega, by omega⟩) (a := ad 11 y1_0.toNatClampNeg) (if_pos h_7) dX0_tellTurns_28 ?_
              refine lv_iload hx hb dX0_tellTurns_29 (lv_at hl 0 rfl) ?_
              refine lv_aload_n hx hb dX0_tellTurns_31 rfl (lv_at hl 3 rfl) ?_
              refine lv_iload_n hx hb dX0_tellTurns_32 rfl (lv_at hl 1 rfl) ?_
              refine lv_iload hx hb dX0_tellTurns_33 (lv_at hl 0 rfl) ?_
              refine gs_calli (va_runV (As := [.int y1_0, .int y4_0]) (rest := [.int y4_0, .ref (ad 11 y1_0.toNatClampNeg)]) ⟨hx, hb, hml, hown, hts⟩ (s_X4_turnOn l G cy sK sV ad H.size sv4 hB_sv4.1 z y1_0 y4_0 y1_0.toInt y4_0.toInt rfl rfl hz_z (by first | decide | omega) (by first | decide | omega) (by first | decide | omega) rs (hL.keep hB_sv4.2 (by decide) (by decide))) ⟨(gz_cb (n := 2) hts gm_539 gm_10 gm_542 ⟨by decide +kernel, by decide +kernel, by decide +kernel⟩ ⟨Nat.le_of_ble_eq_true rfl, Nat.le_of_ble_eq_true rfl⟩), hts _ gm_540, hts _ gm_541⟩ (gs_preV hK hov hE hI hM hm hS hA 25 z.toNatClampNeg (gs_sel hz_z) rfl rfl) rfl rfl hl.1 rfl (lv_room (Nat.le_of_ble_eq_true rfl)) dX0_tellTurns_35 ⟨Nat.le_of_ble_eq_true rfl, Nat.le_of_ble_eq_true rfl⟩) hm hS hA (fun r_8 st_8 H locs hw_8 hM hS => ?_)
              obtain ⟨n_8, hw_8⟩ := hw_8
              have n_8 := gBN.nil n_8
              subst n_8
              have hw_8_0 := hw_8
              refine gs_iast hx hb hK hI hm hM hS 11 y1_0.toNatClampNeg h_7 (fun _ => rfl) (vp_in_iff.mpr ⟨by omega, by omega⟩) dX0_tellTurns_38 (fun st_9 H locs est_9 hM hS => ?_)
              have hB_st_9 : gBN bX kX [1100] st st_9 := by rw [est_9]; exact hB_sv4.up (show (1100 : Nat) ∈ _ from by decide) (gi_lo _) (gi_hi _)
              obtain ⟨x_10, ex_10⟩ : ∃ y : Int32, y = y4_0 + 1 := ⟨_, rfl⟩
              try have tx_10 : x_10.toInt = y4_0.toInt + 1 := by rw [ex_10]; exact gz_addP (x := y4_0.toInt) (y := 1) rfl (by decide) (by omega) (by omega)
              refine lv_iinc (v := (x_10)) (lv' := [(4, .int x_10), (3, .int y1_0), (0, .ref (ad 9 0)), (1, .ref (ad 25 z.toNatClampNeg)), (2, .int x)]) hx hb dX0_tellTurns_39 hl (k := 0) rfl (by rw [ex_10]; rfl) (by decide) rfl (fun ls hl => ?_)
              refine lv_goto (tgt := 15) hx hb dX0_tellTurns_42 (by decide) ?_
              exact ih_4 st_9 (x_10 : Int32) H _ ls (by omega) hB_st_9 (by omega) (by rw [est_9]; exact ownC.step (k := y4_0) hv4_1 (by omega) (by omega) (by omega) (by omega) (by omega) hw_8_0 (by omega)) hM hS (lv_sub hl [0, 1, 2, 3, 4] rfl)
        exact lp4 ((200 - (x_3 : Int32).toInt).toNat + 1) sv1 (x_3 : Int32) H _ ls (Nat.lt_succ_self _) hB_sv1 (by omega) (by rw [show x_3.toInt = Xx by omega]; exact hv1_1) hM hS (lv_sub hl [0, 1, 2, 3, 4] rfl)
  exact lp1 ((6 - ((0 : Int32) : Int32).toInt).toNat + 1) st ((0 : Int32) : Int32) H _ ls (Nat.lt_succ_self _) hB_st (by have hl0 : (0 : Int32).toInt = 0 := (by decide); omega) (ownC.new (by decide) (Int.le_refl _)) hM hS (lv_sub hl [0, 1, 2, 3] rfl)

set_option maxHeartbeats 4000000 in
set_option maxRecDepth 100000 in
/-- WellCourt$Calendar.keep -/
theorem s_X0_keep (l : Launch) (G : va_G) (cy : Nat → ClassId) (sK sV : Nat → Nat) (ad : Nat → Nat → Nat) (sz : Nat) (st : gS) (hB : gBd bX st) (i : Nat) (x : Int32) (Xx : Int) (kx : x.toInt = Xx) (hi_i : i < 16) (hx0 : 0 ≤ Xx) (hx1 : Xx ≤ 199) : gsMv l yX0_keep cX0_keep 4 ({ frames := 1, cells := 0, slots := 0, locals := 20 } : Room) G cy sK sV (shX cy ad) cnX ad sz [.ref (ad 9 0), .ref (ad 12 i), .int x] st (fun (u : gS) => gBN bX kX [1100] st u ∧ ((keepC st u i Xx 6))) := by
  refine gs_start (fun A => gsQv G (shX cy ad) cnX ad _ A) (by decide) (Nat.le_of_ble_eq_true rfl) ?_
  intro p e s m below meth c A ls H hx hb hr hml hlocks hown hts hK hov hE hI hM hm hS hA hl
  have hl : lv_has ls 4 [(0, .ref (ad 9 0)), (1, .ref (ad 12 i)), (2, .int x)] := hl
  have hB_st : gBN bX kX [1100] st st := gBN.rf hB
  generalize hQe : MQ below _ _ s _ _ A = Q
  refine lv_iconst (v := 0) hx hb dX0_keep_0 (by decide) ?_
  refine lv_istore_n (lv' := [(3, .int 0), (0, .ref (ad 9 0)), (1, .ref (ad 12 i)), (2, .int x)]) hx hb dX0_keep_1 rfl hl (by decide) rfl (fun ls hl => ?_)
  have lp1 : ∀ (n1 : Nat) (sv1 : gS) (y1_0 : Int32) (H : Heap) (locs : List Loc) (ls : Array Slot), (6 - y1_0.toInt).toNat < n1 → gBN bX kX [1100] st sv1 → (0 ≤ y1_0.toInt) → (keepC st sv1 i Xx y1_0.toInt) → gM G (shX cy ad) cnX ad sv1 H → va_S A s.heap H locs → lv_has ls 4 [(3, .int y1_0), (0, .ref (ad 9 0)), (1, .ref (ad 12 i)), (2, .int x)] → W p l e ({ frames := 1, cells := 0, slots := 0, locals := 20 } : Room) s m [.ref (ad 9 0), .ref (ad 12 i), .int x].toArray below meth c H locs 0 0 Q (F0 m 2 ls []) := by
    intro n1
    induction n1 with
    | zero => intro sv1 y1_0 H locs ls h9; exact absurd h9 (Nat.not_lt_zero _)
    | succ n1 ih_1 =>
      intro sv1 y1_0 H locs ls hme1 hB_sv1 hv1_0 hv1_1 hM hS hl
      refine lv_iload_n hx hb dX0_keep_2 rfl (lv_at hl 0 rfl) ?_
      refine lv_bipush (v := 6) hx hb dX0_keep_3 (by decide) ?_
      refine lv_icmp_ge (tgt := 35) hx hb dX0_keep_5 (by decide) (fun c_2 => ?_) (fun c_2 => ?_)
      · have ic_2 := gz_le (by decide : (6 : Int32).toInt = 6) (rfl : y1_0.toInt = y1_0.toInt) c_2
        rw [← hQe]
        exact gs_vret hx hb hr hlocks hM hS ⟨hB_sv1, (by first | (exfalso; omega) | (have h9 := hv1_1; intro w9 d9 h1 h2; rw [h9 w9 d9 h1 h2]; by_cases h3 : (d9 : Int) = Xx; rw [if_pos (by omega), if_pos (by omega)]; rw [if_neg (by omega), if_neg (by omega)]))⟩ (by exact Nat.le_refl _) (by exact Nat.le_refl _) dX0_keep_35
      · have ic_2 := gz_nle (by decide : (6 : Int32).toInt = 6) (rfl : y1_0.toInt = y1_0.toInt) c_2
        refine lv_iload_n hx hb dX0_keep_8 rfl (lv_at hl 3 rfl) ?_
        refine gs_calli (va_runSN (As := [.int x]) (rest := []) ⟨hx, hb, hml, hown, hts⟩ (s_isDate l G cy sK sV ad H.size sv1 hB_sv1.1 x x.toInt rfl ) ⟨(va_cnB 1 hts (gz_good gm_562) rfl rfl rfl (hov.2.2 _ gn_560) (hts _ gm_1) ⟨by decide +kernel, by decide +kernel, by decide +kernel⟩ ⟨Nat.le_of_ble_eq_true rfl, Nat.le_of_ble_eq_true rfl⟩), hts _ gm_561, trivial⟩ (gs_preS hK hov hE hI hM hm hS hA) rfl rfl hl.1 rfl (lv_room (Nat.le_of_ble_eq_true rfl)) dX0_keep_9 ⟨Nat.le_of_ble_eq_true rfl, Nat.le_of_ble_eq_true rfl⟩) hm hS hA (fun r_3 st_3 H locs hw_3 hM hS => ?_)
        obtain ⟨n_3, hw_3⟩ := hw_3
        have n_3 := gBN.nil n_3
        subst n_3
        rcases hw_3 with ⟨rfl, hw_3_0, hw_3_1⟩ | ⟨rfl, hw_3_0⟩
        · skip
          refine lv_if_eq (tgt := 35) hx hb dX0_keep_12 (by decide) (fun h9 => absurd h9 (by decide)) (fun _ => ?_)
          refine lv_aload_n hx hb dX0_keep_15 rfl (lv_at hl 1 rfl) ?_
          refine gs_get (C := RX0) (T := TX0) (N := 1) hx hb hts inX0 hown hK hM 9 0 0 (by decide) rfl rfl (by decide) (hts _ gm_109) (fun _ h9 => h9) rfl dX0_keep_16 ?_
          refine lv_iload_n hx hb dX0_keep_19 rfl (lv_at hl 0 rfl) ?_
          have h_4 : y1_0.toNatClampNeg < 6 := gs_lt (vp_in_iff.mpr ⟨by omega, by omega⟩)
          refine gs_alda hx hb hK hM 10 0 (by decide) rfl (vp_in_iff.mpr ⟨by omega, by omega⟩) (a := ad 11 y1_0.toNatClampNeg) (if_pos h_4) dX0_keep_20 ?_
          refine lv_iload_n hx hb dX0_keep_21 rfl (lv_at hl 3 rfl) ?_
          refine lv_aload_n hx hb dX0_keep_22 rfl (lv_at hl 2 rfl) ?_
          refine gs_getN (host := "WellCourt") (C := RX1) (T := TX1) (N := 3) hx hb hts inX1 hown hK hM 12 i 2 hi_i rfl rfl (by decide) (va_Nw.use rfl (hov.2.2 _ gn_126)) (fun _ h9 => h9) rfl dX0_keep_23 ?_
          refine lv_iload_n hx hb dX0_keep_26 rfl (lv_at hl 0 rfl) ?_
          refine gs_iald hx hb hK hM 15 i hi_i rfl (vp_in_iff.mpr ⟨by omega, by omega⟩) dX0_keep_27 ?_
          refine lv_topi (fun x_5 ex_5 => ?_)
          have qx_5 : x_5.toInt = (sv1 15 i (y1_0.toNatClampNeg)).toInt := congrArg Int32.toInt ex_5
          have rx_5 : x_5.toInt = ((st 15 i (y1_0.toNatClampNeg)) : Int32).toInt := by rw [ex_5]; exact congrArg Int32.toInt ((hB_sv1.2 15 i (y1_0.toNatClampNeg) (show (1500 : Nat) ∉ _ from by decide)))
          refine gs_iast hx hb hK hI hm hM hS 11 y1_0.toNatClampNeg h_4 (fun _ => rfl) (vp_in_iff.mpr ⟨by omega, by omega⟩) dX0_keep_28 (fun st_6 H locs est_6 hM hS => ?_)
          have hB_st_6 : gBN bX kX [1100] st st_6 := by rw [est_6]; exact hB_sv1.up (show (1100 : Nat) ∈ _ from by decide) (gi_lo _) (gi_hi _)
          obtain ⟨x_7, ex_7⟩ : ∃ y : Int32, y = y1_0 + 1 := ⟨_, rfl⟩
          try have tx_7 : x_7.toInt = y1_0.toInt + 1 := by rw [ex_7]; exact gz_addP (x := y1_0.toInt) (y := 1) rfl (by decide) (by omega) (by omega)
          refine lv_iinc (v := (x_7)) (lv' := [(3, .int x_7), (0, .ref (ad 9 0)), (1, .ref (ad 12 i)), (2, .int x)]) hx hb dX0_keep_29 hl (k := 0) rfl (by rw [ex_7]; rfl) (by decide) rfl (fun ls hl => ?_)
          refine lv_goto (tgt := 2) hx hb dX0_keep_32 (by decide) ?_
          exact ih_1 st_6 (x_7 : Int32) H _ ls (by omega) hB_st_6 (by omega) (by rw [est_6]; exact keepC.step (k := y1_0) hv1_1 (by omega) kx (by omega) (by omega) (by omega)) hM hS (lv_sub hl [0, 1, 2, 3] rfl)
        · skip
          refine lv_if_eq (tgt := 35) hx hb dX0_keep_12 (by decide) (fun _ => ?_) (fun h9 => absurd (by decide) h9)
          rw [← hQe]
          exact gs_vret hx hb hr hlocks hM hS ⟨hB_sv1, (by first | (exfalso; omega) | (have h9 := hv1_1; intro w9 d9 h1 h2; rw [h9 w9 d9 h1 h2]; by_cases h3 : (d9 : Int) = Xx; rw [if_pos (by omega), if_pos (by omega)]; rw [if_neg (by omega), if_neg (by omega)]))⟩ (by exact Nat.le_refl _) (by exact Nat.le_refl _) dX0_keep_35
  exact lp1 ((6 - ((0 : Int32) : Int32).toInt).toNat + 1) st ((0 : Int32) : Int32) H _ ls (Nat.lt_succ_self _) hB_st (by have hl0 : (0 : Int32).toInt = 0 := (by decide); omega) (keepC.new (by decide)) hM hS (lv_sub hl [0, 1, 2, 3] rfl)
