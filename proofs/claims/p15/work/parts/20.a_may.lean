theorem gm_7 : (Jvm.Cond.initialized "WellCourt$Day") ∈ gz_T := gz_at 7 (by decide +kernel) rfl
theorem gm_295 : (Jvm.Cond.fieldLink "WellCourt" (42 : Nat) "WellCourt" "today" "LWellCourt$Day;") ∈ gz_T := gz_at 295 (by decide +kernel) rfl
theorem gm_296 : (Jvm.Cond.fieldLink "WellCourt" (49 : Nat) "WellCourt" "ledger" "LWellCourt$Ledger;") ∈ gz_T := gz_at 296 (by decide +kernel) rfl
theorem gm_298 : (Jvm.Cond.fieldLink "WellCourt" (63 : Nat) "WellCourt" "law" "LWellCourt$Law;") ∈ gz_T := gz_at 298 (by decide +kernel) rfl
theorem gm_351 : (Jvm.Cond.methodLink "WellCourt" (100 : Nat) ({ cls := "WellCourt", name := "isWithin", desc := "(III)Z" } : Jvm.MethodName)) ∈ gz_T := gz_at 351 (by decide +kernel) rfl
theorem gm_587 : (Jvm.Cond.methodLink "WellCourt" (144 : Nat) ({ cls := "WellCourt", name := "isWellThere", desc := "(I)Z" } : Jvm.MethodName)) ∈ gz_T := gz_at 587 (by decide +kernel) rfl
theorem gm_589 : (Jvm.Cond.instanceMethod ({ cls := "WellCourt", name := "isWellThere", desc := "(I)Z" } : Jvm.MethodName)) ∈ gz_T := gz_at 589 (by decide +kernel) rfl
theorem gm_590 : (Jvm.Cond.code ({ cls := "WellCourt", name := "isWellThere", desc := "(I)Z" } : Jvm.MethodName) prog_1_method_25_code (2 : Nat) (Option.some Jvm.ClassFile.FieldType.boolean)) ∈ gz_T := gz_at 590 (by decide +kernel) rfl
theorem gm_600 : (Jvm.Cond.methodLink "WellCourt" (151 : Nat) ({ cls := "WellCourt", name := "isClan", desc := "(I)Z" } : Jvm.MethodName)) ∈ gz_T := gz_at 600 (by decide +kernel) rfl
theorem gm_601 : (Jvm.Cond.methodLink "WellCourt" (154 : Nat) ({ cls := "WellCourt", name := "standing", desc := "(II)I" } : Jvm.MethodName)) ∈ gz_T := gz_at 601 (by decide +kernel) rfl
theorem gm_603 : (Jvm.Cond.instanceMethod ({ cls := "WellCourt", name := "standing", desc := "(II)I" } : Jvm.MethodName)) ∈ gz_T := gz_at 603 (by decide +kernel) rfl
theorem gm_604 : (Jvm.Cond.code ({ cls := "WellCourt", name := "standing", desc := "(II)I" } : Jvm.MethodName) prog_1_method_26_code (3 : Nat) (Option.some Jvm.ClassFile.FieldType.int)) ∈ gz_T := gz_at 604 (by decide +kernel) rfl
theorem gm_605 : (Jvm.Cond.methodLink "WellCourt" (258 : Nat) ({ cls := "WellCourt$Day", name := "isRight", desc := "(LWellCourt$Law;II)Z" } : Jvm.MethodName)) ∈ gz_T := gz_at 605 (by decide +kernel) rfl
theorem gm_606 : (Jvm.Cond.instanceMethod ({ cls := "WellCourt$Day", name := "isRight", desc := "(LWellCourt$Law;II)Z" } : Jvm.MethodName)) ∈ gz_T := gz_at 606 (by decide +kernel) rfl
theorem gm_607 : (Jvm.Cond.selects "WellCourt$Day" ({ cls := "WellCourt$Day", name := "isRight", desc := "(LWellCourt$Law;II)Z" } : Jvm.MethodName) ({ cls := "WellCourt$Day", name := "isRight", desc := "(LWellCourt$Law;II)Z" } : Jvm.MethodName)) ∈ gz_T := gz_at 607 (by decide +kernel) rfl
theorem gm_608 : (Jvm.Cond.code ({ cls := "WellCourt$Day", name := "isRight", desc := "(LWellCourt$Law;II)Z" } : Jvm.MethodName) prog_3_method_5_code (5 : Nat) (Option.some Jvm.ClassFile.FieldType.boolean)) ∈ gz_T := gz_at 608 (by decide +kernel) rfl
theorem gm_618 : (Jvm.Cond.methodLink "WellCourt" (167 : Nat) ({ cls := "WellCourt$Day", name := "guestMany", desc := "(LWellCourt$Law;II)I" } : Jvm.MethodName)) ∈ gz_T := gz_at 618 (by decide +kernel) rfl
theorem gm_619 : (Jvm.Cond.instanceMethod ({ cls := "WellCourt$Day", name := "guestMany", desc := "(LWellCourt$Law;II)I" } : Jvm.MethodName)) ∈ gz_T := gz_at 619 (by decide +kernel) rfl
theorem gm_620 : (Jvm.Cond.selects "WellCourt$Day" ({ cls := "WellCourt$Day", name := "guestMany", desc := "(LWellCourt$Law;II)I" } : Jvm.MethodName) ({ cls := "WellCourt$Day", name := "guestMany", desc := "(LWellCourt$Law;II)I" } : Jvm.MethodName)) ∈ gz_T := gz_at 620 (by decide +kernel) rfl
theorem gm_621 : (Jvm.Cond.code ({ cls := "WellCourt$Day", name := "guestMany", desc := "(LWellCourt$Law;II)I" } : Jvm.MethodName) prog_3_method_6_code (4 : Nat) (Option.some Jvm.ClassFile.FieldType.int)) ∈ gz_T := gz_at 621 (by decide +kernel) rfl
theorem gn_144 : (Jvm.Cond.fieldLinkNest "WellCourt" (249 : Nat) "WellCourt$Ledger" "size" "I" "WellCourt") ∈ gzN := gz_nest 144 (by decide +kernel) rfl
theorem gs_17 : (Jvm.Cond.selects "WellCourt" ({ cls := "WellCourt", name := "isWellThere", desc := "(I)Z" } : Jvm.MethodName) ({ cls := "WellCourt", name := "isWellThere", desc := "(I)Z" } : Jvm.MethodName)) ∈ gz_T := gz_sel 17 (by decide +kernel) rfl
theorem gs_18 : (Jvm.Cond.selects "WellCourt" ({ cls := "WellCourt", name := "standing", desc := "(II)I" } : Jvm.MethodName) ({ cls := "WellCourt", name := "standing", desc := "(II)I" } : Jvm.MethodName)) ∈ gz_T := gz_sel 18 (by decide +kernel) rfl
theorem dX9_canBeDrawn_0 : decode cX9_canBeDrawn 0 = .ok (.aload_n 0, 1) := by decide +kernel
theorem dX9_canBeDrawn_1 : decode cX9_canBeDrawn 1 = .ok (.iload_n 1, 1) := by decide +kernel
theorem dX9_canBeDrawn_2 : decode cX9_canBeDrawn 2 = .ok (.invokevirtual 144, 3) := by decide +kernel
theorem dX9_canBeDrawn_5 : decode cX9_canBeDrawn 5 = .ok (.ifCond .eq 38, 3) := by decide +kernel
theorem dX9_canBeDrawn_8 : decode cX9_canBeDrawn 8 = .ok (.iload_n 2, 1) := by decide +kernel
theorem dX9_canBeDrawn_9 : decode cX9_canBeDrawn 9 = .ok (.invokestatic 151, 3) := by decide +kernel
theorem dX9_canBeDrawn_12 : decode cX9_canBeDrawn 12 = .ok (.ifCond .eq 31, 3) := by decide +kernel
theorem dX9_canBeDrawn_15 : decode cX9_canBeDrawn 15 = .ok (.iload_n 3, 1) := by decide +kernel
theorem dX9_canBeDrawn_16 : decode cX9_canBeDrawn 16 = .ok (.iconst 1, 1) := by decide +kernel
theorem dX9_canBeDrawn_17 : decode cX9_canBeDrawn 17 = .ok (.sipush 1000, 3) := by decide +kernel
theorem dX9_canBeDrawn_20 : decode cX9_canBeDrawn 20 = .ok (.invokestatic 100, 3) := by decide +kernel
theorem dX9_canBeDrawn_23 : decode cX9_canBeDrawn 23 = .ok (.ifCond .eq 20, 3) := by decide +kernel
theorem dX9_canBeDrawn_26 : decode cX9_canBeDrawn 26 = .ok (.aload_n 0, 1) := by decide +kernel
theorem dX9_canBeDrawn_27 : decode cX9_canBeDrawn 27 = .ok (.getfield 49, 3) := by decide +kernel
theorem dX9_canBeDrawn_30 : decode cX9_canBeDrawn 30 = .ok (.getfield 249, 3) := by decide +kernel
theorem dX9_canBeDrawn_33 : decode cX9_canBeDrawn 33 = .ok (.sipush 300, 3) := by decide +kernel
theorem dX9_canBeDrawn_36 : decode cX9_canBeDrawn 36 = .ok (.if_icmp .ge 7, 3) := by decide +kernel
theorem dX9_canBeDrawn_39 : decode cX9_canBeDrawn 39 = .ok (.iconst 1, 1) := by decide +kernel
theorem dX9_canBeDrawn_40 : decode cX9_canBeDrawn 40 = .ok (.goto 4, 3) := by decide +kernel
theorem dX9_canBeDrawn_43 : decode cX9_canBeDrawn 43 = .ok (.iconst 0, 1) := by decide +kernel
theorem dX9_canBeDrawn_44 : decode cX9_canBeDrawn 44 = .ok (.ireturn, 1) := by decide +kernel
theorem dX9_may_0 : decode cX9_may 0 = .ok (.aload_n 0, 1) := by decide +kernel
theorem dX9_may_1 : decode cX9_may 1 = .ok (.iload_n 1, 1) := by decide +kernel
theorem dX9_may_2 : decode cX9_may 2 = .ok (.invokevirtual 144, 3) := by decide +kernel
theorem dX9_may_5 : decode cX9_may 5 = .ok (.ifCond .eq 10, 3) := by decide +kernel
theorem dX9_may_8 : decode cX9_may 8 = .ok (.iload_n 2, 1) := by decide +kernel
theorem dX9_may_9 : decode cX9_may 9 = .ok (.invokestatic 151, 3) := by decide +kernel
theorem dX9_may_12 : decode cX9_may 12 = .ok (.ifCond .ne 5, 3) := by decide +kernel
theorem dX9_may_15 : decode cX9_may 15 = .ok (.iconst (-1), 1) := by decide +kernel
theorem dX9_may_16 : decode cX9_may 16 = .ok (.ireturn, 1) := by decide +kernel
theorem dX9_may_17 : decode cX9_may 17 = .ok (.aload_n 0, 1) := by decide +kernel
theorem dX9_may_18 : decode cX9_may 18 = .ok (.iload_n 1, 1) := by decide +kernel
theorem dX9_may_19 : decode cX9_may 19 = .ok (.iload_n 2, 1) := by decide +kernel
theorem dX9_may_20 : decode cX9_may 20 = .ok (.invokevirtual 154, 3) := by decide +kernel
theorem dX9_may_23 : decode cX9_may 23 = .ok (.ireturn, 1) := by decide +kernel
theorem dX9_standing_0 : decode cX9_standing 0 = .ok (.aload_n 0, 1) := by decide +kernel
theorem dX9_standing_1 : decode cX9_standing 1 = .ok (.getfield 42, 3) := by decide +kernel
theorem dX9_standing_4 : decode cX9_standing 4 = .ok (.aload_n 0, 1) := by decide +kernel
theorem dX9_standing_5 : decode cX9_standing 5 = .ok (.getfield 63, 3) := by decide +kernel
theorem dX9_standing_8 : decode cX9_standing 8 = .ok (.iload_n 1, 1) := by decide +kernel
theorem dX9_standing_9 : decode cX9_standing 9 = .ok (.iload_n 2, 1) := by decide +kernel
theorem dX9_standing_10 : decode cX9_standing 10 = .ok (.invokevirtual 258, 3) := by decide +kernel
theorem dX9_standing_13 : decode cX9_standing 13 = .ok (.ifCond .eq 5, 3) := by decide +kernel
theorem dX9_standing_16 : decode cX9_standing 16 = .ok (.iconst 1, 1) := by decide +kernel
theorem dX9_standing_17 : decode cX9_standing 17 = .ok (.ireturn, 1) := by decide +kernel
theorem dX9_standing_18 : decode cX9_standing 18 = .ok (.aload_n 0, 1) := by decide +kernel
theorem dX9_standing_19 : decode cX9_standing 19 = .ok (.getfield 42, 3) := by decide +kernel
theorem dX9_standing_22 : decode cX9_standing 22 = .ok (.aload_n 0, 1) := by decide +kernel
theorem dX9_standing_23 : decode cX9_standing 23 = .ok (.getfield 63, 3) := by decide +kernel
theorem dX9_standing_26 : decode cX9_standing 26 = .ok (.iload_n 1, 1) := by decide +kernel
theorem dX9_standing_27 : decode cX9_standing 27 = .ok (.iload_n 2, 1) := by decide +kernel
theorem dX9_standing_28 : decode cX9_standing 28 = .ok (.invokevirtual 167, 3) := by decide +kernel
theorem dX9_standing_31 : decode cX9_standing 31 = .ok (.iconst (-1), 1) := by decide +kernel
theorem dX9_standing_32 : decode cX9_standing 32 = .ok (.if_icmp .ne 7, 3) := by decide +kernel
theorem dX9_standing_35 : decode cX9_standing 35 = .ok (.iconst 0, 1) := by decide +kernel
theorem dX9_standing_36 : decode cX9_standing 36 = .ok (.goto 4, 3) := by decide +kernel
theorem dX9_standing_39 : decode cX9_standing 39 = .ok (.iconst 2, 1) := by decide +kernel
theorem dX9_standing_40 : decode cX9_standing 40 = .ok (.ireturn, 1) := by decide +kernel
set_option maxHeartbeats 4000000 in
set_option maxRecDepth 100000 in
/-- WellCourt.standing -/
theorem s_standing (l : Launch) (G : va_G) (cy : Nat → ClassId) (sK sV : Nat → Nat) (ad : Nat → Nat → Nat) (sz : Nat) (st : gS) (hB : gBd bX st) (x : Int32) (y : Int32) (Xx : Int) (Xy : Int) (kx : x.toInt = Xx) (ky : y.toInt = Xy) (hx0 : 0 ≤ Xx) (hx1 : Xx < 6) (rs : List Rl) (hLa : LXa rs st (st 0 0 7).toNatClampNeg) (hwf : ∀ r ∈ rs, wfR r) : gsMi l yX9_standing cX9_standing 3 (some .int) ({ frames := 3, cells := 0, slots := 0, locals := 66 } : Room) G cy sK sV (shX cy ad) cnX ad sz [.ref (ad 0 0), .int x, .int y] st (fun (r : Int32) (u : gS) => gBN bX kX [] st u ∧ ((standI (rtC rs st 15 x.toNatClampNeg Xy) (gstT rs Xy Xx (st 15 15 x.toNatClampNeg).toInt) r.toInt))) := by
  refine gs_start (fun A => gsQi G (shX cy ad) cnX ad _ A) (by decide) (Nat.le_of_ble_eq_true rfl) ?_
  intro p e s m below meth c A ls H hx hb hr hml hlocks hown hts hK hov hE hI hM hm hS hA hl
  have hl : lv_has ls 3 [(0, .ref (ad 0 0)), (1, .int x), (2, .int y)] := hl
  have hB_st : gBN bX kX [] st st := gBN.rf hB
  refine lv_aload_n hx hb dX9_standing_0 rfl (lv_at hl 0 rfl) ?_
  refine gs_get (C := RX9) (T := TX9) (N := 12) hx hb hts inX9 hown hK hM 0 0 4 (by decide) rfl rfl (by decide) (hts _ gm_295) (fun _ h9 => h9) rfl dX9_standing_1 ?_
  refine lv_aload_n hx hb dX9_standing_4 rfl (lv_at hl 0 rfl) ?_
  refine gs_get (C := RX9) (T := TX9) (N := 12) hx hb hts inX9 hown hK hM 0 0 7 (by decide) rfl rfl (by decide) (hts _ gm_298) (fun _ h9 => h9) rfl dX9_standing_5 ?_
  have h_1 : (0 : Int) ≤ (st 0 0 7).toInt ∧ (st 0 0 7).toInt ≤ (1 : Int) := hB_st.1 0 0 7
  refine lv_iload_n hx hb dX9_standing_8 rfl (lv_at hl 1 rfl) ?_
  refine lv_iload_n hx hb dX9_standing_9 rfl (lv_at hl 2 rfl) ?_
  refine gs_calli (va_runV (As := [.ref (ad 25 ((st 0 0 7).toNatClampNeg)), .int x, .int y]) (rest := []) ⟨hx, hb, hml, hown, hts⟩ (s_X1_isRight l G cy sK sV ad H.size st hB_st.1 15 (st 0 0 7) x y x.toInt y.toInt rfl rfl (by decide) h_1 (by first | decide | omega) (by first | decide | omega) rs hLa.2.1 hLa.2.2.1 hwf) ⟨(gz_cb (n := 3) hts gm_605 gm_7 gm_608 ⟨by decide +kernel, by decide +kernel, by decide +kernel⟩ ⟨Nat.le_of_ble_eq_true rfl, Nat.le_of_ble_eq_true rfl⟩), hts _ gm_606, hts _ gm_607⟩ (gs_preV hK hov hE hI hM hm hS hA 12 15 (by decide) rfl rfl) rfl rfl hl.1 rfl (lv_room (Nat.le_of_ble_eq_true rfl)) dX9_standing_10 ⟨Nat.le_of_ble_eq_true rfl, Nat.le_of_ble_eq_true rfl⟩) hm hS hA (fun r_2 st_2 H locs hw_2 hM hS => ?_)
  obtain ⟨n_2, hw_2⟩ := hw_2
  have n_2 := gBN.nil n_2
  subst n_2
  rcases hw_2 with ⟨rfl, hw_2_0⟩ | ⟨rfl, hw_2_0⟩
  · skip
    refine lv_if_eq (tgt := 18) hx hb dX9_standing_13 (by decide) (fun h9 => absurd h9 (by decide)) (fun _ => ?_)
    refine lv_iconst (v := 1) hx hb dX9_standing_16 (by decide) ?_
    exact gs_iret hx hb hr hlocks hM hS rfl ⟨hB_st, (Or.inl ⟨(by have h9 := hw_2_0; rw [ky] at h9; exact h9), by decide⟩)⟩ (by exact Nat.le_refl _) (by exact Nat.le_refl _) dX9_standing_17
  · skip
    refine lv_if_eq (tgt := 18) hx hb dX9_standing_13 (by decide) (fun _ => ?_) (fun h9 => absurd (by decide) h9)
    refine lv_aload_n hx hb dX9_standing_18 rfl (lv_at hl 0 rfl) ?_
    refine gs_get (C := RX9) (T := TX9) (N := 12) hx hb hts inX9 hown hK hM 0 0 4 (by decide) rfl rfl (by decide) (hts _ gm_295) (fun _ h9 => h9) rfl dX9_standing_19 ?_
    refine lv_aload_n hx hb dX9_standing_22 rfl (lv_at hl 0 rfl) ?_
    refine gs_get (C := RX9) (T := TX9) (N := 12) hx hb hts inX9 hown hK hM 0 0 7 (by decide) rfl rfl (by decide) (hts _ gm_298) (fun _ h9 => h9) rfl dX9_standing_23 ?_
    have h_3 : (0 : Int) ≤ (st 0 0 7).toInt ∧ (st 0 0 7).toInt ≤ (1 : Int) := hB_st.1 0 0 7
    refine lv_iload_n hx hb dX9_standing_26 rfl (lv_at hl 1 rfl) ?_
    refine lv_iload_n hx hb dX9_standing_27 rfl (lv_at hl 2 rfl) ?_
    refine gs_calli (va_runV (As := [.ref (ad 25 ((st 0 0 7).toNatClampNeg)), .int x, .int y]) (rest := []) ⟨hx, hb, hml, hown, hts⟩ (s_X1_guestMany l G cy sK sV ad H.size st hB_st.1 15 (st 0 0 7) x y x.toInt y.toInt rfl rfl (by decide) h_3 (by first | decide | omega) (by first | decide | omega) rs hLa.2.2.2.2) ⟨(gz_cb (n := 3) hts gm_618 gm_7 gm_621 ⟨by decide +kernel, by decide +kernel, by decide +kernel⟩ ⟨Nat.le_of_ble_eq_true rfl, Nat.le_of_ble_eq_true rfl⟩), hts _ gm_619, hts _ gm_620⟩ (gs_preV hK hov hE hI hM hm hS hA 12 15 (by decide) rfl rfl) rfl rfl hl.1 rfl (lv_room (Nat.le_of_ble_eq_true rfl)) dX9_standing_28 ⟨Nat.le_of_ble_eq_true rfl, Nat.le_of_ble_eq_true rfl⟩) hm hS hA (fun r_4 st_4 H locs hw_4 hM hS => ?_)
    obtain ⟨n_4, hw_4⟩ := hw_4
    have n_4 := gBN.nil n_4
    subst n_4
    have hw_4_0 := hw_4
    refine lv_iconst (v := (-1)) hx hb dX9_standing_31 (by decide) ?_
    refine lv_icmp_ne (tgt := 39) hx hb dX9_standing_32 (by decide) (fun c_5 => ?_) (fun c_5 => ?_)
    · have ic_5 := gz_ne (rfl : r_4.toInt = r_4.toInt) (by decide : ((-1) : Int32).toInt = -1) c_5
      refine lv_iconst (v := 2) hx hb dX9_standing_39 (by decide) ?_
      exact gs_iret hx hb hr hlocks hM hS rfl ⟨hB_st, (Or.inr ⟨(by have h9 := hw_2_0; rw [ky] at h9; exact h9), (by have h8 := hw_4_0; rw [kx, ky] at h8; have h7 : gstT rs Xy Xx (st 15 15 x.toNatClampNeg).toInt = -1 ∨ 0 ≤ gstT rs Xy Xx (st 15 15 x.toNatClampNeg).toInt := gstT_rng hwf; first | exact Or.inl ⟨by omega, by decide⟩ | exact Or.inr ⟨by omega, by decide⟩)⟩)⟩ (by exact Nat.le_refl _) (by exact Nat.le_refl _) dX9_standing_40
    · have ic_5 := gz_eqn (rfl : r_4.toInt = r_4.toInt) (by decide : ((-1) : Int32).toInt = -1) c_5
      refine lv_iconst (v := 0) hx hb dX9_standing_35 (by decide) ?_
      refine lv_goto (tgt := 40) hx hb dX9_standing_36 (by decide) ?_
      exact gs_iret hx hb hr hlocks hM hS rfl ⟨hB_st, (Or.inr ⟨(by have h9 := hw_2_0; rw [ky] at h9; exact h9), (by have h8 := hw_4_0; rw [kx, ky] at h8; have h7 : gstT rs Xy Xx (st 15 15 x.toNatClampNeg).toInt = -1 ∨ 0 ≤ gstT rs Xy Xx (st 15 15 x.toNatClampNeg).toInt := gstT_rng hwf; first | exact Or.inl ⟨by omega, by decide⟩ | exact Or.inr ⟨by omega, by decide⟩)⟩)⟩ (by exact Nat.le_refl _) (by exact Nat.le_refl _) dX9_standing_40

set_option maxHeartbeats 4000000 in
set_option maxRecDepth 100000 in
/-- WellCourt.may -/
theorem s_may (l : Launch) (G : va_G) (cy : Nat → ClassId) (sK sV : Nat → Nat) (ad : Nat → Nat → Nat) (sz : Nat) (st : gS) (hB : gBd bX st) (x : Int32) (y : Int32) (Xx : Int) (Xy : Int) (kx : x.toInt = Xx) (ky : y.toInt = Xy) (rs : List Rl) (hLa : LXa rs st (st 0 0 7).toNatClampNeg) (hwf : ∀ r ∈ rs, wfR r) : gsMi l yX9_may cX9_may 3 (some .int) ({ frames := 4, cells := 0, slots := 0, locals := 88 } : Room) G cy sK sV (shX cy ad) cnX ad sz [.ref (ad 0 0), .int x, .int y] st (fun (r : Int32) (u : gS) => gBN bX kX [] st u ∧ ((((0 ≤ Xx ∧ Xx ≤ 5 ∧ 0 < (st 5 0 x.toNatClampNeg).toInt ∧ 0 ≤ Xy ∧ Xy ≤ 5) ∧ standI (rtC rs st 15 x.toNatClampNeg Xy) (gstT rs Xy Xx (st 15 15 x.toNatClampNeg).toInt) r.toInt) ∨ (¬ (0 ≤ Xx ∧ Xx ≤ 5 ∧ 0 < (st 5 0 x.toNatClampNeg).toInt ∧ 0 ≤ Xy ∧ Xy ≤ 5) ∧ r.toInt = -1)))) := by
  refine gs_start (fun A => gsQi G (shX cy ad) cnX ad _ A) (by decide) (Nat.le_of_ble_eq_true rfl) ?_
  intro p e s m below meth c A ls H hx hb hr hml hlocks hown hts hK hov hE hI hM hm hS hA hl
  have hl : lv_has ls 3 [(0, .ref (ad 0 0)), (1, .int x), (2, .int y)] := hl
  have hB_st : gBN bX kX [] st st := gBN.rf hB
  refine lv_aload_n hx hb dX9_may_0 rfl (lv_at hl 0 rfl) ?_
  refine lv_iload_n hx hb dX9_may_1 rfl (lv_at hl 1 rfl) ?_
  refine gs_calli (va_runV (As := [.int x]) (rest := []) ⟨hx, hb, hml, hown, hts⟩ (s_isWellThere l G cy sK sV ad H.size st hB_st.1 x x.toInt rfl ) ⟨(gz_cb (n := 1) hts gm_587 gm_1 gm_590 ⟨by decide +kernel, by decide +kernel, by decide +kernel⟩ ⟨Nat.le_of_ble_eq_true rfl, Nat.le_of_ble_eq_true rfl⟩), hts _ gm_589, hts _ gs_17⟩ (gs_preV hK hov hE hI hM hm hS hA 0 0 (by decide) rfl rfl) rfl rfl hl.1 rfl (lv_room (Nat.le_of_ble_eq_true rfl)) dX9_may_2 ⟨Nat.le_of_ble_eq_true rfl, Nat.le_of_ble_eq_true rfl⟩) hm hS hA (fun r_1 st_1 H locs hw_1 hM hS => ?_)
  obtain ⟨n_1, hw_1⟩ := hw_1
  have n_1 := gBN.nil n_1
  subst n_1
  rcases hw_1 with ⟨rfl, hw_1_0, hw_1_1, hw_1_2⟩ | ⟨rfl, hw_1_0⟩
  · skip
    refine lv_if_eq (tgt := 15) hx hb dX9_may_5 (by decide) (fun h9 => absurd h9 (by decide)) (fun _ => ?_)
    refine lv_iload_n hx hb dX9_may_8 rfl (lv_at hl 2 rfl) ?_
    refine gs_calli (va_runS (As := [.int y]) (rest := []) ⟨hx, hb, hml, hown, hts⟩ (s_isClan l G cy sK sV ad H.size st hB_st.1 y y.toInt rfl ) ⟨(gz_cb (n := 1) hts gm_600 gm_1 gm_487 ⟨by decide +kernel, by decide +kernel, by decide +kernel⟩ ⟨Nat.le_of_ble_eq_true rfl, Nat.le_of_ble_eq_true rfl⟩), hts _ gm_486⟩ (gs_preS hK hov hE hI hM hm hS hA) rfl rfl hl.1 rfl (lv_room (Nat.le_of_ble_eq_true rfl)) dX9_may_9 ⟨Nat.le_of_ble_eq_true rfl, Nat.le_of_ble_eq_true rfl⟩) hm hS hA (fun r_2 st_2 H locs hw_2 hM hS => ?_)
    obtain ⟨n_2, hw_2⟩ := hw_2
    have n_2 := gBN.nil n_2
    subst n_2
    rcases hw_2 with ⟨rfl, hw_2_0, hw_2_1⟩ | ⟨rfl, hw_2_0⟩
    · skip
      refine lv_if_ne (tgt := 17) hx hb dX9_may_12 (by decide) (fun _ => ?_) (fun h9 => absurd h9 (by decide))
      refine lv_aload_n hx hb dX9_may_17 rfl (lv_at hl 0 rfl) ?_
      refine lv_iload_n hx hb dX9_may_18 rfl (lv_at hl 1 rfl) ?_
      refine lv_iload_n hx hb dX9_may_19 rfl (lv_at hl 2 rfl) ?_
      refine gs_calli (va_runV (As := [.int x, .int y]) (rest := []) ⟨hx, hb, hml, hown, hts⟩ (s_standing l G cy sK sV ad H.size st hB_st.1 x y x.toInt y.toInt rfl rfl (by first | decide | omega) (by first | decide | omega) rs hLa hwf) ⟨(gz_cb (n := 2) hts gm_601 gm_1 gm_604 ⟨by decide +kernel, by decide +kernel, by decide +kernel⟩ ⟨Nat.le_of_ble_eq_true rfl, Nat.le_of_ble_eq_true rfl⟩), hts _ gm_603, hts _ gs_18⟩ (gs_preV hK hov hE hI hM hm hS hA 0 0 (by decide) rfl rfl) rfl rfl hl.1 rfl (lv_room (Nat.le_of_ble_eq_true rfl)) dX9_may_20 ⟨Nat.le_of_ble_eq_true rfl, Nat.le_of_ble_eq_true rfl⟩) hm hS hA (fun r_3 st_3 H locs hw_3 hM hS => ?_)
      obtain ⟨n_3, hw_3⟩ := hw_3
      have n_3 := gBN.nil n_3
      subst n_3
      have hw_3_0 := hw_3
      exact gs_iret hx hb hr hlocks hM hS rfl ⟨hB_st, (Or.inl ⟨⟨by omega, by omega, by omega, by omega, by omega⟩, (by have h9 := hw_3_0; rw [kx, ky] at h9; exact h9)⟩)⟩ (by exact Nat.le_refl _) (by exact Nat.le_refl _) dX9_may_23
    · skip
      refine lv_if_ne (tgt := 17) hx hb dX9_may_12 (by decide) (fun h9 => absurd (by decide) h9) (fun _ => ?_)
      refine lv_iconst (v := (-1)) hx hb dX9_may_15 (by decide) ?_
      exact gs_iret hx hb hr hlocks hM hS rfl ⟨hB_st, (Or.inr ⟨by omega, by decide⟩)⟩ (by exact Nat.le_refl _) (by exact Nat.le_refl _) dX9_may_16
  · skip
    refine lv_if_eq (tgt := 15) hx hb dX9_may_5 (by decide) (fun _ => ?_) (fun h9 => absurd (by decide) h9)
    refine lv_iconst (v := (-1)) hx hb dX9_may_15 (by decide) ?_
    exact gs_iret hx hb hr hlocks hM hS rfl ⟨hB_st, (Or.inr ⟨by omega, by decide⟩)⟩ (by exact Nat.le_refl _) (by exact Nat.le_refl _) dX9_may_16

set_option maxHeartbeats 4000000 in
set_option maxRecDepth 100000 in
/-- WellCourt.canBeDrawn -/
theorem s_canBeDrawn (l : Launch) (G : va_G) (cy : Nat → ClassId) (sK sV : Nat → Nat) (ad : Nat → Nat → Nat) (sz : Nat) (st : gS) (hB : gBd bX st) (x : Int32) (y : Int32) (w : Int32) (Xx : Int) (Xy : Int) (Xw : Int) (kx : x.toInt = Xx) (ky : y.toInt = Xy) (kw : w.toInt = Xw) : gsMi l yX9_canBeDrawn cX9_canBeDrawn 4 (some .boolean) ({ frames := 2, cells := 0, slots := 0, locals := 42 } : Room) G cy sK sV (shX cy ad) cnX ad sz [.ref (ad 0 0), .int x, .int y, .int w] st (fun (r : Int32) (u : gS) => gBN bX kX [] st u ∧ ((r = 1 ∧ (0 ≤ Xx) ∧ (Xx < 6) ∧ (0 < (st 5 0 x.toNatClampNeg).toInt) ∧ (0 ≤ Xy) ∧ (Xy ≤ 5) ∧ (1 ≤ Xw) ∧ (Xw ≤ 1000) ∧ ((st 16 0 1).toInt < 300)) ∨ (r = 0 ∧ (¬ (0 ≤ Xx ∧ Xx ≤ 5 ∧ 0 < (st 5 0 x.toNatClampNeg).toInt ∧ 0 ≤ Xy ∧ Xy ≤ 5 ∧ 1 ≤ Xw ∧ Xw ≤ 1000 ∧ (st 16 0 1).toInt < 300))))) := by
  refine gs_start (fun A => gsQi G (shX cy ad) cnX ad _ A) (by decide) (Nat.le_of_ble_eq_true rfl) ?_
  intro p e s m below meth c A ls H hx hb hr hml hlocks hown hts hK hov hE hI hM hm hS hA hl
  have hl : lv_has ls 4 [(0, .ref (ad 0 0)), (1, .int x), (2, .int y), (3, .int w)] := hl
  have hB_st : gBN bX kX [] st st := gBN.rf hB
  refine lv_aload_n hx hb dX9_canBeDrawn_0 rfl (lv_at hl 0 rfl) ?_
  refine lv_iload_n hx hb dX9_canBeDrawn_1 rfl (lv_at hl 1 rfl) ?_
  refine gs_calli (va_runV (As := [.int x]) (rest := []) ⟨hx, hb, hml, hown, hts⟩ (s_isWellThere l G cy sK sV ad H.size st hB_st.1 x x.toInt rfl ) ⟨(gz_cb (n := 1) hts gm_587 gm_1 gm_590 ⟨by decide +kernel, by decide +kernel, by decide +kernel⟩ ⟨Nat.le_of_ble_eq_true rfl, Nat.le_of_ble_eq_true rfl⟩), hts _ gm_589, hts _ gs_17⟩ (gs_preV hK hov hE hI hM hm hS hA 0 0 (by decide) rfl rfl) rfl rfl hl.1 rfl (lv_room (Nat.le_of_ble_eq_true rfl)) dX9_canBeDrawn_2 ⟨Nat.le_of_ble_eq_true rfl, Nat.le_of_ble_eq_true rfl⟩) hm hS hA (fun r_1 st_1 H locs hw_1 hM hS => ?_)
  obtain ⟨n_1, hw_1⟩ := hw_1
  have n_1 := gBN.nil n_1
  subst n_1
  rcases hw_1 with ⟨rfl, hw_1_0, hw_1_1, hw_1_2⟩ | ⟨rfl, hw_1_0⟩
  · skip
    refine lv_if_eq (tgt := 43) hx hb dX9_canBeDrawn_5 (by decide) (fun h9 => absurd h9 (by decide)) (fun _ => ?_)
    refine lv_iload_n hx hb dX9_canBeDrawn_8 rfl (lv_at hl 2 rfl) ?_
    refine gs_calli (va_runS (As := [.int y]) (rest := []) ⟨hx, hb, hml, hown, hts⟩ (s_isClan l G cy sK sV ad H.size st hB_st.1 y y.toInt rfl ) ⟨(gz_cb (n := 1) hts gm_600 gm_1 gm_487 ⟨by decide +kernel, by decide +kernel, by decide +kernel⟩ ⟨Nat.le_of_ble_eq_true rfl, Nat.le_of_ble_eq_true rfl⟩), hts _ gm_486⟩ (gs_preS hK hov hE hI hM hm hS hA) rfl rfl hl.1 rfl (lv_room (Nat.le_of_ble_eq_true rfl)) dX9_canBeDrawn_9 ⟨Nat.le_of_ble_eq_true rfl, Nat.le_of_ble_eq_true rfl⟩) hm hS hA (fun r_2 st_2 H locs hw_2 hM hS => ?_)
    obtain ⟨n_2, hw_2⟩ := hw_2
    have n_2 := gBN.nil n_2
    subst n_2
    rcases hw_2 with ⟨rfl, hw_2_0, hw_2_1⟩ | ⟨rfl, hw_2_0⟩
    · skip
      refine lv_if_eq (tgt := 43) hx hb dX9_canBeDrawn_12 (by decide) (fun h9 => absurd h9 (by decide)) (fun _ => ?_)
      refine lv_iload_n hx hb dX9_canBeDrawn_15 rfl (lv_at hl 3 rfl) ?_
      refine lv_iconst (v := 1) hx hb dX9_canBeDrawn_16 (by decide) ?_
      refine lv_sipush (v := 1000) hx hb dX9_canBeDrawn_17 (by decide) ?_
      refine gs_calli (va_runS (As := [.int w, .int 1, .int 1000]) (rest := []) ⟨hx, hb, hml, hown, hts⟩ (s_isWithin l G cy sK sV ad H.size st hB_st.1 w (1 : Int32) (1000 : Int32) w.toInt 1 1000 rfl (by decide) (by decide) ) ⟨(gz_cb (n := 3) hts gm_351 gm_1 gm_353 ⟨by decide +kernel, by decide +kernel, by decide +kernel⟩ ⟨Nat.le_of_ble_eq_true rfl, Nat.le_of_ble_eq_true rfl⟩), hts _ gm_352⟩ (gs_preS hK hov hE hI hM hm hS hA) rfl rfl hl.1 rfl (lv_room (Nat.le_of_ble_eq_true rfl)) dX9_canBeDrawn_20 ⟨Nat.le_of_ble_eq_true rfl, Nat.le_of_ble_eq_true rfl⟩) hm hS hA (fun r_3 st_3 H locs hw_3 hM hS => ?_)
      obtain ⟨n_3, hw_3⟩ := hw_3
      have n_3 := gBN.nil n_3
      subst n_3
      rcases hw_3 with ⟨rfl, hw_3_0, hw_3_1⟩ | ⟨rfl, hw_3_0⟩
      · skip
        refine lv_if_eq (tgt := 43) hx hb dX9_canBeDrawn_23 (by decide) (fun h9 => absurd h9 (by decide)) (fun _ => ?_)
        refine lv_aload_n hx hb dX9_canBeDrawn_26 rfl (lv_at hl 0 rfl) ?_
        refine gs_get (C := RX9) (T := TX9) (N := 12) hx hb hts inX9 hown hK hM 0 0 5 (by decide) rfl rfl (by decide) (hts _ gm_296) (fun _ h9 => h9) rfl dX9_canBeDrawn_27 ?_
        refine gs_getN (host := "WellCourt") (C := RX5) (T := TX5) (N := 2) hx hb hts inX5 hown hK hM 16 0 1 (by decide) rfl rfl (by decide) (va_Nw.use rfl (hov.2.2 _ gn_144)) (fun _ h9 => h9) rfl dX9_canBeDrawn_30 ?_
        have bf_4 : (0 : Int) ≤ (st 16 0 1).toInt ∧ (st 16 0 1).toInt ≤ (300 : Int) := hB_st.1 16 0 1
        refine lv_sipush (v := 300) hx hb dX9_canBeDrawn_33 (by decide) ?_
        refine lv_icmp_ge (tgt := 43) hx hb dX9_canBeDrawn_36 (by decide) (fun c_5 => ?_) (fun c_5 => ?_)
        · have ic_5 := gz_le (by decide : (300 : Int32).toInt = 300) (rfl : (st 16 0 1).toInt = (st 16 0 1).toInt) c_5
          refine lv_iconst (v := 0) hx hb dX9_canBeDrawn_43 (by decide) ?_
          exact gs_iret hx hb hr hlocks hM hS (by decide) ⟨hB_st, (Or.inr (⟨rfl, (by have hl0 : (0 : Int32).toInt = 0 := (by decide); have hb1 : (0 : Int) ≤ (st 16 0 1).toInt ∧ (st 16 0 1).toInt ≤ (300 : Int) := hB_st.1 16 0 1; omega)⟩))⟩ (by exact Nat.le_refl _) (by exact Nat.le_refl _) dX9_canBeDrawn_44
        · have ic_5 := gz_nle (by decide : (300 : Int32).toInt = 300) (rfl : (st 16 0 1).toInt = (st 16 0 1).toInt) c_5
          refine lv_iconst (v := 1) hx hb dX9_canBeDrawn_39 (by decide) ?_
          refine lv_goto (tgt := 44) hx hb dX9_canBeDrawn_40 (by decide) ?_
          exact gs_iret hx hb hr hlocks hM hS (by decide) ⟨hB_st, (Or.inl (⟨rfl, (by have hl0 : (1 : Int32).toInt = 1 := (by decide); omega), (by have hl0 : (1 : Int32).toInt = 1 := (by decide); omega), (by have hl0 : (1 : Int32).toInt = 1 := (by decide); omega), (by have hl0 : (1 : Int32).toInt = 1 := (by decide); omega), (by have hl0 : (1 : Int32).toInt = 1 := (by decide); omega), (by have hl0 : (1 : Int32).toInt = 1 := (by decide); omega), (by have hl0 : (1 : Int32).toInt = 1 := (by decide); omega), (by have hl0 : (1 : Int32).toInt = 1 := (by decide); have hb1 : (0 : Int) ≤ (st 16 0 1).toInt ∧ (st 16 0 1).toInt ≤ (300 : Int) := hB_st.1 16 0 1; omega)⟩))⟩ (by exact Nat.le_refl _) (by exact Nat.le_refl _) dX9_canBeDrawn_44
      · skip
        refine lv_if_eq (tgt := 43) hx hb dX9_canBeDrawn_23 (by decide) (fun _ => ?_) (fun h9 => absurd (by decide) h9)
        refine lv_iconst (v := 0) hx hb dX9_canBeDrawn_43 (by decide) ?_
        exact gs_iret hx hb hr hlocks hM hS (by decide) ⟨hB_st, (Or.inr (⟨rfl, (by have hl0 : (0 : Int32).toInt = 0 := (by decide); have hb1 : (0 : Int) ≤ (st 16 0 1).toInt ∧ (st 16 0 1).toInt ≤ (300 : Int) := hB_st.1 16 0 1; omega)⟩))⟩ (by exact Nat.le_refl _) (by exact Nat.le_refl _) dX9_canBeDrawn_44
    · skip
      refine lv_if_eq (tgt := 43) hx hb dX9_canBeDrawn_12 (by decide) (fun _ => ?_) (fun h9 => absurd (by decide) h9)
      refine lv_iconst (v := 0) hx hb dX9_canBeDrawn_43 (by decide) ?_
      exact gs_iret hx hb hr hlocks hM hS (by decide) ⟨hB_st, (Or.inr (⟨rfl, (by have hl0 : (0 : Int32).toInt = 0 := (by decide); have hb1 : (0 : Int) ≤ (st 16 0 1).toInt ∧ (st 16 0 1).toInt ≤ (300 : Int) := hB_st.1 16 0 1; omega)⟩))⟩ (by exact Nat.le_refl _) (by exact Nat.le_refl _) dX9_canBeDrawn_44
  · skip
    refine lv_if_eq (tgt := 43) hx hb dX9_canBeDrawn_5 (by decide) (fun _ => ?_) (fun h9 => absurd (by decide) h9)
    refine lv_iconst (v := 0) hx hb dX9_canBeDrawn_43 (by decide) ?_
    exact gs_iret hx hb hr hlocks hM hS (by decide) ⟨hB_st, (Or.inr (⟨rfl, (by have hl0 : (0 : Int32).toInt = 0 := (by decide); have hb1 : (0 : Int) ≤ (st 16 0 1).toInt ∧ (st 16 0 1).toInt ≤ (300 : Int) := hB_st.1 16 0 1; omega)⟩))⟩ (by exact Nat.le_refl _) (by exact Nat.le_refl _) dX9_canBeDrawn_44
