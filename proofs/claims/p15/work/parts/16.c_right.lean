theorem gm_609 : (Jvm.Cond.methodLink "WellCourt$Day" (61 : Nat) ({ cls := "WellCourt$Law", name := "areWed", desc := "(II)Z" } : Jvm.MethodName)) ∈ gz_T := gz_at 609 (by decide +kernel) rfl
theorem gm_610 : (Jvm.Cond.instanceMethod ({ cls := "WellCourt$Law", name := "areWed", desc := "(II)Z" } : Jvm.MethodName)) ∈ gz_T := gz_at 610 (by decide +kernel) rfl
theorem gm_611 : (Jvm.Cond.selects "WellCourt$Law" ({ cls := "WellCourt$Law", name := "areWed", desc := "(II)Z" } : Jvm.MethodName) ({ cls := "WellCourt$Law", name := "areWed", desc := "(II)Z" } : Jvm.MethodName)) ∈ gz_T := gz_at 611 (by decide +kernel) rfl
theorem gm_612 : (Jvm.Cond.code ({ cls := "WellCourt$Law", name := "areWed", desc := "(II)Z" } : Jvm.MethodName) prog_6_method_10_code (3 : Nat) (Option.some Jvm.ClassFile.FieldType.boolean)) ∈ gz_T := gz_at 612 (by decide +kernel) rfl
theorem gm_614 : (Jvm.Cond.methodLink "WellCourt$Day" (65 : Nat) ({ cls := "WellCourt$Law", name := "leadsDry", desc := "(II)Z" } : Jvm.MethodName)) ∈ gz_T := gz_at 614 (by decide +kernel) rfl
theorem gm_615 : (Jvm.Cond.instanceMethod ({ cls := "WellCourt$Law", name := "leadsDry", desc := "(II)Z" } : Jvm.MethodName)) ∈ gz_T := gz_at 615 (by decide +kernel) rfl
theorem gm_616 : (Jvm.Cond.selects "WellCourt$Law" ({ cls := "WellCourt$Law", name := "leadsDry", desc := "(II)Z" } : Jvm.MethodName) ({ cls := "WellCourt$Law", name := "leadsDry", desc := "(II)Z" } : Jvm.MethodName)) ∈ gz_T := gz_at 616 (by decide +kernel) rfl
theorem gm_617 : (Jvm.Cond.code ({ cls := "WellCourt$Law", name := "leadsDry", desc := "(II)Z" } : Jvm.MethodName) prog_6_method_11_code (3 : Nat) (Option.some Jvm.ClassFile.FieldType.boolean)) ∈ gz_T := gz_at 617 (by decide +kernel) rfl
theorem gm_622 : (Jvm.Cond.methodLink "WellCourt$Day" (68 : Nat) ({ cls := "WellCourt$Law", name := "manyOfGuest", desc := "(III)I" } : Jvm.MethodName)) ∈ gz_T := gz_at 622 (by decide +kernel) rfl
theorem gm_623 : (Jvm.Cond.instanceMethod ({ cls := "WellCourt$Law", name := "manyOfGuest", desc := "(III)I" } : Jvm.MethodName)) ∈ gz_T := gz_at 623 (by decide +kernel) rfl
theorem gm_624 : (Jvm.Cond.selects "WellCourt$Law" ({ cls := "WellCourt$Law", name := "manyOfGuest", desc := "(III)I" } : Jvm.MethodName) ({ cls := "WellCourt$Law", name := "manyOfGuest", desc := "(III)I" } : Jvm.MethodName)) ∈ gz_T := gz_at 624 (by decide +kernel) rfl
theorem gm_625 : (Jvm.Cond.code ({ cls := "WellCourt$Law", name := "manyOfGuest", desc := "(III)I" } : Jvm.MethodName) prog_6_method_13_code (5 : Nat) (Option.some Jvm.ClassFile.FieldType.int)) ∈ gz_T := gz_at 625 (by decide +kernel) rfl
theorem dX1_guestMany_0 : decode cX1_guestMany 0 = .ok (.aload_n 1, 1) := by decide +kernel
theorem dX1_guestMany_1 : decode cX1_guestMany 1 = .ok (.iload_n 3, 1) := by decide +kernel
theorem dX1_guestMany_2 : decode cX1_guestMany 2 = .ok (.iload_n 2, 1) := by decide +kernel
theorem dX1_guestMany_3 : decode cX1_guestMany 3 = .ok (.aload_n 0, 1) := by decide +kernel
theorem dX1_guestMany_4 : decode cX1_guestMany 4 = .ok (.getfield 18, 3) := by decide +kernel
theorem dX1_guestMany_7 : decode cX1_guestMany 7 = .ok (.iload_n 2, 1) := by decide +kernel
theorem dX1_guestMany_8 : decode cX1_guestMany 8 = .ok (.iaload, 1) := by decide +kernel
theorem dX1_guestMany_9 : decode cX1_guestMany 9 = .ok (.invokevirtual 68, 3) := by decide +kernel
theorem dX1_guestMany_12 : decode cX1_guestMany 12 = .ok (.ireturn, 1) := by decide +kernel
theorem dX1_isRight_0 : decode cX1_isRight 0 = .ok (.aload_n 0, 1) := by decide +kernel
theorem dX1_isRight_1 : decode cX1_isRight 1 = .ok (.getfield 18, 3) := by decide +kernel
theorem dX1_isRight_4 : decode cX1_isRight 4 = .ok (.iload_n 2, 1) := by decide +kernel
theorem dX1_isRight_5 : decode cX1_isRight 5 = .ok (.iaload, 1) := by decide +kernel
theorem dX1_isRight_6 : decode cX1_isRight 6 = .ok (.iload_n 3, 1) := by decide +kernel
theorem dX1_isRight_7 : decode cX1_isRight 7 = .ok (.if_icmp .eq 17, 3) := by decide +kernel
theorem dX1_isRight_10 : decode cX1_isRight 10 = .ok (.aload_n 1, 1) := by decide +kernel
theorem dX1_isRight_11 : decode cX1_isRight 11 = .ok (.aload_n 0, 1) := by decide +kernel
theorem dX1_isRight_12 : decode cX1_isRight 12 = .ok (.getfield 18, 3) := by decide +kernel
theorem dX1_isRight_15 : decode cX1_isRight 15 = .ok (.iload_n 2, 1) := by decide +kernel
theorem dX1_isRight_16 : decode cX1_isRight 16 = .ok (.iaload, 1) := by decide +kernel
theorem dX1_isRight_17 : decode cX1_isRight 17 = .ok (.iload_n 3, 1) := by decide +kernel
theorem dX1_isRight_18 : decode cX1_isRight 18 = .ok (.invokevirtual 61, 3) := by decide +kernel
theorem dX1_isRight_21 : decode cX1_isRight 21 = .ok (.ifCond .eq 5, 3) := by decide +kernel
theorem dX1_isRight_24 : decode cX1_isRight 24 = .ok (.iconst 1, 1) := by decide +kernel
theorem dX1_isRight_25 : decode cX1_isRight 25 = .ok (.ireturn, 1) := by decide +kernel
theorem dX1_isRight_26 : decode cX1_isRight 26 = .ok (.iconst 0, 1) := by decide +kernel
theorem dX1_isRight_27 : decode cX1_isRight 27 = .ok (.istore 4, 2) := by decide +kernel
theorem dX1_isRight_29 : decode cX1_isRight 29 = .ok (.iload 4, 2) := by decide +kernel
theorem dX1_isRight_31 : decode cX1_isRight 31 = .ok (.bipush 6, 2) := by decide +kernel
theorem dX1_isRight_33 : decode cX1_isRight 33 = .ok (.if_icmp .ge 42, 3) := by decide +kernel
theorem dX1_isRight_36 : decode cX1_isRight 36 = .ok (.aload_n 0, 1) := by decide +kernel
theorem dX1_isRight_37 : decode cX1_isRight 37 = .ok (.getfield 18, 3) := by decide +kernel
theorem dX1_isRight_40 : decode cX1_isRight 40 = .ok (.iload 4, 2) := by decide +kernel
theorem dX1_isRight_42 : decode cX1_isRight 42 = .ok (.iaload, 1) := by decide +kernel
theorem dX1_isRight_43 : decode cX1_isRight 43 = .ok (.iload_n 3, 1) := by decide +kernel
theorem dX1_isRight_44 : decode cX1_isRight 44 = .ok (.if_icmp .ne 25, 3) := by decide +kernel
theorem dX1_isRight_47 : decode cX1_isRight 47 = .ok (.aload_n 0, 1) := by decide +kernel
theorem dX1_isRight_48 : decode cX1_isRight 48 = .ok (.getfield 15, 3) := by decide +kernel
theorem dX1_isRight_51 : decode cX1_isRight 51 = .ok (.iload 4, 2) := by decide +kernel
theorem dX1_isRight_53 : decode cX1_isRight 53 = .ok (.iaload, 1) := by decide +kernel
theorem dX1_isRight_54 : decode cX1_isRight 54 = .ok (.ifCond .ne 15, 3) := by decide +kernel
theorem dX1_isRight_57 : decode cX1_isRight 57 = .ok (.aload_n 1, 1) := by decide +kernel
theorem dX1_isRight_58 : decode cX1_isRight 58 = .ok (.iload 4, 2) := by decide +kernel
theorem dX1_isRight_60 : decode cX1_isRight 60 = .ok (.iload_n 2, 1) := by decide +kernel
theorem dX1_isRight_61 : decode cX1_isRight 61 = .ok (.invokevirtual 65, 3) := by decide +kernel
theorem dX1_isRight_64 : decode cX1_isRight 64 = .ok (.ifCond .eq 5, 3) := by decide +kernel
theorem dX1_isRight_67 : decode cX1_isRight 67 = .ok (.iconst 1, 1) := by decide +kernel
theorem dX1_isRight_68 : decode cX1_isRight 68 = .ok (.ireturn, 1) := by decide +kernel
theorem dX1_isRight_69 : decode cX1_isRight 69 = .ok (.iinc 4 1, 3) := by decide +kernel
theorem dX1_isRight_72 : decode cX1_isRight 72 = .ok (.goto (-43), 3) := by decide +kernel
theorem dX1_isRight_75 : decode cX1_isRight 75 = .ok (.iconst 0, 1) := by decide +kernel
theorem dX1_isRight_76 : decode cX1_isRight 76 = .ok (.ireturn, 1) := by decide +kernel
set_option maxHeartbeats 4000000 in
set_option maxRecDepth 100000 in
/-- WellCourt$Day.isRight -/
theorem s_X1_isRight (l : Launch) (G : va_G) (cy : Nat → ClassId) (sK sV : Nat → Nat) (ad : Nat → Nat → Nat) (sz : Nat) (st : gS) (hB : gBd bX st) (i : Nat) (z : Int32) (x : Int32) (y : Int32) (Xx : Int) (Xy : Int) (kx : x.toInt = Xx) (ky : y.toInt = Xy) (hi_i : i < 16) (hz_z : (0 : Int) ≤ z.toInt ∧ z.toInt ≤ (1 : Int)) (hx0 : 0 ≤ Xx) (hx1 : Xx < 6) (rs : List Rl) (hLk : LXk rs st z.toNatClampNeg) (hLf : LXf rs st z.toNatClampNeg) (hwf : ∀ r ∈ rs, wfR r) : gsMi l yX1_isRight cX1_isRight 5 (some .boolean) ({ frames := 2, cells := 0, slots := 0, locals := 42 } : Room) G cy sK sV (shX cy ad) cnX ad sz [.ref (ad 12 i), .ref (ad 25 z.toNatClampNeg), .int x, .int y] st (fun (r : Int32) (u : gS) => gBN bX kX [] st u ∧ ((r = 1 ∧ (rtC rs st i x.toNatClampNeg Xy)) ∨ (r = 0 ∧ (¬ rtC rs st i x.toNatClampNeg Xy)))) := by
  refine gs_start (fun A => gsQi G (shX cy ad) cnX ad _ A) (by decide) (Nat.le_of_ble_eq_true rfl) ?_
  intro p e s m below meth c A ls H hx hb hr hml hlocks hown hts hK hov hE hI hM hm hS hA hl
  have hl : lv_has ls 5 [(0, .ref (ad 12 i)), (1, .ref (ad 25 z.toNatClampNeg)), (2, .int x), (3, .int y)] := hl
  have hB_st : gBN bX kX [] st st := gBN.rf hB
  generalize hQe : MQ below _ _ s _ _ A = Q
  refine lv_aload_n hx hb dX1_isRight_0 rfl (lv_at hl 0 rfl) ?_
  refine gs_get (C := RX1) (T := TX1) (N := 3) hx hb hts inX1 hown hK hM 12 i 2 hi_i rfl rfl (by decide) (hts _ gm_125) (fun _ h9 => h9) rfl dX1_isRight_1 ?_
  refine lv_iload_n hx hb dX1_isRight_4 rfl (lv_at hl 2 rfl) ?_
  refine gs_iald hx hb hK hM 15 i hi_i rfl (vp_in_iff.mpr ⟨by omega, by omega⟩) dX1_isRight_5 ?_
  refine lv_topi (fun x_1 ex_1 => ?_)
  have qx_1 : x_1.toInt = (st 15 i (x.toNatClampNeg)).toInt := congrArg Int32.toInt ex_1
  refine lv_iload_n hx hb dX1_isRight_6 rfl (lv_at hl 3 rfl) ?_
  refine lv_icmp_eq (tgt := 24) hx hb dX1_isRight_7 (by decide) (fun c_2 => ?_) (fun c_2 => ?_)
  · have ic_2 := gz_eq (rfl : x_1.toInt = x_1.toInt) (rfl : y.toInt = y.toInt) c_2
    refine lv_iconst (v := 1) hx hb dX1_isRight_24 (by decide) ?_
    rw [← hQe]
    exact gs_iret hx hb hr hlocks hM hS (by decide) ⟨hB_st, (Or.inl ⟨rfl, Or.inl (by omega)⟩)⟩ (by exact Nat.le_refl _) (by exact Nat.le_refl _) dX1_isRight_25
  · have ic_2 := gz_ne (rfl : x_1.toInt = x_1.toInt) (rfl : y.toInt = y.toInt) c_2
    refine lv_aload_n hx hb dX1_isRight_10 rfl (lv_at hl 1 rfl) ?_
    refine lv_aload_n hx hb dX1_isRight_11 rfl (lv_at hl 0 rfl) ?_
    refine gs_get (C := RX1) (T := TX1) (N := 3) hx hb hts inX1 hown hK hM 12 i 2 hi_i rfl rfl (by decide) (hts _ gm_125) (fun _ h9 => h9) rfl dX1_isRight_12 ?_
    refine lv_iload_n hx hb dX1_isRight_15 rfl (lv_at hl 2 rfl) ?_
    refine gs_iald hx hb hK hM 15 i hi_i rfl (vp_in_iff.mpr ⟨by omega, by omega⟩) dX1_isRight_16 ?_
    refine lv_topi (fun x_3 ex_3 => ?_)
    have qx_3 : x_3.toInt = (st 15 i (x.toNatClampNeg)).toInt := congrArg Int32.toInt ex_3
    refine lv_iload_n hx hb dX1_isRight_17 rfl (lv_at hl 3 rfl) ?_
    refine gs_calli (va_runV (As := [.int x_3, .int y]) (rest := []) ⟨hx, hb, hml, hown, hts⟩ (s_X4_areWed l G cy sK sV ad H.size st hB_st.1 z x_3 y x_3.toInt y.toInt rfl rfl hz_z rs hLk hwf) ⟨(gz_cb (n := 2) hts gm_609 gm_10 gm_612 ⟨by decide +kernel, by decide +kernel, by decide +kernel⟩ ⟨Nat.le_of_ble_eq_true rfl, Nat.le_of_ble_eq_true rfl⟩), hts _ gm_610, hts _ gm_611⟩ (gs_preV hK hov hE hI hM hm hS hA 25 z.toNatClampNeg (gs_sel hz_z) rfl rfl) rfl rfl hl.1 rfl (lv_room (Nat.le_of_ble_eq_true rfl)) dX1_isRight_18 ⟨Nat.le_of_ble_eq_true rfl, Nat.le_of_ble_eq_true rfl⟩) hm hS hA (fun r_4 st_4 H locs hw_4 hM hS => ?_)
    obtain ⟨n_4, hw_4⟩ := hw_4
    have n_4 := gBN.nil n_4
    subst n_4
    rcases hw_4 with ⟨rfl, hw_4_0⟩ | ⟨rfl, hw_4_0⟩
    · skip
      refine lv_if_eq (tgt := 26) hx hb dX1_isRight_21 (by decide) (fun h9 => absurd h9 (by decide)) (fun _ => ?_)
      refine lv_iconst (v := 1) hx hb dX1_isRight_24 (by decide) ?_
      rw [← hQe]
      exact gs_iret hx hb hr hlocks hM hS (by decide) ⟨hB_st, (Or.inl ⟨rfl, Or.inr (Or.inl (by have h9 := hw_4_0; rw [show x_3.toInt = (st 15 i x.toNatClampNeg).toInt from (by omega)] at h9; rw [← ky]; first | exact h9 | (rw [ky]; exact h9)))⟩)⟩ (by exact Nat.le_refl _) (by exact Nat.le_refl _) dX1_isRight_25
    · skip
      refine lv_if_eq (tgt := 26) hx hb dX1_isRight_21 (by decide) (fun _ => ?_) (fun h9 => absurd (by decide) h9)
      refine lv_iconst (v := 0) hx hb dX1_isRight_26 (by decide) ?_
      refine lv_istore (lv' := [(4, .int 0), (0, .ref (ad 12 i)), (1, .ref (ad 25 z.toNatClampNeg)), (2, .int x), (3, .int y)]) hx hb dX1_isRight_27 hl (by decide) rfl (fun ls hl => ?_)
      have lp5 : ∀ (n5 : Nat)  (y5_0 : Int32) (H : Heap) (locs : List Loc) (ls : Array Slot), (6 - y5_0.toInt).toNat < n5 →  (0 ≤ y5_0.toInt) → (noQ rs st i x.toNatClampNeg Xy y5_0.toInt) → gM G (shX cy ad) cnX ad st H → va_S A s.heap H locs → lv_has ls 5 [(4, .int y5_0), (0, .ref (ad 12 i)), (1, .ref (ad 25 z.toNatClampNeg)), (2, .int x), (3, .int y)] → W p l e ({ frames := 2, cells := 0, slots := 0, locals := 42 } : Room) s m [.ref (ad 12 i), .ref (ad 25 z.toNatClampNeg), .int x, .int y].toArray below meth c H locs 0 0 Q (F0 m 29 ls []) := by
        intro n5
        induction n5 with
        | zero => intro  y5_0 H locs ls h9; exact absurd h9 (Nat.not_lt_zero _)
        | succ n5 ih_5 =>
          intro  y5_0 H locs ls hme5  hv5_0 hv5_1 hM hS hl
          refine lv_iload hx hb dX1_isRight_29 (lv_at hl 0 rfl) ?_
          refine lv_bipush (v := 6) hx hb dX1_isRight_31 (by decide) ?_
          refine lv_icmp_ge (tgt := 75) hx hb dX1_isRight_33 (by decide) (fun c_6 => ?_) (fun c_6 => ?_)
          · have ic_6 := gz_le (by decide : (6 : Int32).toInt = 6) (rfl : y5_0.toInt = y5_0.toInt) c_6
            refine lv_iconst (v := 0) hx hb dX1_isRight_75 (by decide) ?_
            rw [← hQe]
            exact gs_iret hx hb hr hlocks hM hS (by decide) ⟨hB_st, (Or.inr ⟨rfl, rtC.no (by omega) (by have h9 := hw_4_0; rw [show x_3.toInt = (st 15 i x.toNatClampNeg).toInt from (by omega), ky] at h9; exact h9) hv5_1 (by omega)⟩)⟩ (by exact Nat.le_refl _) (by exact Nat.le_refl _) dX1_isRight_76
          · have ic_6 := gz_nle (by decide : (6 : Int32).toInt = 6) (rfl : y5_0.toInt = y5_0.toInt) c_6
            refine lv_aload_n hx hb dX1_isRight_36 rfl (lv_at hl 1 rfl) ?_
            refine gs_get (C := RX1) (T := TX1) (N := 3) hx hb hts inX1 hown hK hM 12 i 2 hi_i rfl rfl (by decide) (hts _ gm_125) (fun _ h9 => h9) rfl dX1_isRight_37 ?_
            refine lv_iload hx hb dX1_isRight_40 (lv_at hl 0 rfl) ?_
            refine gs_iald hx hb hK hM 15 i hi_i rfl (vp_in_iff.mpr ⟨by omega, by omega⟩) dX1_isRight_42 ?_
            refine lv_topi (fun x_7 ex_7 => ?_)
            have qx_7 : x_7.toInt = (st 15 i (y5_0.toNatClampNeg)).toInt := congrArg Int32.toInt ex_7
            refine lv_iload_n hx hb dX1_isRight_43 rfl (lv_at hl 4 rfl) ?_
            refine lv_icmp_ne (tgt := 69) hx hb dX1_isRight_44 (by decide) (fun c_8 => ?_) (fun c_8 => ?_)
            · have ic_8 := gz_ne (rfl : x_7.toInt = x_7.toInt) (rfl : y.toInt = y.toInt) c_8
              obtain ⟨x_9, ex_9⟩ : ∃ y : Int32, y = y5_0 + 1 := ⟨_, rfl⟩
              try have tx_9 : x_9.toInt = y5_0.toInt + 1 := by rw [ex_9]; exact gz_addP (x := y5_0.toInt) (y := 1) rfl (by decide) (by omega) (by omega)
              refine lv_iinc (v := (x_9)) (lv' := [(4, .int x_9), (0, .ref (ad 12 i)), (1, .ref (ad 25 z.toNatClampNeg)), (2, .int x), (3, .int y)]) hx hb dX1_isRight_69 hl (k := 0) rfl (by rw [ex_9]; rfl) (by decide) rfl (fun ls hl => ?_)
              refine lv_goto (tgt := 29) hx hb dX1_isRight_72 (by decide) ?_
              exact ih_5  (x_9 : Int32) H _ ls (by omega)  (by omega) (noQ.step hv5_1 (by omega) (by omega) (fun h8 h7 => by first | (exfalso; omega))) hM hS (lv_sub hl [0, 1, 2, 3, 4] rfl)
            · have ic_8 := gz_eqn (rfl : x_7.toInt = x_7.toInt) (rfl : y.toInt = y.toInt) c_8
              refine lv_aload_n hx hb dX1_isRight_47 rfl (lv_at hl 1 rfl) ?_
              refine gs_get (C := RX1) (T := TX1) (N := 3) hx hb hts inX1 hown hK hM 12 i 1 hi_i rfl rfl (by decide) (hts _ gm_123) (fun _ h9 => h9) rfl dX1_isRight_48 ?_
              refine lv_iload hx hb dX1_isRight_51 (lv_at hl 0 rfl) ?_
              refine gs_iald hx hb hK hM 14 i hi_i rfl (vp_in_iff.mpr ⟨by omega, by omega⟩) dX1_isRight_53 ?_
              refine lv_topi (fun x_10 ex_10 => ?_)
              have qx_10 : x_10.toInt = (st 14 i (y5_0.toNatClampNeg)).toInt := congrArg Int32.toInt ex_10
              refine lv_if_ne (tgt := 69) hx hb dX1_isRight_54 (by decide) (fun c_11 => ?_) (fun c_11 => ?_)
              · have ic_11 := gz_ne (rfl : x_10.toInt = x_10.toInt) (by decide : (0 : Int32).toInt = 0) c_11
                obtain ⟨x_12, ex_12⟩ : ∃ y : Int32, y = y5_0 + 1 := ⟨_, rfl⟩
                try have tx_12 : x_12.toInt = y5_0.toInt + 1 := by rw [ex_12]; exact gz_addP (x := y5_0.toInt) (y := 1) rfl (by decide) (by omega) (by omega)
                refine lv_iinc (v := (x_12)) (lv' := [(4, .int x_12), (0, .ref (ad 12 i)), (1, .ref (ad 25 z.toNatClampNeg)), (2, .int x), (3, .int y)]) hx hb dX1_isRight_69 hl (k := 0) rfl (by rw [ex_12]; rfl) (by decide) rfl (fun ls hl => ?_)
                refine lv_goto (tgt := 29) hx hb dX1_isRight_72 (by decide) ?_
                exact ih_5  (x_12 : Int32) H _ ls (by omega)  (by omega) (noQ.step hv5_1 (by omega) (by omega) (fun h8 h7 => by first | (exfalso; omega))) hM hS (lv_sub hl [0, 1, 2, 3, 4] rfl)
              · have ic_11 := gz_eqn (rfl : x_10.toInt = x_10.toInt) (by decide : (0 : Int32).toInt = 0) c_11
                refine lv_aload_n hx hb dX1_isRight_57 rfl (lv_at hl 2 rfl) ?_
                refine lv_iload hx hb dX1_isRight_58 (lv_at hl 0 rfl) ?_
                refine lv_iload_n hx hb dX1_isRight_60 rfl (lv_at hl 3 rfl) ?_
                refine gs_calli (va_runV (As := [.int y5_0, .int x]) (rest := []) ⟨hx, hb, hml, hown, hts⟩ (s_X4_leadsDry l G cy sK sV ad H.size st hB_st.1 z y5_0 x y5_0.toInt x.toInt rfl rfl hz_z (by first | decide | omega) (by first | decide | omega) (by first | decide | omega) (by first | decide | omega) rs hLf) ⟨(gz_cb (n := 2) hts gm_614 gm_10 gm_617 ⟨by decide +kernel, by decide +kernel, by decide +kernel⟩ ⟨Nat.le_of_ble_eq_true rfl, Nat.le_of_ble_eq_true rfl⟩), hts _ gm_615, hts _ gm_616⟩ (gs_preV hK hov hE hI hM hm hS hA 25 z.toNatClampNeg (gs_sel hz_z) rfl rfl) rfl rfl hl.1 rfl (lv_room (Nat.le_of_ble_eq_true rfl)) dX1_isRight_61 ⟨Nat.le_of_ble_eq_true rfl, Nat.le_of_ble_eq_true rfl⟩) hm hS hA (fun r_13 st_13 H locs hw_13 hM hS => ?_)
                obtain ⟨n_13, hw_13⟩ := hw_13
                have n_13 := gBN.nil n_13
                subst n_13
                rcases hw_13 with ⟨rfl, hw_13_0⟩ | ⟨rfl, hw_13_0⟩
                · skip
                  refine lv_if_eq (tgt := 69) hx hb dX1_isRight_64 (by decide) (fun h9 => absurd h9 (by decide)) (fun _ => ?_)
                  refine lv_iconst (v := 1) hx hb dX1_isRight_67 (by decide) ?_
                  rw [← hQe]
                  exact gs_iret hx hb hr hlocks hM hS (by decide) ⟨hB_st, (Or.inl ⟨rfl, Or.inr (Or.inr ⟨y5_0.toNatClampNeg, (by have h8 := gs_cl (x := y5_0) (by omega); omega), (by omega), (by omega), (by have h8 := gs_cl (x := y5_0) (by omega); have h7 := gs_cl (x := x) (by omega); rw [h8, show ((x.toNatClampNeg : Nat) : Int) = x.toInt by omega]; exact hw_13_0)⟩)⟩)⟩ (by exact Nat.le_refl _) (by exact Nat.le_refl _) dX1_isRight_68
                · skip
                  refine lv_if_eq (tgt := 69) hx hb dX1_isRight_64 (by decide) (fun _ => ?_) (fun h9 => absurd (by decide) h9)
                  obtain ⟨x_14, ex_14⟩ : ∃ y : Int32, y = y5_0 + 1 := ⟨_, rfl⟩
                  try have tx_14 : x_14.toInt = y5_0.toInt + 1 := by rw [ex_14]; exact gz_addP (x := y5_0.toInt) (y := 1) rfl (by decide) (by omega) (by omega)
                  refine lv_iinc (v := (x_14)) (lv' := [(4, .int x_14), (0, .ref (ad 12 i)), (1, .ref (ad 25 z.toNatClampNeg)), (2, .int x), (3, .int y)]) hx hb dX1_isRight_69 hl (k := 0) rfl (by rw [ex_14]; rfl) (by decide) rfl (fun ls hl => ?_)
                  refine lv_goto (tgt := 29) hx hb dX1_isRight_72 (by decide) ?_
                  exact ih_5  (x_14 : Int32) H _ ls (by omega)  (by omega) (noQ.step hv5_1 (by omega) (by omega) (fun h8 h7 => by first | (exfalso; omega) | (have h6 := gs_cl (x := x) (by omega); rw [show ((x.toNatClampNeg : Nat) : Int) = x.toInt by omega]; exact hw_13_0))) hM hS (lv_sub hl [0, 1, 2, 3, 4] rfl)
      exact lp5 ((6 - ((0 : Int32) : Int32).toInt).toNat + 1)  ((0 : Int32) : Int32) H _ ls (Nat.lt_succ_self _)  (by have hl0 : (0 : Int32).toInt = 0 := (by decide); omega) (noQ.nil (by decide)) hM hS (lv_sub hl [0, 1, 2, 3, 4] rfl)

set_option maxHeartbeats 4000000 in
set_option maxRecDepth 100000 in
/-- WellCourt$Day.guestMany -/
theorem s_X1_guestMany (l : Launch) (G : va_G) (cy : Nat → ClassId) (sK sV : Nat → Nat) (ad : Nat → Nat → Nat) (sz : Nat) (st : gS) (hB : gBd bX st) (i : Nat) (z : Int32) (x : Int32) (y : Int32) (Xx : Int) (Xy : Int) (kx : x.toInt = Xx) (ky : y.toInt = Xy) (hi_i : i < 16) (hz_z : (0 : Int) ≤ z.toInt ∧ z.toInt ≤ (1 : Int)) (hx0 : 0 ≤ Xx) (hx1 : Xx < 6) (rs : List Rl) (hLg : LXg rs st z.toNatClampNeg) : gsMi l yX1_guestMany cX1_guestMany 4 (some .int) ({ frames := 1, cells := 0, slots := 0, locals := 24 } : Room) G cy sK sV (shX cy ad) cnX ad sz [.ref (ad 12 i), .ref (ad 25 z.toNatClampNeg), .int x, .int y] st (fun (r : Int32) (u : gS) => gBN bX kX [] st u ∧ ((r.toInt = gstT rs Xy Xx (st 15 i x.toNatClampNeg).toInt))) := by
  refine gs_start (fun A => gsQi G (shX cy ad) cnX ad _ A) (by decide) (Nat.le_of_ble_eq_true rfl) ?_
  intro p e s m below meth c A ls H hx hb hr hml hlocks hown hts hK hov hE hI hM hm hS hA hl
  have hl : lv_has ls 4 [(0, .ref (ad 12 i)), (1, .ref (ad 25 z.toNatClampNeg)), (2, .int x), (3, .int y)] := hl
  have hB_st : gBN bX kX [] st st := gBN.rf hB
  refine lv_aload_n hx hb dX1_guestMany_0 rfl (lv_at hl 1 rfl) ?_
  refine lv_iload_n hx hb dX1_guestMany_1 rfl (lv_at hl 3 rfl) ?_
  refine lv_iload_n hx hb dX1_guestMany_2 rfl (lv_at hl 2 rfl) ?_
  refine lv_aload_n hx hb dX1_guestMany_3 rfl (lv_at hl 0 rfl) ?_
  refine gs_get (C := RX1) (T := TX1) (N := 3) hx hb hts inX1 hown hK hM 12 i 2 hi_i rfl rfl (by decide) (hts _ gm_125) (fun _ h9 => h9) rfl dX1_guestMany_4 ?_
  refine lv_iload_n hx hb dX1_guestMany_7 rfl (lv_at hl 2 rfl) ?_
  refine gs_iald hx hb hK hM 15 i hi_i rfl (vp_in_iff.mpr ⟨by omega, by omega⟩) dX1_guestMany_8 ?_
  refine lv_topi (fun x_1 ex_1 => ?_)
  have qx_1 : x_1.toInt = (st 15 i (x.toNatClampNeg)).toInt := congrArg Int32.toInt ex_1
  refine gs_calli (va_runV (As := [.int y, .int x, .int x_1]) (rest := []) ⟨hx, hb, hml, hown, hts⟩ (s_X4_manyOfGuest l G cy sK sV ad H.size st hB_st.1 z y x x_1 y.toInt x.toInt x_1.toInt rfl rfl rfl hz_z rs hLg) ⟨(gz_cb (n := 3) hts gm_622 gm_10 gm_625 ⟨by decide +kernel, by decide +kernel, by decide +kernel⟩ ⟨Nat.le_of_ble_eq_true rfl, Nat.le_of_ble_eq_true rfl⟩), hts _ gm_623, hts _ gm_624⟩ (gs_preV hK hov hE hI hM hm hS hA 25 z.toNatClampNeg (gs_sel hz_z) rfl rfl) rfl rfl hl.1 rfl (lv_room (Nat.le_of_ble_eq_true rfl)) dX1_guestMany_9 ⟨Nat.le_of_ble_eq_true rfl, Nat.le_of_ble_eq_true rfl⟩) hm hS hA (fun r_2 st_2 H locs hw_2 hM hS => ?_)
  obtain ⟨n_2, hw_2⟩ := hw_2
  have n_2 := gBN.nil n_2
  subst n_2
  have hw_2_0 := hw_2
  exact gs_iret hx hb hr hlocks hM hS rfl ⟨hB_st, (by have h9 := hw_2_0; rw [show x_1.toInt = (st 15 i x.toNatClampNeg).toInt from (by omega)] at h9; rw [← kx, ← ky]; first | exact h9 | (rw [kx, ky]; exact h9))⟩ (by exact Nat.le_refl _) (by exact Nat.le_refl _) dX1_guestMany_12
