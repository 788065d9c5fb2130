theorem gm_5 : (Jvm.Cond.initialized "WellCourt$Calendar") ∈ gz_T := gz_at 5 (by decide +kernel) rfl
theorem gm_123 : (Jvm.Cond.fieldLink "WellCourt$Day" (15 : Nat) "WellCourt$Day" "morning" "[I") ∈ gz_T := gz_at 123 (by decide +kernel) rfl
theorem gm_125 : (Jvm.Cond.fieldLink "WellCourt$Day" (18 : Nat) "WellCourt$Day" "owner" "[I") ∈ gz_T := gz_at 125 (by decide +kernel) rfl
theorem gm_551 : (Jvm.Cond.methodLink "WellCourt$Day" (51 : Nat) ({ cls := "WellCourt$Law", name := "droughtOwner", desc := "(II)I" } : Jvm.MethodName)) ∈ gz_T := gz_at 551 (by decide +kernel) rfl
theorem gm_552 : (Jvm.Cond.instanceMethod ({ cls := "WellCourt$Law", name := "droughtOwner", desc := "(II)I" } : Jvm.MethodName)) ∈ gz_T := gz_at 552 (by decide +kernel) rfl
theorem gm_553 : (Jvm.Cond.selects "WellCourt$Law" ({ cls := "WellCourt$Law", name := "droughtOwner", desc := "(II)I" } : Jvm.MethodName) ({ cls := "WellCourt$Law", name := "droughtOwner", desc := "(II)I" } : Jvm.MethodName)) ∈ gz_T := gz_at 553 (by decide +kernel) rfl
theorem gm_554 : (Jvm.Cond.code ({ cls := "WellCourt$Law", name := "droughtOwner", desc := "(II)I" } : Jvm.MethodName) prog_6_method_12_code (4 : Nat) (Option.some Jvm.ClassFile.FieldType.int)) ∈ gz_T := gz_at 554 (by decide +kernel) rfl
theorem gm_555 : (Jvm.Cond.methodLink "WellCourt$Day" (56 : Nat) ({ cls := "WellCourt$Calendar", name := "ownerOn", desc := "(II)I" } : Jvm.MethodName)) ∈ gz_T := gz_at 555 (by decide +kernel) rfl
theorem gm_556 : (Jvm.Cond.instanceMethod ({ cls := "WellCourt$Calendar", name := "ownerOn", desc := "(II)I" } : Jvm.MethodName)) ∈ gz_T := gz_at 556 (by decide +kernel) rfl
theorem gm_557 : (Jvm.Cond.selects "WellCourt$Calendar" ({ cls := "WellCourt$Calendar", name := "ownerOn", desc := "(II)I" } : Jvm.MethodName) ({ cls := "WellCourt$Calendar", name := "ownerOn", desc := "(II)I" } : Jvm.MethodName)) ∈ gz_T := gz_at 557 (by decide +kernel) rfl
theorem gm_558 : (Jvm.Cond.code ({ cls := "WellCourt$Calendar", name := "ownerOn", desc := "(II)I" } : Jvm.MethodName) prog_2_method_2_code (3 : Nat) (Option.some Jvm.ClassFile.FieldType.int)) ∈ gz_T := gz_at 558 (by decide +kernel) rfl
theorem dX1_settle_0 : decode cX1_settle 0 = .ok (.iconst 0, 1) := by decide +kernel
theorem dX1_settle_1 : decode cX1_settle 1 = .ok (.istore 4, 2) := by decide +kernel
theorem dX1_settle_3 : decode cX1_settle 3 = .ok (.iload 4, 2) := by decide +kernel
theorem dX1_settle_5 : decode cX1_settle 5 = .ok (.bipush 6, 2) := by decide +kernel
theorem dX1_settle_7 : decode cX1_settle 7 = .ok (.if_icmp .ge 49, 3) := by decide +kernel
theorem dX1_settle_10 : decode cX1_settle 10 = .ok (.aload_n 1, 1) := by decide +kernel
theorem dX1_settle_11 : decode cX1_settle 11 = .ok (.iload 4, 2) := by decide +kernel
theorem dX1_settle_13 : decode cX1_settle 13 = .ok (.aload_n 0, 1) := by decide +kernel
theorem dX1_settle_14 : decode cX1_settle 14 = .ok (.getfield 15, 3) := by decide +kernel
theorem dX1_settle_17 : decode cX1_settle 17 = .ok (.iload 4, 2) := by decide +kernel
theorem dX1_settle_19 : decode cX1_settle 19 = .ok (.iaload, 1) := by decide +kernel
theorem dX1_settle_20 : decode cX1_settle 20 = .ok (.invokevirtual 51, 3) := by decide +kernel
theorem dX1_settle_23 : decode cX1_settle 23 = .ok (.istore 5, 2) := by decide +kernel
theorem dX1_settle_25 : decode cX1_settle 25 = .ok (.aload_n 0, 1) := by decide +kernel
theorem dX1_settle_26 : decode cX1_settle 26 = .ok (.getfield 18, 3) := by decide +kernel
theorem dX1_settle_29 : decode cX1_settle 29 = .ok (.iload 4, 2) := by decide +kernel
theorem dX1_settle_31 : decode cX1_settle 31 = .ok (.iload 5, 2) := by decide +kernel
theorem dX1_settle_33 : decode cX1_settle 33 = .ok (.iconst (-1), 1) := by decide +kernel
theorem dX1_settle_34 : decode cX1_settle 34 = .ok (.if_icmp .ne 13, 3) := by decide +kernel
theorem dX1_settle_37 : decode cX1_settle 37 = .ok (.aload_n 2, 1) := by decide +kernel
theorem dX1_settle_38 : decode cX1_settle 38 = .ok (.iload 4, 2) := by decide +kernel
theorem dX1_settle_40 : decode cX1_settle 40 = .ok (.iload_n 3, 1) := by decide +kernel
theorem dX1_settle_41 : decode cX1_settle 41 = .ok (.invokevirtual 56, 3) := by decide +kernel
theorem dX1_settle_44 : decode cX1_settle 44 = .ok (.goto 5, 3) := by decide +kernel
theorem dX1_settle_47 : decode cX1_settle 47 = .ok (.iload 5, 2) := by decide +kernel
theorem dX1_settle_49 : decode cX1_settle 49 = .ok (.iastore, 1) := by decide +kernel
theorem dX1_settle_50 : decode cX1_settle 50 = .ok (.iinc 4 1, 3) := by decide +kernel
theorem dX1_settle_53 : decode cX1_settle 53 = .ok (.goto (-50), 3) := by decide +kernel
theorem dX1_settle_56 : decode cX1_settle 56 = .ok (.return_, 1) := by decide +kernel
set_option maxHeartbeats 4000000 in
set_option maxRecDepth 100000 in
/-- WellCourt$Day.settle -/
theorem s_X1_settle (l : Launch) (G : va_G) (cy : Nat → ClassId) (sK sV : Nat → Nat) (ad : Nat → Nat → Nat) (sz : Nat) (st : gS) (hB : gBd bX st) (i : Nat) (z : Int32) (x : Int32) (Xx : Int) (kx : x.toInt = Xx) (hi_i : i < 16) (hz_z : (0 : Int) ≤ z.toInt ∧ z.toInt ≤ (1 : Int)) (hx0 : 0 ≤ Xx) (hx1 : Xx ≤ 199) (rs : List Rl) (hL : LXd rs st z.toNatClampNeg) : gsMv l yX1_settle cX1_settle 6 ({ frames := 2, cells := 0, slots := 0, locals := 42 } : Room) G cy sK sV (shX cy ad) cnX ad sz [.ref (ad 12 i), .ref (ad 25 z.toNatClampNeg), .ref (ad 9 0), .int x] st (fun (u : gS) => gBN bX kX [1500] st u ∧ ((setC rs st u i Xx 6) ∧ (dyO i st u))) := by
  refine gs_start (fun A => gsQv G (shX cy ad) cnX ad _ A) (by decide) (Nat.le_of_ble_eq_true rfl) ?_
  intro p e s m below meth c A ls H hx hb hr hml hlocks hown hts hK hov hE hI hM hm hS hA hl
  have hl : lv_has ls 6 [(0, .ref (ad 12 i)), (1, .ref (ad 25 z.toNatClampNeg)), (2, .ref (ad 9 0)), (3, .int x)] := hl
  have hB_st : gBN bX kX [1500] st st := gBN.rf hB
  generalize hQe : MQ below _ _ s _ _ A = Q
  refine lv_iconst (v := 0) hx hb dX1_settle_0 (by decide) ?_
  refine lv_istore (lv' := [(4, .int 0), (0, .ref (ad 12 i)), (1, .ref (ad 25 z.toNatClampNeg)), (2, .ref (ad 9 0)), (3, .int x)]) hx hb dX1_settle_1 hl (by decide) rfl (fun ls hl => ?_)
  have lp1 : ∀ (n1 : Nat) (sv1 : gS) (y1_0 : Int32) (H : Heap) (locs : List Loc) (ls : Array Slot), (6 - y1_0.toInt).toNat < n1 → gBN bX kX [1500] st sv1 → (0 ≤ y1_0.toInt) → (setC rs st sv1 i Xx y1_0.toInt) → (dyO i st sv1) → gM G (shX cy ad) cnX ad sv1 H → va_S A s.heap H locs → lv_has ls 6 [(4, .int y1_0), (0, .ref (ad 12 i)), (1, .ref (ad 25 z.toNatClampNeg)), (2, .ref (ad 9 0)), (3, .int x)] → W p l e ({ frames := 2, cells := 0, slots := 0, locals := 42 } : Room) s m [.ref (ad 12 i), .ref (ad 25 z.toNatClampNeg), .ref (ad 9 0), .int x].toArray below meth c H locs 0 0 Q (F0 m 3 ls []) := by
    intro n1
    induction n1 with
    | zero => intro sv1 y1_0 H locs ls h9; exact absurd h9 (Nat.not_lt_zero _)
    | succ n1 ih_1 =>
      intro sv1 y1_0 H locs ls hme1 hB_sv1 hv1_0 hv1_1 hv1_2 hM hS hl
      refine lv_iload hx hb dX1_settle_3 (lv_at hl 0 rfl) ?_
      refine lv_bipush (v := 6) hx hb dX1_settle_5 (by decide) ?_
      refine lv_icmp_ge (tgt := 56) hx hb dX1_settle_7 (by decide) (fun c_2 => ?_) (fun c_2 => ?_)
      · have ic_2 := gz_le (by decide : (6 : Int32).toInt = 6) (rfl : y1_0.toInt = y1_0.toInt) c_2
        rw [← hQe]
        exact gs_vret hx hb hr hlocks hM hS ⟨hB_sv1, (fun w9 h1 h2 => hv1_1 w9 h1 (by omega)), hv1_2⟩ (by exact Nat.le_refl _) (by exact Nat.le_refl _) dX1_settle_56
      · have ic_2 := gz_nle (by decide : (6 : Int32).toInt = 6) (rfl : y1_0.toInt = y1_0.toInt) c_2
        refine lv_aload_n hx hb dX1_settle_10 rfl (lv_at hl 2 rfl) ?_
        refine lv_iload hx hb dX1_settle_11 (lv_at hl 0 rfl) ?_
        refine lv_aload_n hx hb dX1_settle_13 rfl (lv_at hl 1 rfl) ?_
        refine gs_get (C := RX1) (T := TX1) (N := 3) hx hb hts inX1 hown hK hM 12 i 1 hi_i rfl rfl (by decide) (hts _ gm_123) (fun _ h9 => h9) rfl dX1_settle_14 ?_
        refine lv_iload hx hb dX1_settle_17 (lv_at hl 0 rfl) ?_
        refine gs_iald hx hb hK hM 14 i hi_i rfl (vp_in_iff.mpr ⟨by omega, by omega⟩) dX1_settle_19 ?_
        refine lv_topi (fun x_3 ex_3 => ?_)
        have qx_3 : x_3.toInt = (sv1 14 i (y1_0.toNatClampNeg)).toInt := congrArg Int32.toInt ex_3
        have rx_3 : x_3.toInt = ((st 14 i (y1_0.toNatClampNeg)) : Int32).toInt := by rw [ex_3]; exact congrArg Int32.toInt ((hB_sv1.2 14 i (y1_0.toNatClampNeg) (show (1400 : Nat) ∉ _ from by decide)))
        refine gs_calli (va_runV (As := [.int y1_0, .int x_3]) (rest := []) ⟨hx, hb, hml, hown, hts⟩ (s_X4_droughtOwner l G cy sK sV ad H.size sv1 hB_sv1.1 z y1_0 x_3 y1_0.toInt x_3.toInt rfl rfl hz_z rs (hL.keep hB_sv1.2 (by decide) (by decide) (by decide) (by decide))) ⟨(gz_cb (n := 2) hts gm_551 gm_10 gm_554 ⟨by decide +kernel, by decide +kernel, by decide +kernel⟩ ⟨Nat.le_of_ble_eq_true rfl, Nat.le_of_ble_eq_true rfl⟩), hts _ gm_552, hts _ gm_553⟩ (gs_preV hK hov hE hI hM hm hS hA 25 z.toNatClampNeg (gs_sel hz_z) rfl rfl) rfl rfl hl.1 rfl (lv_room (Nat.le_of_ble_eq_true rfl)) dX1_settle_20 ⟨Nat.le_of_ble_eq_true rfl, Nat.le_of_ble_eq_true rfl⟩) hm hS hA (fun r_4 st_4 H locs hw_4 hM hS => ?_)
        obtain ⟨n_4, hw_4⟩ := hw_4
        have n_4 := gBN.nil n_4
        subst n_4
        have hw_4_0 := hw_4
        refine lv_istore (lv' := [(5, .int r_4), (4, .int y1_0), (0, .ref (ad 12 i)), (1, .ref (ad 25 z.toNatClampNeg)), (2, .ref (ad 9 0)), (3, .int x)]) hx hb dX1_settle_23 hl (by decide) rfl (fun ls hl => ?_)
        refine lv_aload_n hx hb dX1_settle_25 rfl (lv_at hl 2 rfl) ?_
        refine gs_get (C := RX1) (T := TX1) (N := 3) hx hb hts inX1 hown hK hM 12 i 2 hi_i rfl rfl (by decide) (hts _ gm_125) (fun _ h9 => h9) rfl dX1_settle_26 ?_
        refine lv_iload hx hb dX1_settle_29 (lv_at hl 1 rfl) ?_
        refine lv_iload hx hb dX1_settle_31 (lv_at hl 0 rfl) ?_
        refine lv_iconst (v := (-1)) hx hb dX1_settle_33 (by decide) ?_
        refine lv_icmp_ne (tgt := 47) hx hb dX1_settle_34 (by decide) (fun c_5 => ?_) (fun c_5 => ?_)
        · have ic_5 := gz_ne (rfl : r_4.toInt = r_4.toInt) (by decide : ((-1) : Int32).toInt = -1) c_5
          refine lv_iload hx hb dX1_settle_47 (lv_at hl 0 rfl) ?_
          refine gs_iast hx hb hK hI hm hM hS 15 i hi_i (fun _ => rfl) (vp_in_iff.mpr ⟨by omega, by omega⟩) dX1_settle_49 (fun st_6 H locs est_6 hM hS => ?_)
          have hB_st_6 : gBN bX kX [1500] st st_6 := by rw [est_6]; exact hB_sv1.up (show (1500 : Nat) ∈ _ from by decide) (gi_lo _) (gi_hi _)
          obtain ⟨x_7, ex_7⟩ : ∃ y : Int32, y = y1_0 + 1 := ⟨_, rfl⟩
          try have tx_7 : x_7.toInt = y1_0.toInt + 1 := by rw [ex_7]; exact gz_addP (x := y1_0.toInt) (y := 1) rfl (by decide) (by omega) (by omega)
          refine lv_iinc (v := (x_7)) (lv' := [(4, .int x_7), (5, .int r_4), (0, .ref (ad 12 i)), (1, .ref (ad 25 z.toNatClampNeg)), (2, .ref (ad 9 0)), (3, .int x)]) hx hb dX1_settle_50 hl (k := 1) rfl (by rw [ex_7]; rfl) (by decide) rfl (fun ls hl => ?_)
          refine lv_goto (tgt := 3) hx hb dX1_settle_53 (by decide) ?_
          exact ih_1 st_6 (x_7 : Int32) H _ ls (by omega) hB_st_6 (by omega) (by rw [est_6]; exact setC.step (k := y1_0) hv1_1 (by omega) (by have h8 : r_4.toInt = dryD rs y1_0.toInt (st 14 i y1_0.toNatClampNeg).toInt := (by unfold dryD; rw [← show x_3.toInt = (st 14 i y1_0.toNatClampNeg).toInt from (by omega)]; exact hw_4_0); rw [if_neg (by omega)]; exact h8) (by omega)) (dyO.up hv1_2 est_6) hM hS (lv_sub hl [0, 2, 3, 4, 5] rfl)
        · have ic_5 := gz_eqn (rfl : r_4.toInt = r_4.toInt) (by decide : ((-1) : Int32).toInt = -1) c_5
          refine lv_aload_n hx hb dX1_settle_37 rfl (lv_at hl 4 rfl) ?_
          refine lv_iload hx hb dX1_settle_38 (lv_at hl 1 rfl) ?_
          refine lv_iload_n hx hb dX1_settle_40 rfl (lv_at hl 5 rfl) ?_
          refine gs_calli (va_runV (As := [.int y1_0, .int x]) (rest := [.int y1_0, .ref (ad 15 i)]) ⟨hx, hb, hml, hown, hts⟩ (s_X0_ownerOn l G cy sK sV ad H.size sv1 hB_sv1.1 y1_0 x y1_0.toInt x.toInt rfl rfl ) ⟨(gz_cb (n := 2) hts gm_555 gm_5 gm_558 ⟨by decide +kernel, by decide +kernel, by decide +kernel⟩ ⟨Nat.le_of_ble_eq_true rfl, Nat.le_of_ble_eq_true rfl⟩), hts _ gm_556, hts _ gm_557⟩ (gs_preV hK hov hE hI hM hm hS hA 9 0 (by decide) rfl rfl) rfl rfl hl.1 rfl (lv_room (Nat.le_of_ble_eq_true rfl)) dX1_settle_41 ⟨Nat.le_of_ble_eq_true rfl, Nat.le_of_ble_eq_true rfl⟩) hm hS hA (fun r_8 st_8 H locs hw_8 hM hS => ?_)
          obtain ⟨n_8, hw_8⟩ := hw_8
          have n_8 := gBN.nil n_8
          subst n_8
          have hw_8_0 := hw_8
          refine lv_goto (tgt := 49) hx hb dX1_settle_44 (by decide) ?_
          refine gs_iast hx hb hK hI hm hM hS 15 i hi_i (fun _ => rfl) (vp_in_iff.mpr ⟨by omega, by omega⟩) dX1_settle_49 (fun st_9 H locs est_9 hM hS => ?_)
          have hB_st_9 : gBN bX kX [1500] st st_9 := by rw [est_9]; exact hB_sv1.up (show (1500 : Nat) ∈ _ from by decide) (gi_lo _) (gi_hi _)
          obtain ⟨x_10, ex_10⟩ : ∃ y : Int32, y = y1_0 + 1 := ⟨_, rfl⟩
          try have tx_10 : x_10.toInt = y1_0.toInt + 1 := by rw [ex_10]; exact gz_addP (x := y1_0.toInt) (y := 1) rfl (by decide) (by omega) (by omega)
          refine lv_iinc (v := (x_10)) (lv' := [(4, .int x_10), (5, .int r_4), (0, .ref (ad 12 i)), (1, .ref (ad 25 z.toNatClampNeg)), (2, .ref (ad 9 0)), (3, .int x)]) hx hb dX1_settle_50 hl (k := 1) rfl (by rw [ex_10]; rfl) (by decide) rfl (fun ls hl => ?_)
          refine lv_goto (tgt := 3) hx hb dX1_settle_53 (by decide) ?_
          exact ih_1 st_9 (x_10 : Int32) H _ ls (by omega) hB_st_9 (by omega) (by rw [est_9]; exact setC.step (k := y1_0) hv1_1 (by omega) (by have h8 : r_4.toInt = dryD rs y1_0.toInt (st 14 i y1_0.toNatClampNeg).toInt := (by unfold dryD; rw [← show x_3.toInt = (st 14 i y1_0.toNatClampNeg).toInt from (by omega)]; exact hw_4_0); rw [if_pos (by omega)]; have h7 := (hw_8_0.resolve_right (fun h9 => h9.1 ⟨by omega, by omega, by omega, by omega⟩)).2.2.2.2; have h6 := gs_cl (x := x) (by omega); rw [show Xx.toNat = x.toNatClampNeg by omega]; first | exact h7 | exact h7.trans (congrArg Int32.toInt (hB_sv1.2 11 _ _ (show (1100 : Nat) ∉ _ from by decide)))) (by omega)) (dyO.up hv1_2 est_9) hM hS (lv_sub hl [0, 2, 3, 4, 5] rfl)
  exact lp1 ((6 - ((0 : Int32) : Int32).toInt).toNat + 1) st ((0 : Int32) : Int32) H _ ls (Nat.lt_succ_self _) hB_st (by have hl0 : (0 : Int32).toInt = 0 := (by decide); omega) (setC.new (by decide)) dyO.rf hM hS (lv_sub hl [0, 1, 2, 3, 4] rfl)
