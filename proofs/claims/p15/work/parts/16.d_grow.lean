theorem gm_579 : (Jvm.Cond.methodLink "WellCourt$Day" (33 : Nat) ({ cls := "WellCourt$Land", name := "isThere", desc := "(I)Z" } : Jvm.MethodName)) ∈ gz_T := gz_at 579 (by decide +kernel) rfl
theorem gm_580 : (Jvm.Cond.methodLink "WellCourt$Day" (45 : Nat) ({ cls := "java/lang/Math", name := "min", desc := "(II)I" } : Jvm.MethodName)) ∈ gz_T := gz_at 580 (by decide +kernel) rfl
theorem gm_581 : (Jvm.Cond.static ({ cls := "java/lang/Math", name := "min", desc := "(II)I" } : Jvm.MethodName)) ∈ gz_T := gz_at 581 (by decide +kernel) rfl
theorem gm_582 : (Jvm.Cond.code ({ cls := "java/lang/Math", name := "min", desc := "(II)I" } : Jvm.MethodName) prog_15_method_69_code (2 : Nat) (Option.some Jvm.ClassFile.FieldType.int)) ∈ gz_T := gz_at 582 (by decide +kernel) rfl
theorem gm_634 : (Jvm.Cond.methodLink "WellCourt$Calendar" (46 : Nat) ({ cls := "WellCourt$Calendar", name := "ownerOn", desc := "(II)I" } : Jvm.MethodName)) ∈ gz_T := gz_at 634 (by decide +kernel) rfl
theorem gn_83 : (Jvm.Cond.fieldLinkNest "WellCourt$Day" (42 : Nat) "WellCourt$Land" "cap" "[I" "WellCourt") ∈ gzN := gz_nest 83 (by decide +kernel) rfl
theorem gn_86 : (Jvm.Cond.fieldLinkNest "WellCourt$Day" (39 : Nat) "WellCourt$Land" "rate" "[I" "WellCourt") ∈ gzN := gz_nest 86 (by decide +kernel) rfl
theorem dX0_exchange_0 : decode cX0_exchange 0 = .ok (.aload_n 0, 1) := by decide +kernel
theorem dX0_exchange_1 : decode cX0_exchange 1 = .ok (.iload_n 1, 1) := by decide +kernel
theorem dX0_exchange_2 : decode cX0_exchange 2 = .ok (.iload_n 2, 1) := by decide +kernel
theorem dX0_exchange_3 : decode cX0_exchange 3 = .ok (.invokevirtual 46, 3) := by decide +kernel
theorem dX0_exchange_6 : decode cX0_exchange 6 = .ok (.istore 4, 2) := by decide +kernel
theorem dX0_exchange_8 : decode cX0_exchange 8 = .ok (.iload 4, 2) := by decide +kernel
theorem dX0_exchange_10 : decode cX0_exchange 10 = .ok (.iconst (-1), 1) := by decide +kernel
theorem dX0_exchange_11 : decode cX0_exchange 11 = .ok (.if_icmp .eq 9, 3) := by decide +kernel
theorem dX0_exchange_14 : decode cX0_exchange 14 = .ok (.iload 4, 2) := by decide +kernel
theorem dX0_exchange_16 : decode cX0_exchange 16 = .ok (.iload_n 3, 1) := by decide +kernel
theorem dX0_exchange_17 : decode cX0_exchange 17 = .ok (.if_icmp .ne 5, 3) := by decide +kernel
theorem dX0_exchange_20 : decode cX0_exchange 20 = .ok (.iconst (-1), 1) := by decide +kernel
theorem dX0_exchange_21 : decode cX0_exchange 21 = .ok (.ireturn, 1) := by decide +kernel
theorem dX0_exchange_22 : decode cX0_exchange 22 = .ok (.iload_n 2, 1) := by decide +kernel
theorem dX0_exchange_23 : decode cX0_exchange 23 = .ok (.iconst 1, 1) := by decide +kernel
theorem dX0_exchange_24 : decode cX0_exchange 24 = .ok (.iadd, 1) := by decide +kernel
theorem dX0_exchange_25 : decode cX0_exchange 25 = .ok (.istore 5, 2) := by decide +kernel
theorem dX0_exchange_27 : decode cX0_exchange 27 = .ok (.iload 5, 2) := by decide +kernel
theorem dX0_exchange_29 : decode cX0_exchange 29 = .ok (.sipush 199, 3) := by decide +kernel
theorem dX0_exchange_32 : decode cX0_exchange 32 = .ok (.if_icmp .gt 45, 3) := by decide +kernel
theorem dX0_exchange_35 : decode cX0_exchange 35 = .ok (.aload_n 0, 1) := by decide +kernel
theorem dX0_exchange_36 : decode cX0_exchange 36 = .ok (.getfield 11, 3) := by decide +kernel
theorem dX0_exchange_39 : decode cX0_exchange 39 = .ok (.iload_n 1, 1) := by decide +kernel
theorem dX0_exchange_40 : decode cX0_exchange 40 = .ok (.aaload, 1) := by decide +kernel
theorem dX0_exchange_41 : decode cX0_exchange 41 = .ok (.iload 5, 2) := by decide +kernel
theorem dX0_exchange_43 : decode cX0_exchange 43 = .ok (.iaload, 1) := by decide +kernel
theorem dX0_exchange_44 : decode cX0_exchange 44 = .ok (.iload_n 3, 1) := by decide +kernel
theorem dX0_exchange_45 : decode cX0_exchange 45 = .ok (.if_icmp .ne 26, 3) := by decide +kernel
theorem dX0_exchange_48 : decode cX0_exchange 48 = .ok (.aload_n 0, 1) := by decide +kernel
theorem dX0_exchange_49 : decode cX0_exchange 49 = .ok (.getfield 11, 3) := by decide +kernel
theorem dX0_exchange_52 : decode cX0_exchange 52 = .ok (.iload_n 1, 1) := by decide +kernel
theorem dX0_exchange_53 : decode cX0_exchange 53 = .ok (.aaload, 1) := by decide +kernel
theorem dX0_exchange_54 : decode cX0_exchange 54 = .ok (.iload_n 2, 1) := by decide +kernel
theorem dX0_exchange_55 : decode cX0_exchange 55 = .ok (.iload_n 3, 1) := by decide +kernel
theorem dX0_exchange_56 : decode cX0_exchange 56 = .ok (.iastore, 1) := by decide +kernel
theorem dX0_exchange_57 : decode cX0_exchange 57 = .ok (.aload_n 0, 1) := by decide +kernel
theorem dX0_exchange_58 : decode cX0_exchange 58 = .ok (.getfield 11, 3) := by decide +kernel
theorem dX0_exchange_61 : decode cX0_exchange 61 = .ok (.iload_n 1, 1) := by decide +kernel
theorem dX0_exchange_62 : decode cX0_exchange 62 = .ok (.aaload, 1) := by decide +kernel
theorem dX0_exchange_63 : decode cX0_exchange 63 = .ok (.iload 5, 2) := by decide +kernel
theorem dX0_exchange_65 : decode cX0_exchange 65 = .ok (.iload 4, 2) := by decide +kernel
theorem dX0_exchange_67 : decode cX0_exchange 67 = .ok (.iastore, 1) := by decide +kernel
theorem dX0_exchange_68 : decode cX0_exchange 68 = .ok (.iload 5, 2) := by decide +kernel
theorem dX0_exchange_70 : decode cX0_exchange 70 = .ok (.ireturn, 1) := by decide +kernel
theorem dX0_exchange_71 : decode cX0_exchange 71 = .ok (.iinc 5 1, 3) := by decide +kernel
theorem dX0_exchange_74 : decode cX0_exchange 74 = .ok (.goto (-47), 3) := by decide +kernel
theorem dX0_exchange_77 : decode cX0_exchange 77 = .ok (.iconst (-1), 1) := by decide +kernel
theorem dX0_exchange_78 : decode cX0_exchange 78 = .ok (.ireturn, 1) := by decide +kernel
theorem dX1_grow_0 : decode cX1_grow 0 = .ok (.iconst 0, 1) := by decide +kernel
theorem dX1_grow_1 : decode cX1_grow 1 = .ok (.istore_n 3, 1) := by decide +kernel
theorem dX1_grow_2 : decode cX1_grow 2 = .ok (.iload_n 3, 1) := by decide +kernel
theorem dX1_grow_3 : decode cX1_grow 3 = .ok (.bipush 6, 2) := by decide +kernel
theorem dX1_grow_5 : decode cX1_grow 5 = .ok (.if_icmp .ge 57, 3) := by decide +kernel
theorem dX1_grow_8 : decode cX1_grow 8 = .ok (.aload_n 2, 1) := by decide +kernel
theorem dX1_grow_9 : decode cX1_grow 9 = .ok (.iload_n 3, 1) := by decide +kernel
theorem dX1_grow_10 : decode cX1_grow 10 = .ok (.invokevirtual 33, 3) := by decide +kernel
theorem dX1_grow_13 : decode cX1_grow 13 = .ok (.ifCond .eq 43, 3) := by decide +kernel
theorem dX1_grow_16 : decode cX1_grow 16 = .ok (.aload_n 0, 1) := by decide +kernel
theorem dX1_grow_17 : decode cX1_grow 17 = .ok (.getfield 9, 3) := by decide +kernel
theorem dX1_grow_20 : decode cX1_grow 20 = .ok (.iload_n 3, 1) := by decide +kernel
theorem dX1_grow_21 : decode cX1_grow 21 = .ok (.aload_n 1, 1) := by decide +kernel
theorem dX1_grow_22 : decode cX1_grow 22 = .ok (.getfield 9, 3) := by decide +kernel
theorem dX1_grow_25 : decode cX1_grow 25 = .ok (.iload_n 3, 1) := by decide +kernel
theorem dX1_grow_26 : decode cX1_grow 26 = .ok (.iaload, 1) := by decide +kernel
theorem dX1_grow_27 : decode cX1_grow 27 = .ok (.aload_n 2, 1) := by decide +kernel
theorem dX1_grow_28 : decode cX1_grow 28 = .ok (.getfield 39, 3) := by decide +kernel
theorem dX1_grow_31 : decode cX1_grow 31 = .ok (.iload_n 3, 1) := by decide +kernel
theorem dX1_grow_32 : decode cX1_grow 32 = .ok (.iaload, 1) := by decide +kernel
theorem dX1_grow_33 : decode cX1_grow 33 = .ok (.iadd, 1) := by decide +kernel
theorem dX1_grow_34 : decode cX1_grow 34 = .ok (.aload_n 2, 1) := by decide +kernel
theorem dX1_grow_35 : decode cX1_grow 35 = .ok (.getfield 42, 3) := by decide +kernel
theorem dX1_grow_38 : decode cX1_grow 38 = .ok (.iload_n 3, 1) := by decide +kernel
theorem dX1_grow_39 : decode cX1_grow 39 = .ok (.iaload, 1) := by decide +kernel
theorem dX1_grow_40 : decode cX1_grow 40 = .ok (.invokestatic 45, 3) := by decide +kernel
theorem dX1_grow_43 : decode cX1_grow 43 = .ok (.iastore, 1) := by decide +kernel
theorem dX1_grow_44 : decode cX1_grow 44 = .ok (.aload_n 0, 1) := by decide +kernel
theorem dX1_grow_45 : decode cX1_grow 45 = .ok (.getfield 15, 3) := by decide +kernel
theorem dX1_grow_48 : decode cX1_grow 48 = .ok (.iload_n 3, 1) := by decide +kernel
theorem dX1_grow_49 : decode cX1_grow 49 = .ok (.aload_n 0, 1) := by decide +kernel
theorem dX1_grow_50 : decode cX1_grow 50 = .ok (.getfield 9, 3) := by decide +kernel
theorem dX1_grow_53 : decode cX1_grow 53 = .ok (.iload_n 3, 1) := by decide +kernel
theorem dX1_grow_54 : decode cX1_grow 54 = .ok (.iaload, 1) := by decide +kernel
theorem dX1_grow_55 : decode cX1_grow 55 = .ok (.iastore, 1) := by decide +kernel
theorem dX1_grow_56 : decode cX1_grow 56 = .ok (.iinc 3 1, 3) := by decide +kernel
theorem dX1_grow_59 : decode cX1_grow 59 = .ok (.goto (-57), 3) := by decide +kernel
theorem dX1_grow_62 : decode cX1_grow 62 = .ok (.return_, 1) := by decide +kernel
set_option maxHeartbeats 4000000 in
set_option maxRecDepth 100000 in
/-- WellCourt$Day.grow -/
theorem s_X1_grow (l : Launch) (G : va_G) (cy : Nat → ClassId) (sK sV : Nat → Nat) (ad : Nat → Nat → Nat) (sz : Nat) (st : gS) (hB : gBd bX st) (i : Nat) (i2 : Nat) (hi_i : i < 16) (hi_i2 : i2 < 16) : gsMv l yX1_grow cX1_grow 4 ({ frames := 1, cells := 0, slots := 0, locals := 21 } : Room) G cy sK sV (shX cy ad) cnX ad sz [.ref (ad 12 i), .ref (ad 12 i2), .ref (ad 4 0)] st (fun (u : gS) => gBN bX kX [1300, 1400] st u ∧ ((gwI (fun a9 => 0 < (st 5 0 a9).toInt) (st 13 i2) (st 6 0) (st 5 0) (st 13 i) (u 13 i) 6) ∧ (gwI (fun a9 => 0 < (st 5 0 a9).toInt) (st 13 i2) (st 6 0) (st 5 0) (st 14 i) (u 14 i) 6) ∧ (dyO i st u))) := by
  refine gs_start (fun A => gsQv G (shX cy ad) cnX ad _ A) (by decide) (Nat.le_of_ble_eq_true rfl) ?_
  intro p e s m below meth c A ls H hx hb hr hml hlocks hown hts hK hov hE hI hM hm hS hA hl
  have hl : lv_has ls 4 [(0, .ref (ad 12 i)), (1, .ref (ad 12 i2)), (2, .ref (ad 4 0))] := hl
  have hB_st : gBN bX kX [1300, 1400] st st := gBN.rf hB
  generalize hQe : MQ below _ _ s _ _ A = Q
  refine lv_iconst (v := 0) hx hb dX1_grow_0 (by decide) ?_
  refine lv_istore_n (lv' := [(3, .int 0), (0, .ref (ad 12 i)), (1, .ref (ad 12 i2)), (2, .ref (ad 4 0))]) hx hb dX1_grow_1 rfl hl (by decide) rfl (fun ls hl => ?_)
  have lp1 : ∀ (n1 : Nat) (sv1 : gS) (y1_0 : Int32) (H : Heap) (locs : List Loc) (ls : Array Slot), (6 - y1_0.toInt).toNat < n1 → gBN bX kX [1300, 1400] st sv1 → (0 ≤ y1_0.toInt) → (y1_0.toInt ≤ 6) → (gwI (fun a9 => 0 < (st 5 0 a9).toInt) (st 13 i2) (st 6 0) (st 5 0) (st 13 i) (sv1 13 i) y1_0.toInt) → (gwI (fun a9 => 0 < (st 5 0 a9).toInt) (st 13 i2) (st 6 0) (st 5 0) (st 14 i) (sv1 14 i) y1_0.toInt) → (agI (st 13 i2) (sv1 13 i2) y1_0.toInt) → (dyO i st sv1) → gM G (shX cy ad) cnX ad sv1 H → va_S A s.heap H locs → lv_has ls 4 [(3, .int y1_0), (0, .ref (ad 12 i)), (1, .ref (ad 12 i2)), (2, .ref (ad 4 0))] → W p l e ({ frames := 1, cells := 0, slots := 0, locals := 21 } : Room) s m [.ref (ad 12 i), .ref (ad 12 i2), .ref (ad 4 0)].toArray below meth c H locs 0 0 Q (F0 m 2 ls []) := by
    intro n1
    induction n1 with
    | zero => intro sv1 y1_0 H locs ls h9; exact absurd h9 (Nat.not_lt_zero _)
    | succ n1 ih_1 =>
      intro sv1 y1_0 H locs ls hme1 hB_sv1 hv1_0 hv1_1 hv1_2 hv1_3 hv1_4 hv1_5 hM hS hl
      refine lv_iload_n hx hb dX1_grow_2 rfl (lv_at hl 0 rfl) ?_
      refine lv_bipush (v := 6) hx hb dX1_grow_3 (by decide) ?_
      refine lv_icmp_ge (tgt := 62) hx hb dX1_grow_5 (by decide) (fun c_2 => ?_) (fun c_2 => ?_)
      · have ic_2 := gz_le (by decide : (6 : Int32).toInt = 6) (rfl : y1_0.toInt = y1_0.toInt) c_2
        rw [← hQe]
        exact gs_vret hx hb hr hlocks hM hS ⟨hB_sv1, (by rw [show (6 : Int) = y1_0.toInt by omega]; exact hv1_2), (by rw [show (6 : Int) = y1_0.toInt by omega]; exact hv1_3), hv1_5⟩ (by exact Nat.le_refl _) (by exact Nat.le_refl _) dX1_grow_62
      · have ic_2 := gz_nle (by decide : (6 : Int32).toInt = 6) (rfl : y1_0.toInt = y1_0.toInt) c_2
        refine lv_aload_n hx hb dX1_grow_8 rfl (lv_at hl 3 rfl) ?_
        refine lv_iload_n hx hb dX1_grow_9 rfl (lv_at hl 0 rfl) ?_
        refine gs_calli (va_runV (As := [.int y1_0]) (rest := []) ⟨hx, hb, hml, hown, hts⟩ (s_X3_isThere l G cy sK sV ad H.size sv1 hB_sv1.1 y1_0 y1_0.toInt rfl (by first | decide | omega) (by first | decide | omega)) ⟨(gz_cb (n := 1) hts gm_579 gm_4 gm_350 ⟨by decide +kernel, by decide +kernel, by decide +kernel⟩ ⟨Nat.le_of_ble_eq_true rfl, Nat.le_of_ble_eq_true rfl⟩), hts _ gm_348, hts _ gm_349⟩ (gs_preV hK hov hE hI hM hm hS hA 4 0 (by decide) rfl rfl) rfl rfl hl.1 rfl (lv_room (Nat.le_of_ble_eq_true rfl)) dX1_grow_10 ⟨Nat.le_of_ble_eq_true rfl, Nat.le_of_ble_eq_true rfl⟩) hm hS hA (fun r_3 st_3 H locs hw_3 hM hS => ?_)
        obtain ⟨n_3, hw_3⟩ := hw_3
        have n_3 := gBN.nil n_3
        subst n_3
        rcases hw_3 with ⟨rfl, hw_3_0⟩ | ⟨rfl, hw_3_0⟩
        · skip
          refine lv_if_eq (tgt := 56) hx hb dX1_grow_13 (by decide) (fun h9 => absurd h9 (by decide)) (fun _ => ?_)
          refine lv_aload_n hx hb dX1_grow_16 rfl (lv_at hl 1 rfl) ?_
          refine gs_get (C := RX1) (T := TX1) (N := 3) hx hb hts inX1 hown hK hM 12 i 0 hi_i rfl rfl (by decide) (hts _ gm_120) (fun _ h9 => h9) rfl dX1_grow_17 ?_
          refine lv_iload_n hx hb dX1_grow_20 rfl (lv_at hl 0 rfl) ?_
          refine lv_aload_n hx hb dX1_grow_21 rfl (lv_at hl 2 rfl) ?_
          refine gs_get (C := RX1) (T := TX1) (N := 3) hx hb hts inX1 hown hK hM 12 i2 0 hi_i2 rfl rfl (by decide) (hts _ gm_120) (fun _ h9 => h9) rfl dX1_grow_22 ?_
          refine lv_iload_n hx hb dX1_grow_25 rfl (lv_at hl 0 rfl) ?_
          refine gs_iald hx hb hK hM 13 i2 hi_i2 rfl (vp_in_iff.mpr ⟨by omega, by omega⟩) dX1_grow_26 ?_
          refine lv_topi (fun x_4 ex_4 => ?_)
          have qx_4 : x_4.toInt = (sv1 13 i2 (y1_0.toNatClampNeg)).toInt := congrArg Int32.toInt ex_4
          refine lv_aload_n hx hb dX1_grow_27 rfl (lv_at hl 3 rfl) ?_
          refine gs_getN (host := "WellCourt") (C := RX3) (T := TX3) (N := 3) hx hb hts inX3 hown hK hM 4 0 1 (by decide) rfl rfl (by decide) (va_Nw.use rfl (hov.2.2 _ gn_86)) (fun _ h9 => h9) rfl dX1_grow_28 ?_
          refine lv_iload_n hx hb dX1_grow_31 rfl (lv_at hl 0 rfl) ?_
          refine gs_iald hx hb hK hM 6 0 (by decide) rfl (vp_in_iff.mpr ⟨by omega, by omega⟩) dX1_grow_32 ?_
          refine lv_topi (fun x_5 ex_5 => ?_)
          have qx_5 : x_5.toInt = (sv1 6 0 (y1_0.toNatClampNeg)).toInt := congrArg Int32.toInt ex_5
          have rx_5 : x_5.toInt = ((st 6 0 (y1_0.toNatClampNeg)) : Int32).toInt := by rw [ex_5]; exact congrArg Int32.toInt ((hB_sv1.2 6 0 (y1_0.toNatClampNeg) (show (600 : Nat) ∉ _ from by decide)))
          refine lv_iadd hx hb dX1_grow_33 ?_
          refine lv_topi (fun x_6 ex_6 => ?_)
          refine lv_aload_n hx hb dX1_grow_34 rfl (lv_at hl 3 rfl) ?_
          refine gs_getN (host := "WellCourt") (C := RX3) (T := TX3) (N := 3) hx hb hts inX3 hown hK hM 4 0 0 (by decide) rfl rfl (by decide) (va_Nw.use rfl (hov.2.2 _ gn_83)) (fun _ h9 => h9) rfl dX1_grow_35 ?_
          refine lv_iload_n hx hb dX1_grow_38 rfl (lv_at hl 0 rfl) ?_
          refine gs_iald hx hb hK hM 5 0 (by decide) rfl (vp_in_iff.mpr ⟨by omega, by omega⟩) dX1_grow_39 ?_
          refine lv_topi (fun x_7 ex_7 => ?_)
          have qx_7 : x_7.toInt = (sv1 5 0 (y1_0.toNatClampNeg)).toInt := congrArg Int32.toInt ex_7
          have rx_7 : x_7.toInt = ((st 5 0 (y1_0.toNatClampNeg)) : Int32).toInt := by rw [ex_7]; exact congrArg Int32.toInt ((hB_sv1.2 5 0 (y1_0.toNatClampNeg) (show (500 : Nat) ∉ _ from by decide)))
          refine va_mmin hx hb (hml.trans hl.1.symm) hown (hts _ gm_580) (hts _ gm_581) (hts _ gm_17) (hts _ gm_582) (Nat.le_of_ble_eq_true rfl) (Nat.le_of_ble_eq_true rfl) (Nat.le_of_ble_eq_true rfl) (Nat.le_of_ble_eq_true rfl) dX1_grow_40 ?_
          refine lv_topi (fun x_8 ex_8 => ?_)
          refine gs_iast hx hb hK hI hm hM hS 13 i hi_i (fun _ => rfl) (vp_in_iff.mpr ⟨by omega, by omega⟩) dX1_grow_43 (fun st_9 H locs est_9 hM hS => ?_)
          have hB_st_9 : gBN bX kX [1300, 1400] st st_9 := by rw [est_9]; exact hB_sv1.up (show (1300 : Nat) ∈ _ from by decide) (gi_lo _) (gi_hi _)
          refine lv_aload_n hx hb dX1_grow_44 rfl (lv_at hl 1 rfl) ?_
          refine gs_get (C := RX1) (T := TX1) (N := 3) hx hb hts inX1 hown hK hM 12 i 1 hi_i rfl rfl (by decide) (hts _ gm_123) (fun _ h9 => h9) rfl dX1_grow_45 ?_
          refine lv_iload_n hx hb dX1_grow_48 rfl (lv_at hl 0 rfl) ?_
          refine lv_aload_n hx hb dX1_grow_49 rfl (lv_at hl 1 rfl) ?_
          refine gs_get (C := RX1) (T := TX1) (N := 3) hx hb hts inX1 hown hK hM 12 i 0 hi_i rfl rfl (by decide) (hts _ gm_120) (fun _ h9 => h9) rfl dX1_grow_50 ?_
          refine lv_iload_n hx hb dX1_grow_53 rfl (lv_at hl 0 rfl) ?_
          refine gs_iald hx hb hK hM 13 i hi_i rfl (vp_in_iff.mpr ⟨by omega, by omega⟩) dX1_grow_54 ?_
          refine lv_topi (fun x_10 ex_10 => ?_)
          have qx_10 : x_10.toInt = (st_9 13 i (y1_0.toNatClampNeg)).toInt := congrArg Int32.toInt ex_10
          have rx_10 : x_10.toInt = (x_8 : Int32).toInt := by rw [ex_10]; exact congrArg Int32.toInt (((congrFun (congrFun (congrFun est_9 13) i) (y1_0.toNatClampNeg)).trans (gU_same _ _ _ _ _)))
          refine gs_iast hx hb hK hI hm hM hS 14 i hi_i (fun _ => rfl) (vp_in_iff.mpr ⟨by omega, by omega⟩) dX1_grow_55 (fun st_11 H locs est_11 hM hS => ?_)
          have hB_st_11 : gBN bX kX [1300, 1400] st st_11 := by rw [est_11]; exact hB_st_9.up (show (1400 : Nat) ∈ _ from by decide) (gi_lo _) (gi_hi _)
          obtain ⟨x_12, ex_12⟩ : ∃ y : Int32, y = y1_0 + 1 := ⟨_, rfl⟩
          try have tx_12 : x_12.toInt = y1_0.toInt + 1 := by rw [ex_12]; exact gz_addP (x := y1_0.toInt) (y := 1) rfl (by decide) (by omega) (by omega)
          refine lv_iinc (v := (x_12)) (lv' := [(3, .int x_12), (0, .ref (ad 12 i)), (1, .ref (ad 12 i2)), (2, .ref (ad 4 0))]) hx hb dX1_grow_56 hl (k := 0) rfl (by rw [ex_12]; rfl) (by decide) rfl (fun ls hl => ?_)
          refine lv_goto (tgt := 2) hx hb dX1_grow_59 (by decide) ?_
          exact ih_1 st_11 (x_12 : Int32) H _ ls (by omega) hB_st_11 (by omega) (by omega) (by rw [show st_11 13 i = (upd (sv1 13 i) (y1_0.toNatClampNeg) (x_8 : Int32)) from ((congrFun (congrFun est_11 13) i).trans ((congrFun (gU_k (by decide)) i).trans ((congrFun (congrFun est_9 13) i).trans ((gU_at _ _ _ _ _).trans (congrArg (fun f9 => upd f9 (y1_0.toNatClampNeg) (x_8 : Int32)) rfl)))))]; exact gwI.put hv1_2 (by omega) (by omega) (show 0 < (st 5 0 y1_0.toNatClampNeg).toInt by omega) (by rw [ex_8, ex_6, show x_4 = _ from (ex_4.trans (agI.at hv1_4 (by omega))), show x_5 = _ from (ex_5.trans (hB_sv1.2 6 0 (y1_0.toNatClampNeg) (show (600 : Nat) ∉ _ from by decide))), show x_7 = _ from (ex_7.trans (hB_sv1.2 5 0 (y1_0.toNatClampNeg) (show (500 : Nat) ∉ _ from by decide)))]; rfl)) (by rw [show st_11 14 i = (upd (sv1 14 i) (y1_0.toNatClampNeg) (x_10 : Int32)) from ((congrFun (congrFun est_11 14) i).trans ((gU_at _ _ _ _ _).trans (congrArg (fun f9 => upd f9 (y1_0.toNatClampNeg) (x_10 : Int32)) ((congrFun (congrFun est_9 14) i).trans ((congrFun (gU_k (by decide)) i).trans rfl)))))]; exact gwI.put hv1_3 (by omega) (by omega) (show 0 < (st 5 0 y1_0.toNatClampNeg).toInt by omega) ((Int32.toInt_inj.mp rx_10 : x_10 = x_8).trans (by rw [ex_8, ex_6, show x_4 = _ from (ex_4.trans (agI.at hv1_4 (by omega))), show x_5 = _ from (ex_5.trans (hB_sv1.2 6 0 (y1_0.toNatClampNeg) (show (600 : Nat) ∉ _ from by decide))), show x_7 = _ from (ex_7.trans (hB_sv1.2 5 0 (y1_0.toNatClampNeg) (show (500 : Nat) ∉ _ from by decide)))]; rfl))) (agI.oth (agI.up hv1_4 est_9 (by omega) (by omega)) est_11 (by decide)) (dyO.up (dyO.up hv1_5 est_9) est_11) hM hS (lv_sub hl [0, 1, 2, 3] rfl)
        · skip
          refine lv_if_eq (tgt := 56) hx hb dX1_grow_13 (by decide) (fun _ => ?_) (fun h9 => absurd (by decide) h9)
          obtain ⟨x_13, ex_13⟩ : ∃ y : Int32, y = y1_0 + 1 := ⟨_, rfl⟩
          try have tx_13 : x_13.toInt = y1_0.toInt + 1 := by rw [ex_13]; exact gz_addP (x := y1_0.toInt) (y := 1) rfl (by decide) (by omega) (by omega)
          refine lv_iinc (v := (x_13)) (lv' := [(3, .int x_13), (0, .ref (ad 12 i)), (1, .ref (ad 12 i2)), (2, .ref (ad 4 0))]) hx hb dX1_grow_56 hl (k := 0) rfl (by rw [ex_13]; rfl) (by decide) rfl (fun ls hl => ?_)
          refine lv_goto (tgt := 2) hx hb dX1_grow_59 (by decide) ?_
          exact ih_1 sv1 (x_13 : Int32) H _ ls (by omega) hB_sv1 (by omega) (by omega) (gwI.skip hv1_2 (by omega) (by omega) (fun h9 => absurd h9 (by have h8 : (sv1 5 0 y1_0.toNatClampNeg).toInt = (st 5 0 y1_0.toNatClampNeg).toInt := congrArg Int32.toInt (hB_sv1.2 5 0 _ (show (500 : Nat) ∉ _ from by decide)); omega))) (gwI.skip hv1_3 (by omega) (by omega) (fun h9 => absurd h9 (by have h8 : (sv1 5 0 y1_0.toNatClampNeg).toInt = (st 5 0 y1_0.toNatClampNeg).toInt := congrArg Int32.toInt (hB_sv1.2 5 0 _ (show (500 : Nat) ∉ _ from by decide)); omega))) (agI.mono hv1_4 (by omega)) hv1_5 hM hS (lv_sub hl [0, 1, 2, 3] rfl)
  exact lp1 ((6 - ((0 : Int32) : Int32).toInt).toNat + 1) st ((0 : Int32) : Int32) H _ ls (Nat.lt_succ_self _) hB_st (by have hl0 : (0 : Int32).toInt = 0 := (by decide); omega) (by have hl0 : (0 : Int32).toInt = 0 := (by decide); omega) (gwI.new (by decide)) (gwI.new (by decide)) agI.rf dyO.rf hM hS (lv_sub hl [0, 1, 2, 3] rfl)

set_option maxHeartbeats 4000000 in
set_option maxRecDepth 100000 in
/-- WellCourt$Calendar.exchange -/
theorem s_X0_exchange (l : Launch) (G : va_G) (cy : Nat → ClassId) (sK sV : Nat → Nat) (ad : Nat → Nat → Nat) (sz : Nat) (st : gS) (hB : gBd bX st) (x : Int32) (y : Int32) (w : Int32) (Xx : Int) (Xy : Int) (Xw : Int) (kx : x.toInt = Xx) (ky : y.toInt = Xy) (kw : w.toInt = Xw) : gsMi l yX0_exchange cX0_exchange 6 (some .int) ({ frames := 2, cells := 0, slots := 0, locals := 42 } : Room) G cy sK sV (shX cy ad) cnX ad sz [.ref (ad 9 0), .int x, .int y, .int w] st (fun (r : Int32) (u : gS) => gBN bX kX [1100] st u ∧ (((¬ (0 ≤ Xx ∧ Xx ≤ 5 ∧ 0 ≤ Xy ∧ Xy ≤ 199 ∧ ¬ (st 11 x.toNatClampNeg y.toNatClampNeg).toInt = -1 ∧ ¬ (st 11 x.toNatClampNeg y.toNatClampNeg).toInt = Xw) ∧ r.toInt = -1 ∧ u = st) ∨ ((0 ≤ Xx ∧ Xx ≤ 5 ∧ 0 ≤ Xy ∧ Xy ≤ 199 ∧ ¬ (st 11 x.toNatClampNeg y.toNatClampNeg).toInt = -1 ∧ ¬ (st 11 x.toNatClampNeg y.toNatClampNeg).toInt = Xw) ∧ noBk (st 11 x.toNatClampNeg) Xw Xy 200 ∧ r.toInt = -1 ∧ u = st) ∨ ((0 ≤ Xx ∧ Xx ≤ 5 ∧ 0 ≤ Xy ∧ Xy ≤ 199 ∧ ¬ (st 11 x.toNatClampNeg y.toNatClampNeg).toInt = -1 ∧ ¬ (st 11 x.toNatClampNeg y.toNatClampNeg).toInt = Xw) ∧ (Xy < r.toInt ∧ r.toInt ≤ 199 ∧ (st 11 x.toNatClampNeg r.toNatClampNeg).toInt = Xw) ∧ noBk (st 11 x.toNatClampNeg) Xw Xy r.toInt ∧ ∃ v9 : Int32, v9.toInt = (st 11 x.toNatClampNeg y.toNatClampNeg).toInt ∧ u = gU (gU st 11 x.toNatClampNeg y.toNatClampNeg w) 11 x.toNatClampNeg r.toNatClampNeg v9)))) := by
  refine gs_start (fun A => gsQi G (shX cy ad) cnX ad _ A) (by decide) (Nat.le_of_ble_eq_true rfl) ?_
  intro p e s m below meth c A ls H hx hb hr hml hlocks hown hts hK hov hE hI hM hm hS hA hl
  have hl : lv_has ls 6 [(0, .ref (ad 9 0)), (1, .int x), (2, .int y), (3, .int w)] := hl
  have hB_st : gBN bX kX [1100] st st := gBN.rf hB
  generalize hQe : MQ below _ _ s _ _ A = Q
  refine lv_aload_n hx hb dX0_exchange_0 rfl (lv_at hl 0 rfl) ?_
  refine lv_iload_n hx hb dX0_exchange_1 rfl (lv_at hl 1 rfl) ?_
  refine lv_iload_n hx hb dX0_exchange_2 rfl (lv_at hl 2 rfl) ?_
  refine gs_calli (va_runV (As := [.int x, .int y]) (rest := []) ⟨hx, hb, hml, hown, hts⟩ (s_X0_ownerOn l G cy sK sV ad H.size st hB_st.1 x y x.toInt y.toInt rfl rfl ) ⟨(gz_cb (n := 2) hts gm_634 gm_5 gm_558 ⟨by decide +kernel, by decide +kernel, by decide +kernel⟩ ⟨Nat.le_of_ble_eq_true rfl, Nat.le_of_ble_eq_true rfl⟩), hts _ gm_556, hts _ gm_557⟩ (gs_preV hK hov hE hI hM hm hS hA 9 0 (by decide) rfl rfl) rfl rfl hl.1 rfl (lv_room (Nat.le_of_ble_eq_true rfl)) dX0_exchange_3 ⟨Nat.le_of_ble_eq_true rfl, Nat.le_of_ble_eq_true rfl⟩) hm hS hA (fun r_1 st_1 H locs hw_1 hM hS => ?_)
  obtain ⟨n_1, hw_1⟩ := hw_1
  have n_1 := gBN.nil n_1
  subst n_1
  have hw_1_0 := hw_1
  refine lv_istore (lv' := [(4, .int r_1), (0, .ref (ad 9 0)), (1, .int x), (2, .int y), (3, .int w)]) hx hb dX0_exchange_6 hl (by decide) rfl (fun ls hl => ?_)
  refine lv_iload hx hb dX0_exchange_8 (lv_at hl 0 rfl) ?_
  refine lv_iconst (v := (-1)) hx hb dX0_exchange_10 (by decide) ?_
  refine lv_icmp_eq (tgt := 20) hx hb dX0_exchange_11 (by decide) (fun c_2 => ?_) (fun c_2 => ?_)
  · have ic_2 := gz_eq (rfl : r_1.toInt = r_1.toInt) (by decide : ((-1) : Int32).toInt = -1) c_2
    refine lv_iconst (v := (-1)) hx hb dX0_exchange_20 (by decide) ?_
    rw [← hQe]
    exact gs_iret hx hb hr hlocks hM hS rfl ⟨hB_st, (by have h8 := hw_1_0; rw [kx, ky] at h8; exact Or.inl ⟨by omega, by decide, rfl⟩)⟩ (by exact Nat.le_refl _) (by exact Nat.le_refl _) dX0_exchange_21
  · have ic_2 := gz_ne (rfl : r_1.toInt = r_1.toInt) (by decide : ((-1) : Int32).toInt = -1) c_2
    refine lv_iload hx hb dX0_exchange_14 (lv_at hl 0 rfl) ?_
    refine lv_iload_n hx hb dX0_exchange_16 rfl (lv_at hl 4 rfl) ?_
    refine lv_icmp_ne (tgt := 22) hx hb dX0_exchange_17 (by decide) (fun c_3 => ?_) (fun c_3 => ?_)
    · have ic_3 := gz_ne (rfl : r_1.toInt = r_1.toInt) (rfl : w.toInt = w.toInt) c_3
      refine lv_iload_n hx hb dX0_exchange_22 rfl (lv_at hl 3 rfl) ?_
      refine lv_iconst (v := 1) hx hb dX0_exchange_23 (by decide) ?_
      refine lv_iadd hx hb dX0_exchange_24 ?_
      refine lv_topi (fun x_4 ex_4 => ?_)
      try have tx_4 : x_4.toInt = y.toInt + 1 := by rw [ex_4]; exact gz_addP (x := y.toInt) (y := 1) rfl (by decide) (by omega) (by omega)
      refine lv_istore (lv' := [(5, .int x_4), (4, .int r_1), (0, .ref (ad 9 0)), (1, .int x), (2, .int y), (3, .int w)]) hx hb dX0_exchange_25 hl (by decide) rfl (fun ls hl => ?_)
      have lp5 : ∀ (n5 : Nat)  (y5_0 : Int32) (H : Heap) (locs : List Loc) (ls : Array Slot), (200 - y5_0.toInt).toNat < n5 →  (Xy < y5_0.toInt) → (noBk (st 11 x.toNatClampNeg) Xw Xy y5_0.toInt) → gM G (shX cy ad) cnX ad st H → va_S A s.heap H locs → lv_has ls 6 [(5, .int y5_0), (4, .int r_1), (0, .ref (ad 9 0)), (1, .int x), (2, .int y), (3, .int w)] → W p l e ({ frames := 2, cells := 0, slots := 0, locals := 42 } : Room) s m [.ref (ad 9 0), .int x, .int y, .int w].toArray below meth c H locs 0 0 Q (F0 m 27 ls []) := by
        intro n5
        induction n5 with
        | zero => intro  y5_0 H locs ls h9; exact absurd h9 (Nat.not_lt_zero _)
        | succ n5 ih_5 =>
          intro  y5_0 H locs ls hme5  hv5_0 hv5_1 hM hS hl
          refine lv_iload hx hb dX0_exchange_27 (lv_at hl 0 rfl) ?_
          refine lv_sipush (v := 199) hx hb dX0_exchange_29 (by decide) ?_
          refine lv_icmp_gt (tgt := 77) hx hb dX0_exchange_32 (by decide) (fun c_6 => ?_) (fun c_6 => ?_)
          · have ic_6 := gz_lt (by decide : (199 : Int32).toInt = 199) (rfl : y5_0.toInt = y5_0.toInt) c_6
            refine lv_iconst (v := (-1)) hx hb dX0_exchange_77 (by decide) ?_
            rw [← hQe]
            exact gs_iret hx hb hr hlocks hM hS rfl ⟨hB_st, (by have h8 := hw_1_0; rw [kx, ky] at h8; exact Or.inr (Or.inl ⟨⟨by omega, by omega, by omega, by omega, by omega, by omega⟩, (fun d9 h1 h2 => hv5_1 d9 h1 (by omega)), by decide, rfl⟩))⟩ (by exact Nat.le_refl _) (by exact Nat.le_refl _) dX0_exchange_78
          · have ic_6 := gz_nlt (by decide : (199 : Int32).toInt = 199) (rfl : y5_0.toInt = y5_0.toInt) c_6
            refine lv_aload_n hx hb dX0_exchange_35 rfl (lv_at hl 2 rfl) ?_
            refine gs_get (C := RX0) (T := TX0) (N := 1) hx hb hts inX0 hown hK hM 9 0 0 (by decide) rfl rfl (by decide) (hts _ gm_109) (fun _ h9 => h9) rfl dX0_exchange_36 ?_
            refine lv_iload_n hx hb dX0_exchange_39 rfl (lv_at hl 3 rfl) ?_
            have h_7 : x.toNatClampNeg < 6 := gs_lt (vp_in_iff.mpr ⟨by omega, by omega⟩)
            refine gs_alda hx hb hK hM 10 0 (by decide) rfl (vp_in_iff.mpr ⟨by omega, by omega⟩) (a := ad 11 x.toNatClampNeg) (if_pos h_7) dX0_exchange_40 ?_
            refine lv_iload hx hb dX0_exchange_41 (lv_at hl 0 rfl) ?_
            refine gs_iald hx hb hK hM 11 x.toNatClampNeg h_7 rfl (vp_in_iff.mpr ⟨by omega, by omega⟩) dX0_exchange_43 ?_
            refine lv_topi (fun x_8 ex_8 => ?_)
            have qx_8 : x_8.toInt = (st 11 x.toNatClampNeg (y5_0.toNatClampNeg)).toInt := congrArg Int32.toInt ex_8
            refine lv_iload_n hx hb dX0_exchange_44 rfl (lv_at hl 5 rfl) ?_
            refine lv_icmp_ne (tgt := 71) hx hb dX0_exchange_45 (by decide) (fun c_9 => ?_) (fun c_9 => ?_)
            · have ic_9 := gz_ne (rfl : x_8.toInt = x_8.toInt) (rfl : w.toInt = w.toInt) c_9
              obtain ⟨x_10, ex_10⟩ : ∃ y : Int32, y = y5_0 + 1 := ⟨_, rfl⟩
              try have tx_10 : x_10.toInt = y5_0.toInt + 1 := by rw [ex_10]; exact gz_addP (x := y5_0.toInt) (y := 1) rfl (by decide) (by omega) (by omega)
              refine lv_iinc (v := (x_10)) (lv' := [(5, .int x_10), (4, .int r_1), (0, .ref (ad 9 0)), (1, .int x), (2, .int y), (3, .int w)]) hx hb dX0_exchange_71 hl (k := 0) rfl (by rw [ex_10]; rfl) (by decide) rfl (fun ls hl => ?_)
              refine lv_goto (tgt := 27) hx hb dX0_exchange_74 (by decide) ?_
              exact ih_5  (x_10 : Int32) H _ ls (by omega)  (by omega) (noBk.step hv5_1 (by omega) (by omega) (by omega)) hM hS (lv_sub hl [0, 1, 2, 3, 4, 5] rfl)
            · have ic_9 := gz_eqn (rfl : x_8.toInt = x_8.toInt) (rfl : w.toInt = w.toInt) c_9
              refine lv_aload_n hx hb dX0_exchange_48 rfl (lv_at hl 2 rfl) ?_
              refine gs_get (C := RX0) (T := TX0) (N := 1) hx hb hts inX0 hown hK hM 9 0 0 (by decide) rfl rfl (by decide) (hts _ gm_109) (fun _ h9 => h9) rfl dX0_exchange_49 ?_
              refine lv_iload_n hx hb dX0_exchange_52 rfl (lv_at hl 3 rfl) ?_
              have h_11 : x.toNatClampNeg < 6 := gs_lt (vp_in_iff.mpr ⟨by omega, by omega⟩)
              refine gs_alda hx hb hK hM 10 0 (by decide) rfl (vp_in_iff.mpr ⟨by omega, by omega⟩) (a := ad 11 x.toNatClampNeg) (if_pos h_11) dX0_exchange_53 ?_
              refine lv_iload_n hx hb dX0_exchange_54 rfl (lv_at hl 4 rfl) ?_
              refine lv_iload_n hx hb dX0_exchange_55 rfl (lv_at hl 5 rfl) ?_
              refine gs_iast hx hb hK hI hm hM hS 11 x.toNatClampNeg h_11 (fun _ => rfl) (vp_in_iff.mpr ⟨by omega, by omega⟩) dX0_exchange_56 (fun st_12 H locs est_12 hM hS => ?_)
              have hB_st_12 : gBN bX kX [1100] st st_12 := by rw [est_12]; exact hB_st.up (show (1100 : Nat) ∈ _ from by decide) (gi_lo _) (gi_hi _)
              refine lv_aload_n hx hb dX0_exchange_57 rfl (lv_at hl 2 rfl) ?_
              refine gs_get (C := RX0) (T := TX0) (N := 1) hx hb hts inX0 hown hK hM 9 0 0 (by decide) rfl rfl (by decide) (hts _ gm_109) (fun _ h9 => h9) rfl dX0_exchange_58 ?_
              refine lv_iload_n hx hb dX0_exchange_61 rfl (lv_at hl 3 rfl) ?_
              have h_13 : x.toNatClampNeg < 6 := gs_lt (vp_in_iff.mpr ⟨by omega, by omega⟩)
              refine gs_alda hx hb hK hM 10 0 (by decide) rfl (vp_in_iff.mpr ⟨by omega, by omega⟩) (a := ad 11 x.toNatClampNeg) (if_pos h_13) dX0_exchange_62 ?_
              refine lv_iload hx hb dX0_exchange_63 (lv_at hl 0 rfl) ?_
              refine lv_iload hx hb dX0_exchange_65 (lv_at hl 1 rfl) ?_
              refine gs_iast hx hb hK hI hm hM hS 11 x.toNatClampNeg h_13 (fun _ => rfl) (vp_in_iff.mpr ⟨by omega, by omega⟩) dX0_exchange_67 (fun st_14 H locs est_14 hM hS => ?_)
              have hB_st_14 : gBN bX kX [1100] st st_14 := by rw [est_14]; exact hB_st_12.up (show (1100 : Nat) ∈ _ from by decide) (gi_lo _) (gi_hi _)
              refine lv_iload hx hb dX0_exchange_68 (lv_at hl 0 rfl) ?_
              rw [← hQe]
              exact gs_iret hx hb hr hlocks hM hS rfl ⟨hB_st_14, (by have h8 := hw_1_0; rw [kx, ky] at h8; exact Or.inr (Or.inr ⟨⟨by omega, by omega, by omega, by omega, by omega, by omega⟩, ⟨by omega, by omega, by omega⟩, hv5_1, r_1, by omega, (by rw [est_14, est_12])⟩))⟩ (by exact Nat.le_refl _) (by exact Nat.le_refl _) dX0_exchange_70
      exact lp5 ((200 - (x_4 : Int32).toInt).toNat + 1)  (x_4 : Int32) H _ ls (Nat.lt_succ_self _)  (by omega) (noBk.nil (by omega)) hM hS (lv_sub hl [0, 1, 2, 3, 4, 5] rfl)
    · have ic_3 := gz_eqn (rfl : r_1.toInt = r_1.toInt) (rfl : w.toInt = w.toInt) c_3
      refine lv_iconst (v := (-1)) hx hb dX0_exchange_20 (by decide) ?_
      rw [← hQe]
      exact gs_iret hx hb hr hlocks hM hS rfl ⟨hB_st, (by have h8 := hw_1_0; rw [kx, ky] at h8; exact Or.inl ⟨by omega, by decide, rfl⟩)⟩ (by exact Nat.le_refl _) (by exact Nat.le_refl _) dX0_exchange_21
