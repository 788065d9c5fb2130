theorem gm_469 : (Jvm.Cond.methodLink "WellCourt$Reader" (84 : Nat) ({ cls := "WellCourt$Law", name := "hasTurns", desc := "(I)Z" } : Jvm.MethodName)) ∈ gz_T := gz_at 469 (by decide +kernel) rfl
theorem gm_470 : (Jvm.Cond.instanceMethod ({ cls := "WellCourt$Law", name := "hasTurns", desc := "(I)Z" } : Jvm.MethodName)) ∈ gz_T := gz_at 470 (by decide +kernel) rfl
theorem gm_471 : (Jvm.Cond.selects "WellCourt$Law" ({ cls := "WellCourt$Law", name := "hasTurns", desc := "(I)Z" } : Jvm.MethodName) ({ cls := "WellCourt$Law", name := "hasTurns", desc := "(I)Z" } : Jvm.MethodName)) ∈ gz_T := gz_at 471 (by decide +kernel) rfl
theorem gm_472 : (Jvm.Cond.code ({ cls := "WellCourt$Law", name := "hasTurns", desc := "(I)Z" } : Jvm.MethodName) prog_6_method_3_code (2 : Nat) (Option.some Jvm.ClassFile.FieldType.boolean)) ∈ gz_T := gz_at 472 (by decide +kernel) rfl
theorem gm_488 : (Jvm.Cond.methodLink "WellCourt$Reader" (95 : Nat) ({ cls := "WellCourt$Law", name := "addTurn", desc := "(III)V" } : Jvm.MethodName)) ∈ gz_T := gz_at 488 (by decide +kernel) rfl
theorem gm_489 : (Jvm.Cond.instanceMethod ({ cls := "WellCourt$Law", name := "addTurn", desc := "(III)V" } : Jvm.MethodName)) ∈ gz_T := gz_at 489 (by decide +kernel) rfl
theorem gm_490 : (Jvm.Cond.selects "WellCourt$Law" ({ cls := "WellCourt$Law", name := "addTurn", desc := "(III)V" } : Jvm.MethodName) ({ cls := "WellCourt$Law", name := "addTurn", desc := "(III)V" } : Jvm.MethodName)) ∈ gz_T := gz_at 490 (by decide +kernel) rfl
theorem gm_491 : (Jvm.Cond.code ({ cls := "WellCourt$Law", name := "addTurn", desc := "(III)V" } : Jvm.MethodName) prog_6_method_4_code (5 : Nat) (Option.none : Option Jvm.ClassFile.FieldType)) ∈ gz_T := gz_at 491 (by decide +kernel) rfl
theorem dX7_readTurns_0 : decode cX7_readTurns 0 = .ok (.aload_n 0, 1) := by decide +kernel
theorem dX7_readTurns_1 : decode cX7_readTurns 1 = .ok (.iconst 0, 1) := by decide +kernel
theorem dX7_readTurns_2 : decode cX7_readTurns 2 = .ok (.iconst 5, 1) := by decide +kernel
theorem dX7_readTurns_3 : decode cX7_readTurns 3 = .ok (.invokevirtual 80, 3) := by decide +kernel
theorem dX7_readTurns_6 : decode cX7_readTurns 6 = .ok (.istore_n 2, 1) := by decide +kernel
theorem dX7_readTurns_7 : decode cX7_readTurns 7 = .ok (.iload_n 2, 1) := by decide +kernel
theorem dX7_readTurns_8 : decode cX7_readTurns 8 = .ok (.iconst (-1), 1) := by decide +kernel
theorem dX7_readTurns_9 : decode cX7_readTurns 9 = .ok (.if_icmp .ne 5, 3) := by decide +kernel
theorem dX7_readTurns_12 : decode cX7_readTurns 12 = .ok (.iconst 0, 1) := by decide +kernel
theorem dX7_readTurns_13 : decode cX7_readTurns 13 = .ok (.ireturn, 1) := by decide +kernel
theorem dX7_readTurns_14 : decode cX7_readTurns 14 = .ok (.aload_n 1, 1) := by decide +kernel
theorem dX7_readTurns_15 : decode cX7_readTurns 15 = .ok (.iload_n 2, 1) := by decide +kernel
theorem dX7_readTurns_16 : decode cX7_readTurns 16 = .ok (.invokevirtual 84, 3) := by decide +kernel
theorem dX7_readTurns_19 : decode cX7_readTurns 19 = .ok (.ifCond .eq 9, 3) := by decide +kernel
theorem dX7_readTurns_22 : decode cX7_readTurns 22 = .ok (.aload_n 0, 1) := by decide +kernel
theorem dX7_readTurns_23 : decode cX7_readTurns 23 = .ok (.iconst 3, 1) := by decide +kernel
theorem dX7_readTurns_24 : decode cX7_readTurns 24 = .ok (.invokevirtual 46, 3) := by decide +kernel
theorem dX7_readTurns_27 : decode cX7_readTurns 27 = .ok (.ireturn, 1) := by decide +kernel
theorem dX7_readTurns_28 : decode cX7_readTurns 28 = .ok (.aload_n 0, 1) := by decide +kernel
theorem dX7_readTurns_29 : decode cX7_readTurns 29 = .ok (.bipush 58, 2) := by decide +kernel
theorem dX7_readTurns_31 : decode cX7_readTurns 31 = .ok (.invokevirtual 87, 3) := by decide +kernel
theorem dX7_readTurns_34 : decode cX7_readTurns 34 = .ok (.ifCond .ne 5, 3) := by decide +kernel
theorem dX7_readTurns_37 : decode cX7_readTurns 37 = .ok (.iconst 0, 1) := by decide +kernel
theorem dX7_readTurns_38 : decode cX7_readTurns 38 = .ok (.ireturn, 1) := by decide +kernel
theorem dX7_readTurns_39 : decode cX7_readTurns 39 = .ok (.iconst 0, 1) := by decide +kernel
theorem dX7_readTurns_40 : decode cX7_readTurns 40 = .ok (.istore_n 3, 1) := by decide +kernel
theorem dX7_readTurns_41 : decode cX7_readTurns 41 = .ok (.iload_n 3, 1) := by decide +kernel
theorem dX7_readTurns_42 : decode cX7_readTurns 42 = .ok (.bipush 8, 2) := by decide +kernel
theorem dX7_readTurns_44 : decode cX7_readTurns 44 = .ok (.if_icmp .gt 91, 3) := by decide +kernel
theorem dX7_readTurns_47 : decode cX7_readTurns 47 = .ok (.aload_n 0, 1) := by decide +kernel
theorem dX7_readTurns_48 : decode cX7_readTurns 48 = .ok (.iconst (-1), 1) := by decide +kernel
theorem dX7_readTurns_49 : decode cX7_readTurns 49 = .ok (.invokevirtual 91, 3) := by decide +kernel
theorem dX7_readTurns_52 : decode cX7_readTurns 52 = .ok (.istore 4, 2) := by decide +kernel
theorem dX7_readTurns_54 : decode cX7_readTurns 54 = .ok (.iload 4, 2) := by decide +kernel
theorem dX7_readTurns_56 : decode cX7_readTurns 56 = .ok (.iconst (-1), 1) := by decide +kernel
theorem dX7_readTurns_57 : decode cX7_readTurns 57 = .ok (.if_icmp .ne 5, 3) := by decide +kernel
theorem dX7_readTurns_60 : decode cX7_readTurns 60 = .ok (.iconst 0, 1) := by decide +kernel
theorem dX7_readTurns_61 : decode cX7_readTurns 61 = .ok (.ireturn, 1) := by decide +kernel
theorem dX7_readTurns_62 : decode cX7_readTurns 62 = .ok (.iload_n 3, 1) := by decide +kernel
theorem dX7_readTurns_63 : decode cX7_readTurns 63 = .ok (.bipush 8, 2) := by decide +kernel
theorem dX7_readTurns_65 : decode cX7_readTurns 65 = .ok (.if_icmp .ne 9, 3) := by decide +kernel
theorem dX7_readTurns_68 : decode cX7_readTurns 68 = .ok (.aload_n 0, 1) := by decide +kernel
theorem dX7_readTurns_69 : decode cX7_readTurns 69 = .ok (.iconst 4, 1) := by decide +kernel
theorem dX7_readTurns_70 : decode cX7_readTurns 70 = .ok (.invokevirtual 46, 3) := by decide +kernel
theorem dX7_readTurns_73 : decode cX7_readTurns 73 = .ok (.ireturn, 1) := by decide +kernel
theorem dX7_readTurns_74 : decode cX7_readTurns 74 = .ok (.aload_n 0, 1) := by decide +kernel
theorem dX7_readTurns_75 : decode cX7_readTurns 75 = .ok (.iconst 1, 1) := by decide +kernel
theorem dX7_readTurns_76 : decode cX7_readTurns 76 = .ok (.bipush 9, 2) := by decide +kernel
theorem dX7_readTurns_78 : decode cX7_readTurns 78 = .ok (.invokevirtual 80, 3) := by decide +kernel
theorem dX7_readTurns_81 : decode cX7_readTurns 81 = .ok (.istore 5, 2) := by decide +kernel
theorem dX7_readTurns_83 : decode cX7_readTurns 83 = .ok (.iload 5, 2) := by decide +kernel
theorem dX7_readTurns_85 : decode cX7_readTurns 85 = .ok (.iconst (-1), 1) := by decide +kernel
theorem dX7_readTurns_86 : decode cX7_readTurns 86 = .ok (.if_icmp .ne 5, 3) := by decide +kernel
theorem dX7_readTurns_89 : decode cX7_readTurns 89 = .ok (.iconst 0, 1) := by decide +kernel
theorem dX7_readTurns_90 : decode cX7_readTurns 90 = .ok (.ireturn, 1) := by decide +kernel
theorem dX7_readTurns_91 : decode cX7_readTurns 91 = .ok (.aload_n 1, 1) := by decide +kernel
theorem dX7_readTurns_92 : decode cX7_readTurns 92 = .ok (.iload_n 2, 1) := by decide +kernel
theorem dX7_readTurns_93 : decode cX7_readTurns 93 = .ok (.iload 4, 2) := by decide +kernel
theorem dX7_readTurns_95 : decode cX7_readTurns 95 = .ok (.iload 5, 2) := by decide +kernel
theorem dX7_readTurns_97 : decode cX7_readTurns 97 = .ok (.invokevirtual 95, 3) := by decide +kernel
theorem dX7_readTurns_100 : decode cX7_readTurns 100 = .ok (.aload_n 0, 1) := by decide +kernel
theorem dX7_readTurns_101 : decode cX7_readTurns 101 = .ok (.invokevirtual 31, 3) := by decide +kernel
theorem dX7_readTurns_104 : decode cX7_readTurns 104 = .ok (.aload_n 0, 1) := by decide +kernel
theorem dX7_readTurns_105 : decode cX7_readTurns 105 = .ok (.bipush 59, 2) := by decide +kernel
theorem dX7_readTurns_107 : decode cX7_readTurns 107 = .ok (.invokevirtual 99, 3) := by decide +kernel
theorem dX7_readTurns_110 : decode cX7_readTurns 110 = .ok (.ifCond .eq 5, 3) := by decide +kernel
theorem dX7_readTurns_113 : decode cX7_readTurns 113 = .ok (.iconst 1, 1) := by decide +kernel
theorem dX7_readTurns_114 : decode cX7_readTurns 114 = .ok (.ireturn, 1) := by decide +kernel
theorem dX7_readTurns_115 : decode cX7_readTurns 115 = .ok (.aload_n 0, 1) := by decide +kernel
theorem dX7_readTurns_116 : decode cX7_readTurns 116 = .ok (.bipush 44, 2) := by decide +kernel
theorem dX7_readTurns_118 : decode cX7_readTurns 118 = .ok (.invokevirtual 99, 3) := by decide +kernel
theorem dX7_readTurns_121 : decode cX7_readTurns 121 = .ok (.ifCond .ne 8, 3) := by decide +kernel
theorem dX7_readTurns_124 : decode cX7_readTurns 124 = .ok (.aload_n 0, 1) := by decide +kernel
theorem dX7_readTurns_125 : decode cX7_readTurns 125 = .ok (.invokevirtual 43, 3) := by decide +kernel
theorem dX7_readTurns_128 : decode cX7_readTurns 128 = .ok (.ireturn, 1) := by decide +kernel
theorem dX7_readTurns_129 : decode cX7_readTurns 129 = .ok (.iinc 3 1, 3) := by decide +kernel
theorem dX7_readTurns_132 : decode cX7_readTurns 132 = .ok (.goto (-91), 3) := by decide +kernel
theorem dX7_readTurns_135 : decode cX7_readTurns 135 = .ok (.iconst 0, 1) := by decide +kernel
theorem dX7_readTurns_136 : decode cX7_readTurns 136 = .ok (.ireturn, 1) := by decide +kernel
set_option maxHeartbeats 4000000 in
set_option maxRecDepth 100000 in
/-- WellCourt$Reader.readTurns -/
theorem s_X7_readTurns (l : Launch) (G : va_G) (cy : Nat → ClassId) (sK sV : Nat → Nat) (ad : Nat → Nat → Nat) (sz : Nat) (st : gS) (hB : gBd bX st) (z : Int32) (hz_z : (0 : Int) ≤ z.toInt ∧ z.toInt ≤ (1 : Int)) (F : Nat → Int32) (N : Int) (hF : st 2 0 = F) (hN : (st 1 0 1).toInt = N) (hst : (st 3 0 3).toInt ≤ 800) (rs : List Rl) (hL : LXt rs st z.toNatClampNeg) (hwf : ∀ r ∈ rs, wfR r) : gsMi l yX7_readTurns cX7_readTurns 6 (some .boolean) ({ frames := 4, cells := 0, slots := 0, locals := 89 } : Room) G cy sK sV (shX cy ad) cnX ad sz [.ref (ad 3 0), .ref (ad 25 z.toNatClampNeg)] st (fun (r : Int32) (u : gS) => gBN bX kX [301, 302, 303, 304, 305, 2700, 2800] st u ∧ ((r = 1 ∧ (∃ r9 : Rl, pTurns F N (cLex F N) rs (st 3 0 3).toInt = some (r9, (u 3 0 3).toInt) ∧ r9.1 = 0 ∧ wfR r9 ∧ LXt (rs ++ [r9]) u z.toNatClampNeg) ∧ ((u 3 0 3).toInt ≤ 800) ∧ (lO z.toNatClampNeg st u)) ∨ (r = 0 ∧ (pTurns F N (cLex F N) rs (st 3 0 3).toInt = none) ∧ (lO z.toNatClampNeg st u)))) := by
  refine gs_start (fun A => gsQi G (shX cy ad) cnX ad _ A) (by decide) (Nat.le_of_ble_eq_true rfl) ?_
  intro p e s m below meth c A ls H hx hb hr hml hlocks hown hts hK hov hE hI hM hm hS hA hl
  have hl : lv_has ls 6 [(0, .ref (ad 3 0)), (1, .ref (ad 25 z.toNatClampNeg))] := hl
  have hB_st : gBN bX kX [301, 302, 303, 304, 305, 2700, 2800] st st := gBN.rf hB
  generalize hQe : MQ below _ _ s _ _ A = Q
  refine lv_aload_n hx hb dX7_readTurns_0 rfl (lv_at hl 0 rfl) ?_
  refine lv_iconst (v := 0) hx hb dX7_readTurns_1 (by decide) ?_
  refine lv_iconst (v := 5) hx hb dX7_readTurns_2 (by decide) ?_
  refine gs_calli (va_runV (As := [.int 0, .int 5]) (rest := []) ⟨hx, hb, hml, hown, hts⟩ (s_X7_readNumber l G cy sK sV ad H.size st hB_st.1 (0 : Int32) (5 : Int32) 0 5 (by decide) (by decide) F N hF hN (by have hb0 : (0 : Int) ≤ (st 3 0 3).toInt ∧ (st 3 0 3).toInt ≤ (801 : Int) := hB_st.1 3 0 3; omega)) ⟨(gz_cb (n := 2) hts gm_464 gm_3 gm_467 ⟨by decide +kernel, by decide +kernel, by decide +kernel⟩ ⟨Nat.le_of_ble_eq_true rfl, Nat.le_of_ble_eq_true rfl⟩), hts _ gm_466, hts _ gs_7⟩ (gs_preV hK hov hE hI hM hm hS hA 3 0 (by decide) rfl rfl) rfl rfl hl.1 rfl (lv_room (Nat.le_of_ble_eq_true rfl)) dX7_readTurns_3 ⟨Nat.le_of_ble_eq_true rfl, Nat.le_of_ble_eq_true rfl⟩) hm hS hA (fun r_1 st_1 H locs hw_1 hM hS => ?_)
  obtain ⟨n_1, hw_1⟩ := hw_1
  have hB_st_1 : gBN bX kX [301, 302, 303, 304, 305, 2700, 2800] st st_1 := hB_st.call n_1 (by decide)
  have hbhw_10 : (0 : Int) ≤ (st 3 0 3).toInt ∧ (st 3 0 3).toInt ≤ (801 : Int) := hB_st.1 3 0 3
  have hw_1_0 := hw_1
  refine lv_istore_n (lv' := [(2, .int r_1), (0, .ref (ad 3 0)), (1, .ref (ad 25 z.toNatClampNeg))]) hx hb dX7_readTurns_6 rfl hl (by decide) rfl (fun ls hl => ?_)
  refine lv_iload_n hx hb dX7_readTurns_7 rfl (lv_at hl 0 rfl) ?_
  refine lv_iconst (v := (-1)) hx hb dX7_readTurns_8 (by decide) ?_
  refine lv_icmp_ne (tgt := 14) hx hb dX7_readTurns_9 (by decide) (fun c_2 => ?_) (fun c_2 => ?_)
  · have ic_2 := gz_ne (rfl : r_1.toInt = r_1.toInt) (by decide : ((-1) : Int32).toInt = -1) c_2
    refine lv_aload_n hx hb dX7_readTurns_14 rfl (lv_at hl 2 rfl) ?_
    refine lv_iload_n hx hb dX7_readTurns_15 rfl (lv_at hl 0 rfl) ?_
    refine gs_calli (va_runV (As := [.int r_1]) (rest := []) ⟨hx, hb, hml, hown, hts⟩ (s_X4_hasTurns l G cy sK sV ad H.size st_1 hB_st_1.1 z r_1 r_1.toInt rfl hz_z (by first | decide | omega) (by first | decide | omega)) ⟨(gz_cb (n := 1) hts gm_469 gm_10 gm_472 ⟨by decide +kernel, by decide +kernel, by decide +kernel⟩ ⟨Nat.le_of_ble_eq_true rfl, Nat.le_of_ble_eq_true rfl⟩), hts _ gm_470, hts _ gm_471⟩ (gs_preV hK hov hE hI hM hm hS hA 25 z.toNatClampNeg (gs_sel hz_z) rfl rfl) rfl rfl hl.1 rfl (lv_room (Nat.le_of_ble_eq_true rfl)) dX7_readTurns_16 ⟨Nat.le_of_ble_eq_true rfl, Nat.le_of_ble_eq_true rfl⟩) hm hS hA (fun r_3 st_3 H locs hw_3 hM hS => ?_)
    obtain ⟨n_3, hw_3⟩ := hw_3
    have n_3 := gBN.nil n_3
    subst n_3
    rcases hw_3 with ⟨rfl, hw_3_0⟩ | ⟨rfl, hw_3_0⟩
    · skip
      refine lv_if_eq (tgt := 28) hx hb dX7_readTurns_19 (by decide) (fun h9 => absurd h9 (by decide)) (fun _ => ?_)
      refine lv_aload_n hx hb dX7_readTurns_22 rfl (lv_at hl 1 rfl) ?_
      refine lv_iconst (v := 3) hx hb dX7_readTurns_23 (by decide) ?_
      refine gs_calli (va_runV (As := [.int 3]) (rest := []) ⟨hx, hb, hml, hown, hts⟩ (s_X7_fail l G cy sK sV ad H.size st_1 hB_st_1.1 (3 : Int32) ) ⟨(gz_cb (n := 1) hts gm_456 gm_3 gm_459 ⟨by decide +kernel, by decide +kernel, by decide +kernel⟩ ⟨Nat.le_of_ble_eq_true rfl, Nat.le_of_ble_eq_true rfl⟩), hts _ gm_458, hts _ gs_5⟩ (gs_preV hK hov hE hI hM hm hS hA 3 0 (by decide) rfl rfl) rfl rfl hl.1 rfl (lv_room (Nat.le_of_ble_eq_true rfl)) dX7_readTurns_24 ⟨Nat.le_of_ble_eq_true rfl, Nat.le_of_ble_eq_true rfl⟩) hm hS hA (fun r_4 st_4 H locs hw_4 hM hS => ?_)
      obtain ⟨n_4, hw_4⟩ := hw_4
      have hB_st_4 : gBN bX kX [301, 302, 303, 304, 305, 2700, 2800] st st_4 := hB_st_1.call n_4 (by decide)
      obtain rfl := hw_4
      rw [← hQe]
      exact gs_iret hx hb hr hlocks hM hS (by decide) ⟨hB_st_4, (Or.inr ⟨rfl, (by unfold pTurns; exact obM (hw_1_0.resolve_right (fun h9 => absurd h9.1 (by omega))).1 (if_pos ((LXt.has (LXt.rows hL (fun i9 j9 => (n_1.2 27 i9 j9 (show (2700 : Nat) ∉ _ from by decide)).trans ((fun _ _ => rfl) i9 j9)) (fun i9 j9 => (n_1.2 28 i9 j9 (show (2800 : Nat) ∉ _ from by decide)).trans ((fun _ _ => rfl) i9 j9))) hwf (by omega) (by omega)).mp hw_3_0))), (lO.trans (lO.trans lO.rf (lO.frame n_1.2 (by decide))) (lO.frame n_4.2 (by decide)))⟩)⟩ (by exact Nat.le_refl _) (by exact Nat.le_refl _) dX7_readTurns_27
    · skip
      refine lv_if_eq (tgt := 28) hx hb dX7_readTurns_19 (by decide) (fun _ => ?_) (fun h9 => absurd (by decide) h9)
      refine lv_aload_n hx hb dX7_readTurns_28 rfl (lv_at hl 1 rfl) ?_
      refine lv_bipush (v := 58) hx hb dX7_readTurns_29 (by decide) ?_
      refine gs_calli (va_runV (As := [.int 58]) (rest := []) ⟨hx, hb, hml, hown, hts⟩ (s_X7_readSign l G cy sK sV ad H.size st_1 hB_st_1.1 (58 : Int32) 58 (by decide) F N (((funext (fun j9 => n_1.2 2 0 j9 (show (200 : Nat) ∉ _ from by decide))).trans rfl).trans hF) ((congrArg Int32.toInt ((n_1.2 1 0 1 (show (101 : Nat) ∉ _ from by decide)))).trans hN) (by have hb0 : (0 : Int) ≤ (st_1 3 0 3).toInt ∧ (st_1 3 0 3).toInt ≤ (801 : Int) := hB_st_1.1 3 0 3; omega)) ⟨(gz_cb (n := 1) hts gm_473 gm_3 gm_476 ⟨by decide +kernel, by decide +kernel, by decide +kernel⟩ ⟨Nat.le_of_ble_eq_true rfl, Nat.le_of_ble_eq_true rfl⟩), hts _ gm_475, hts _ gs_8⟩ (gs_preV hK hov hE hI hM hm hS hA 3 0 (by decide) rfl rfl) rfl rfl hl.1 rfl (lv_room (Nat.le_of_ble_eq_true rfl)) dX7_readTurns_31 ⟨Nat.le_of_ble_eq_true rfl, Nat.le_of_ble_eq_true rfl⟩) hm hS hA (fun r_5 st_5 H locs hw_5 hM hS => ?_)
      obtain ⟨n_5, hw_5⟩ := hw_5
      have hB_st_5 : gBN bX kX [301, 302, 303, 304, 305, 2700, 2800] st st_5 := hB_st_1.call n_5 (by decide)
      have hbhw_50 : (0 : Int) ≤ (st_1 3 0 3).toInt ∧ (st_1 3 0 3).toInt ≤ (801 : Int) := hB_st_1.1 3 0 3
      rcases hw_5 with ⟨rfl, hw_5_0, hw_5_1⟩ | ⟨rfl, hw_5_0⟩
      · skip
        refine lv_if_ne (tgt := 39) hx hb dX7_readTurns_34 (by decide) (fun _ => ?_) (fun h9 => absurd h9 (by decide))
        refine lv_iconst (v := 0) hx hb dX7_readTurns_39 (by decide) ?_
        refine lv_istore_n (lv' := [(3, .int 0), (2, .int r_1), (0, .ref (ad 3 0)), (1, .ref (ad 25 z.toNatClampNeg))]) hx hb dX7_readTurns_40 rfl hl (by decide) rfl (fun ls hl => ?_)
        have lp6 : ∀ (n6 : Nat) (sv6 : gS) (y6_0 : Int32) (H : Heap) (locs : List Loc) (ls : Array Slot), (9 - y6_0.toInt).toNat < n6 → gBN bX kX [301, 302, 303, 304, 305, 2700, 2800] st sv6 → (0 ≤ y6_0.toInt) → (y6_0.toInt ≤ 8) → ((sv6 3 0 3).toInt ≤ 800) → (lO z.toNatClampNeg st sv6) → (∃ sh : List (Int × Int), LXt (rs ++ [(0, r_1.toInt, 0, 0, 0, sh)]) sv6 z.toNatClampNeg ∧ (sh.length : Int) = y6_0.toInt ∧ (∀ s ∈ sh, wfS s) ∧ ((pSh F N (cLex F N) (8 - y6_0.toInt).toNat (sv6 3 0 3).toInt).bind fun r9 => some (sh ++ r9.1, r9.2)) = pSh F N (cLex F N) 8 (st_5 3 0 3).toInt) → gM G (shX cy ad) cnX ad sv6 H → va_S A s.heap H locs → lv_has ls 6 [(3, .int y6_0), (2, .int r_1), (0, .ref (ad 3 0)), (1, .ref (ad 25 z.toNatClampNeg))] → W p l e ({ frames := 4, cells := 0, slots := 0, locals := 89 } : Room) s m [.ref (ad 3 0), .ref (ad 25 z.toNatClampNeg)].toArray below meth c H locs 0 0 Q (F0 m 41 ls []) := by
          intro n6
          induction n6 with
          | zero => intro sv6 y6_0 H locs ls h9; exact absurd h9 (Nat.not_lt_zero _)
          | succ n6 ih_6 =>
            intro sv6 y6_0 H locs ls hme6 hB_sv6 hv6_0 hv6_1 hv6_2 hv6_3 hv6_4 hM hS hl
            have hb6_0 : (0 : Int) ≤ (sv6 3 0 3).toInt ∧ (sv6 3 0 3).toInt ≤ (801 : Int) := hB_sv6.1 3 0 3
            have hb6_1 : (0 : Int) ≤ (st_5 3 0 3).toInt ∧ (st_5 3 0 3).toInt ≤ (801 : Int) := hB_st_5.1 3 0 3
            refine lv_iload_n hx hb dX7_readTurns_41 rfl (lv_at hl 0 rfl) ?_
            refine lv_bipush (v := 8) hx hb dX7_readTurns_42 (by decide) ?_
            refine lv_icmp_gt (tgt := 135) hx hb dX7_readTurns_44 (by decide) (fun c_7 => ?_) (fun c_7 => ?_)
            · have ic_7 := gz_lt (by decide : (8 : Int32).toInt = 8) (rfl : y6_0.toInt = y6_0.toInt) c_7
              refine lv_iconst (v := 0) hx hb dX7_readTurns_135 (by decide) ?_
              rw [← hQe]
              exact gs_iret hx hb hr hlocks hM hS (by decide) ⟨hB_sv6, (by exfalso; omega)⟩ (by exact Nat.le_refl _) (by exact Nat.le_refl _) dX7_readTurns_136
            · have ic_7 := gz_nlt (by decide : (8 : Int32).toInt = 8) (rfl : y6_0.toInt = y6_0.toInt) c_7
              obtain ⟨sh, hsh1, hsh2, hsh3, hsh4⟩ := hv6_4
              refine lv_aload_n hx hb dX7_readTurns_47 rfl (lv_at hl 2 rfl) ?_
              refine lv_iconst (v := (-1)) hx hb dX7_readTurns_48 (by decide) ?_
              refine gs_calli (va_runV (As := [.int (-1)]) (rest := []) ⟨hx, hb, hml, hown, hts⟩ (s_X7_readClan l G cy sK sV ad H.size sv6 hB_sv6.1 ((-1) : Int32) (-1) (by decide) F N (((funext (fun j9 => hB_sv6.2 2 0 j9 (show (200 : Nat) ∉ _ from by decide))).trans rfl).trans hF) ((congrArg Int32.toInt ((hB_sv6.2 1 0 1 (show (101 : Nat) ∉ _ from by decide)))).trans hN) (by have hb0 : (0 : Int) ≤ (sv6 3 0 3).toInt ∧ (sv6 3 0 3).toInt ≤ (801 : Int) := hB_sv6.1 3 0 3; omega)) ⟨(gz_cb (n := 1) hts gm_481 gm_3 gm_484 ⟨by decide +kernel, by decide +kernel, by decide +kernel⟩ ⟨Nat.le_of_ble_eq_true rfl, Nat.le_of_ble_eq_true rfl⟩), hts _ gm_483, hts _ gs_10⟩ (gs_preV hK hov hE hI hM hm hS hA 3 0 (by decide) rfl rfl) rfl rfl hl.1 rfl (lv_room (Nat.le_of_ble_eq_true rfl)) dX7_readTurns_49 ⟨Nat.le_of_ble_eq_true rfl, Nat.le_of_ble_eq_true rfl⟩) hm hS hA (fun r_8 st_8 H locs hw_8 hM hS => ?_)
              obtain ⟨n_8, hw_8⟩ := hw_8
              have hB_st_8 : gBN bX kX [301, 302, 303, 304, 305, 2700, 2800] st st_8 := hB_sv6.call n_8 (by decide)
              have hbhw_80 : (0 : Int) ≤ (sv6 3 0 3).toInt ∧ (sv6 3 0 3).toInt ≤ (801 : Int) := hB_sv6.1 3 0 3
              have hw_8_0 := hw_8
              refine lv_istore (lv' := [(4, .int r_8), (3, .int y6_0), (2, .int r_1), (0, .ref (ad 3 0)), (1, .ref (ad 25 z.toNatClampNeg))]) hx hb dX7_readTurns_52 hl (by decide) rfl (fun ls hl => ?_)
              refine lv_iload hx hb dX7_readTurns_54 (lv_at hl 0 rfl) ?_
              refine lv_iconst (v := (-1)) hx hb dX7_readTurns_56 (by decide) ?_
              refine lv_icmp_ne (tgt := 62) hx hb dX7_readTurns_57 (by decide) (fun c_9 => ?_) (fun c_9 => ?_)
              · have ic_9 := gz_ne (rfl : r_8.toInt = r_8.toInt) (by decide : ((-1) : Int32).toInt = -1) c_9
                refine lv_iload_n hx hb dX7_readTurns_62 rfl (lv_at hl 1 rfl) ?_
                refine lv_bipush (v := 8) hx hb dX7_readTurns_63 (by decide) ?_
                refine lv_icmp_ne (tgt := 74) hx hb dX7_readTurns_65 (by decide) (fun c_10 => ?_) (fun c_10 => ?_)
                · have ic_10 := gz_ne (rfl : y6_0.toInt = y6_0.toInt) (by decide : (8 : Int32).toInt = 8) c_10
                  refine lv_aload_n hx hb dX7_readTurns_74 rfl (lv_at hl 3 rfl) ?_
                  refine lv_iconst (v := 1) hx hb dX7_readTurns_75 (by decide) ?_
                  refine lv_bipush (v := 9) hx hb dX7_readTurns_76 (by decide) ?_
                  refine gs_calli (va_runV (As := [.int 1, .int 9]) (rest := []) ⟨hx, hb, hml, hown, hts⟩ (s_X7_readNumber l G cy sK sV ad H.size st_8 hB_st_8.1 (1 : Int32) (9 : Int32) 1 9 (by decide) (by decide) F N (((funext (fun j9 => n_8.2 2 0 j9 (show (200 : Nat) ∉ _ from by decide))).trans ((funext (fun j9 => hB_sv6.2 2 0 j9 (show (200 : Nat) ∉ _ from by decide))).trans rfl)).trans hF) ((congrArg Int32.toInt (((n_8.2 1 0 1 (show (101 : Nat) ∉ _ from by decide)).trans (hB_sv6.2 1 0 1 (show (101 : Nat) ∉ _ from by decide))))).trans hN) (by have hb0 : (0 : Int) ≤ (st_8 3 0 3).toInt ∧ (st_8 3 0 3).toInt ≤ (801 : Int) := hB_st_8.1 3 0 3; omega)) ⟨(gz_cb (n := 2) hts gm_464 gm_3 gm_467 ⟨by decide +kernel, by decide +kernel, by decide +kernel⟩ ⟨Nat.le_of_ble_eq_true rfl, Nat.le_of_ble_eq_true rfl⟩), hts _ gm_466, hts _ gs_7⟩ (gs_preV hK hov hE hI hM hm hS hA 3 0 (by decide) rfl rfl) rfl rfl hl.1 rfl (lv_room (Nat.le_of_ble_eq_true rfl)) dX7_readTurns_78 ⟨Nat.le_of_ble_eq_true rfl, Nat.le_of_ble_eq_true rfl⟩) hm hS hA (fun r_11 st_11 H locs hw_11 hM hS => ?_)
                  obtain ⟨n_11, hw_11⟩ := hw_11
                  have hB_st_11 : gBN bX kX [301, 302, 303, 304, 305, 2700, 2800] st st_11 := hB_st_8.call n_11 (by decide)
                  have hbhw_110 : (0 : Int) ≤ (st_8 3 0 3).toInt ∧ (st_8 3 0 3).toInt ≤ (801 : Int) := hB_st_8.1 3 0 3
                  have hw_11_0 := hw_11
                  refine lv_istore (lv' := [(5, .int r_11), (4, .int r_8), (3, .int y6_0), (2, .int r_1), (0, .ref (ad 3 0)), (1, .ref (ad 25 z.toNatClampNeg))]) hx hb dX7_readTurns_81 hl (by decide) rfl (fun ls hl => ?_)
                  refine lv_iload hx hb dX7_readTurns_83 (lv_at hl 0 rfl) ?_
                  refine lv_iconst (v := (-1)) hx hb dX7_readTurns_85 (by decide) ?_
                  refine lv_icmp_ne (tgt := 91) hx hb dX7_readTurns_86 (by decide) (fun c_12 => ?_) (fun c_12 => ?_)
                  · have ic_12 := gz_ne (rfl : r_11.toInt = r_11.toInt) (by decide : ((-1) : Int32).toInt = -1) c_12
                    have hfit9 := LXt.fit hsh1 hwf hsh3 (by omega) (by omega) (fun h9 => absurd ((LXt.has (LXt.rows hL (fun i9 j9 => (n_1.2 27 i9 j9 (show (2700 : Nat) ∉ _ from by decide)).trans ((fun _ _ => rfl) i9 j9)) (fun i9 j9 => (n_1.2 28 i9 j9 (show (2800 : Nat) ∉ _ from by decide)).trans ((fun _ _ => rfl) i9 j9))) hwf (by omega) (by omega)).mpr h9) (by omega))
                    have hfit8 : (st_11 28 z.toNatClampNeg r_1.toNatClampNeg).toInt = (sv6 28 z.toNatClampNeg r_1.toNatClampNeg).toInt := congrArg Int32.toInt ((fun i9 j9 => (n_11.2 28 i9 j9 (show (2800 : Nat) ∉ _ from by decide)).trans ((fun i9 j9 => (n_8.2 28 i9 j9 (show (2800 : Nat) ∉ _ from by decide)).trans ((fun _ _ => rfl) i9 j9)) i9 j9)) _ _)
                    refine lv_aload_n hx hb dX7_readTurns_91 rfl (lv_at hl 5 rfl) ?_
                    refine lv_iload_n hx hb dX7_readTurns_92 rfl (lv_at hl 3 rfl) ?_
                    refine lv_iload hx hb dX7_readTurns_93 (lv_at hl 1 rfl) ?_
                    refine lv_iload hx hb dX7_readTurns_95 (lv_at hl 0 rfl) ?_
                    refine gs_callv (va_runV (As := [.int r_1, .int r_8, .int r_11]) (rest := []) ⟨hx, hb, hml, hown, hts⟩ (s_X4_addTurn l G cy sK sV ad H.size st_11 hB_st_11.1 z r_1 r_8 r_11 r_1.toInt r_8.toInt r_11.toInt rfl rfl rfl hz_z (by first | decide | omega) (by first | decide | omega) (by first | decide | omega) (by omega)) ⟨(gz_cb (n := 3) hts gm_488 gm_10 gm_491 ⟨by decide +kernel, by decide +kernel, by decide +kernel⟩ ⟨Nat.le_of_ble_eq_true rfl, Nat.le_of_ble_eq_true rfl⟩), hts _ gm_489, hts _ gm_490⟩ (gs_preV hK hov hE hI hM hm hS hA 25 z.toNatClampNeg (gs_sel hz_z) rfl rfl) rfl rfl hl.1 rfl (lv_room (Nat.le_of_ble_eq_true rfl)) dX7_readTurns_97 ⟨Nat.le_of_ble_eq_true rfl, Nat.le_of_ble_eq_true rfl⟩) hm hS hA (fun st_13 H locs hw_13 hM hS => ?_)
                    obtain ⟨n_13, hw_13⟩ := hw_13
                    have hB_st_13 : gBN bX kX [301, 302, 303, 304, 305, 2700, 2800] st st_13 := hB_st_11.call n_13 (by decide)
                    obtain ⟨hw_13_0, hw_13_1, hw_13_2⟩ := hw_13
                    refine lv_aload_n hx hb dX7_readTurns_100 rfl (lv_at hl 4 rfl) ?_
                    refine gs_callv (va_runV (As := []) (rest := []) ⟨hx, hb, hml, hown, hts⟩ (s_X7_advance l G cy sK sV ad H.size st_13 hB_st_13.1  F N (((funext (fun j9 => n_13.2 2 0 j9 (show (200 : Nat) ∉ _ from by decide))).trans ((funext (fun j9 => n_11.2 2 0 j9 (show (200 : Nat) ∉ _ from by decide))).trans ((funext (fun j9 => n_8.2 2 0 j9 (show (200 : Nat) ∉ _ from by decide))).trans ((funext (fun j9 => hB_sv6.2 2 0 j9 (show (200 : Nat) ∉ _ from by decide))).trans rfl)))).trans hF) ((congrArg Int32.toInt (((n_13.2 1 0 1 (show (101 : Nat) ∉ _ from by decide)).trans ((n_11.2 1 0 1 (show (101 : Nat) ∉ _ from by decide)).trans ((n_8.2 1 0 1 (show (101 : Nat) ∉ _ from by decide)).trans (hB_sv6.2 1 0 1 (show (101 : Nat) ∉ _ from by decide))))))).trans hN) (by have hq0 : (st_13 3 0 3).toInt = ((st_11 3 0 3) : Int32).toInt := congrArg Int32.toInt ((n_13.2 3 0 3 (show (303 : Nat) ∉ _ from by decide))); have hb1 : (0 : Int) ≤ (st_13 3 0 3).toInt ∧ (st_13 3 0 3).toInt ≤ (801 : Int) := hB_st_13.1 3 0 3; omega)) ⟨(gz_cb (n := 0) hts gm_367 gm_3 gm_370 ⟨by decide +kernel, by decide +kernel, by decide +kernel⟩ ⟨Nat.le_of_ble_eq_true rfl, Nat.le_of_ble_eq_true rfl⟩), hts _ gm_369, hts _ gs_0⟩ (gs_preV hK hov hE hI hM hm hS hA 3 0 (by decide) rfl rfl) rfl rfl hl.1 rfl (lv_room (Nat.le_of_ble_eq_true rfl)) dX7_readTurns_101 ⟨Nat.le_of_ble_eq_true rfl, Nat.le_of_ble_eq_true rfl⟩) hm hS hA (fun st_14 H locs hw_14 hM hS => ?_)
                    obtain ⟨n_14, hw_14⟩ := hw_14
                    have hB_st_14 : gBN bX kX [301, 302, 303, 304, 305, 2700, 2800] st st_14 := hB_st_13.call n_14 (by decide)
                    have hqhw_140 : (st_13 3 0 3).toInt = ((st_11 3 0 3) : Int32).toInt := congrArg Int32.toInt ((n_13.2 3 0 3 (show (303 : Nat) ∉ _ from by decide)))
                    have hbhw_141 : (0 : Int) ≤ (st_13 3 0 3).toInt ∧ (st_13 3 0 3).toInt ≤ (801 : Int) := hB_st_13.1 3 0 3
                    obtain ⟨hw_14_0, hw_14_1⟩ := hw_14
                    refine lv_aload_n hx hb dX7_readTurns_104 rfl (lv_at hl 4 rfl) ?_
                    refine lv_bipush (v := 59) hx hb dX7_readTurns_105 (by decide) ?_
                    refine gs_calli (va_runV (As := [.int 59]) (rest := []) ⟨hx, hb, hml, hown, hts⟩ (s_X7_isSign l G cy sK sV ad H.size st_14 hB_st_14.1 (59 : Int32) 59 (by decide) F N (((funext (fun j9 => n_14.2 2 0 j9 (show (200 : Nat) ∉ _ from by decide))).trans ((funext (fun j9 => n_13.2 2 0 j9 (show (200 : Nat) ∉ _ from by decide))).trans ((funext (fun j9 => n_11.2 2 0 j9 (show (200 : Nat) ∉ _ from by decide))).trans ((funext (fun j9 => n_8.2 2 0 j9 (show (200 : Nat) ∉ _ from by decide))).trans ((funext (fun j9 => hB_sv6.2 2 0 j9 (show (200 : Nat) ∉ _ from by decide))).trans rfl))))).trans hF) ((congrArg Int32.toInt (((n_14.2 1 0 1 (show (101 : Nat) ∉ _ from by decide)).trans ((n_13.2 1 0 1 (show (101 : Nat) ∉ _ from by decide)).trans ((n_11.2 1 0 1 (show (101 : Nat) ∉ _ from by decide)).trans ((n_8.2 1 0 1 (show (101 : Nat) ∉ _ from by decide)).trans (hB_sv6.2 1 0 1 (show (101 : Nat) ∉ _ from by decide)))))))).trans hN)) ⟨(gz_cb (n := 1) hts gm_477 gm_3 gm_480 ⟨by decide +kernel, by decide +kernel, by decide +kernel⟩ ⟨Nat.le_of_ble_eq_true rfl, Nat.le_of_ble_eq_true rfl⟩), hts _ gm_479, hts _ gs_9⟩ (gs_preV hK hov hE hI hM hm hS hA 3 0 (by decide) rfl rfl) rfl rfl hl.1 rfl (lv_room (Nat.le_of_ble_eq_true rfl)) dX7_readTurns_107 ⟨Nat.le_of_ble_eq_true rfl, Nat.le_of_ble_eq_true rfl⟩) hm hS hA (fun r_15 st_15 H locs hw_15 hM hS => ?_)
                    obtain ⟨n_15, hw_15⟩ := hw_15
                    have n_15 := gBN.nil n_15
                    subst n_15
                    have hbhw_150 : (0 : Int) ≤ (st_14 3 0 2).toInt ∧ (st_14 3 0 2).toInt ≤ (800 : Int) := hB_st_14.1 3 0 2
                    rcases hw_15 with ⟨rfl, hw_15_0⟩ | ⟨rfl, hw_15_0⟩
                    · skip
                      refine lv_if_eq (tgt := 115) hx hb dX7_readTurns_110 (by decide) (fun h9 => absurd h9 (by decide)) (fun _ => ?_)
                      refine lv_iconst (v := 1) hx hb dX7_readTurns_113 (by decide) ?_
                      rw [← hQe]
                      exact gs_iret hx hb hr hlocks hM hS (by decide) ⟨hB_st_14, (Or.inl ⟨rfl, ⟨(0, r_1.toInt, 0, 0, 0, sh ++ [(r_8.toInt, r_11.toInt)]), (by unfold pTurns; exact obM (hw_1_0.resolve_right (fun h9 => absurd h9.1 (by omega))).1 ((if_neg (fun h9 => absurd ((LXt.has (LXt.rows hL (fun i9 j9 => (n_1.2 27 i9 j9 (show (2700 : Nat) ∉ _ from by decide)).trans ((fun _ _ => rfl) i9 j9)) (fun i9 j9 => (n_1.2 28 i9 j9 (show (2800 : Nat) ∉ _ from by decide)).trans ((fun _ _ => rfl) i9 j9))) hwf (by omega) (by omega)).mpr h9) (by omega))).trans (obM hw_5_0 (obM (hsh4.symm.trans (by rw [show (8 - y6_0.toInt).toNat = (7 - y6_0.toInt).toNat + 1 by omega]; exact obM (pSh_end (hw_8_0.resolve_right (fun h9 => absurd h9.1 (by omega))).1 (hw_11_0.resolve_right (fun h9 => absurd h9.1 (by omega))).1 (by rw [← show (st_13 3 0 3).toInt = (st_11 3 0 3).toInt from (congrArg Int32.toInt ((n_13.2 3 0 3 (show (303 : Nat) ∉ _ from by decide))))]; exact gSign_yes hw_14_0 (by omega) (by omega))) rfl)) rfl)))), rfl, wf_t ⟨by omega, by omega⟩ (by rw [List.length_append, List.length_singleton]; omega) (wfS_app hsh3 ⟨⟨by show 0 ≤ r_8.toInt; omega, by show r_8.toInt ≤ 5; omega⟩, by show 1 ≤ r_11.toInt; omega, by show r_11.toInt ≤ 9; omega⟩) (by simp), (LXt.rows (LXt.add (LXt.rows hsh1 (fun i9 j9 => (n_11.2 27 i9 j9 (show (2700 : Nat) ∉ _ from by decide)).trans ((fun i9 j9 => (n_8.2 27 i9 j9 (show (2700 : Nat) ∉ _ from by decide)).trans ((fun _ _ => rfl) i9 j9)) i9 j9)) (fun i9 j9 => (n_11.2 28 i9 j9 (show (2800 : Nat) ∉ _ from by decide)).trans ((fun i9 j9 => (n_8.2 28 i9 j9 (show (2800 : Nat) ∉ _ from by decide)).trans ((fun _ _ => rfl) i9 j9)) i9 j9))) (by omega) (by omega) hw_13_0 hw_13_1) (fun i9 j9 => (n_14.2 27 i9 j9 (show (2700 : Nat) ∉ _ from by decide)).trans ((fun _ _ => rfl) i9 j9)) (fun i9 j9 => (n_14.2 28 i9 j9 (show (2800 : Nat) ∉ _ from by decide)).trans ((fun _ _ => rfl) i9 j9)))⟩, (by have hb0 : (0 : Int) ≤ (st_14 3 0 3).toInt ∧ (st_14 3 0 3).toInt ≤ (801 : Int) := hB_st_14.1 3 0 3; omega), (lO.trans (lO.trans (lO.trans (lO.trans hv6_3 (lO.frame n_8.2 (by decide))) (lO.frame n_11.2 (by decide))) hw_13_2) (lO.frame n_14.2 (by decide)))⟩)⟩ (by exact Nat.le_refl _) (by exact Nat.le_refl _) dX7_readTurns_114
                    · skip
                      refine lv_if_eq (tgt := 115) hx hb dX7_readTurns_110 (by decide) (fun _ => ?_) (fun h9 => absurd (by decide) h9)
                      refine lv_aload_n hx hb dX7_readTurns_115 rfl (lv_at hl 4 rfl) ?_
                      refine lv_bipush (v := 44) hx hb dX7_readTurns_116 (by decide) ?_
                      refine gs_calli (va_runV (As := [.int 44]) (rest := []) ⟨hx, hb, hml, hown, hts⟩ (s_X7_isSign l G cy sK sV ad H.size st_14 hB_st_14.1 (44 : Int32) 44 (by decide) F N (((funext (fun j9 => n_14.2 2 0 j9 (show (200 : Nat) ∉ _ from by decide))).trans ((funext (fun j9 => n_13.2 2 0 j9 (show (200 : Nat) ∉ _ from by decide))).trans ((funext (fun j9 => n_11.2 2 0 j9 (show (200 : Nat) ∉ _ from by decide))).trans ((funext (fun j9 => n_8.2 2 0 j9 (show (200 : Nat) ∉ _ from by decide))).trans ((funext (fun j9 => hB_sv6.2 2 0 j9 (show (200 : Nat) ∉ _ from by decide))).trans rfl))))).trans hF) ((congrArg Int32.toInt (((n_14.2 1 0 1 (show (101 : Nat) ∉ _ from by decide)).trans ((n_13.2 1 0 1 (show (101 : Nat) ∉ _ from by decide)).trans ((n_11.2 1 0 1 (show (101 : Nat) ∉ _ from by decide)).trans ((n_8.2 1 0 1 (show (101 : Nat) ∉ _ from by decide)).trans (hB_sv6.2 1 0 1 (show (101 : Nat) ∉ _ from by decide)))))))).trans hN)) ⟨(gz_cb (n := 1) hts gm_477 gm_3 gm_480 ⟨by decide +kernel, by decide +kernel, by decide +kernel⟩ ⟨Nat.le_of_ble_eq_true rfl, Nat.le_of_ble_eq_true rfl⟩), hts _ gm_479, hts _ gs_9⟩ (gs_preV hK hov hE hI hM hm hS hA 3 0 (by decide) rfl rfl) rfl rfl hl.1 rfl (lv_room (Nat.le_of_ble_eq_true rfl)) dX7_readTurns_118 ⟨Nat.le_of_ble_eq_true rfl, Nat.le_of_ble_eq_true rfl⟩) hm hS hA (fun r_16 st_16 H locs hw_16 hM hS => ?_)
                      obtain ⟨n_16, hw_16⟩ := hw_16
                      have n_16 := gBN.nil n_16
                      subst n_16
                      rcases hw_16 with ⟨rfl, hw_16_0⟩ | ⟨rfl, hw_16_0⟩
                      · skip
                        refine lv_if_ne (tgt := 129) hx hb dX7_readTurns_121 (by decide) (fun _ => ?_) (fun h9 => absurd h9 (by decide))
                        obtain ⟨x_17, ex_17⟩ : ∃ y : Int32, y = y6_0 + 1 := ⟨_, rfl⟩
                        try have tx_17 : x_17.toInt = y6_0.toInt + 1 := by rw [ex_17]; exact gz_addP (x := y6_0.toInt) (y := 1) rfl (by decide) (by omega) (by omega)
                        refine lv_iinc (v := (x_17)) (lv' := [(3, .int x_17), (5, .int r_11), (4, .int r_8), (2, .int r_1), (0, .ref (ad 3 0)), (1, .ref (ad 25 z.toNatClampNeg))]) hx hb dX7_readTurns_129 hl (k := 2) rfl (by rw [ex_17]; rfl) (by decide) rfl (fun ls hl => ?_)
                        refine lv_goto (tgt := 41) hx hb dX7_readTurns_132 (by decide) ?_
                        exact ih_6 st_14 (x_17 : Int32) H _ ls (by omega) hB_st_14 (by omega) (by omega) (by have hb0 : (0 : Int) ≤ (st_14 3 0 3).toInt ∧ (st_14 3 0 3).toInt ≤ (801 : Int) := hB_st_14.1 3 0 3; omega) (lO.trans (lO.trans (lO.trans (lO.trans hv6_3 (lO.frame n_8.2 (by decide))) (lO.frame n_11.2 (by decide))) hw_13_2) (lO.frame n_14.2 (by decide))) ⟨sh ++ [(r_8.toInt, r_11.toInt)], (LXt.rows (LXt.add (LXt.rows hsh1 (fun i9 j9 => (n_11.2 27 i9 j9 (show (2700 : Nat) ∉ _ from by decide)).trans ((fun i9 j9 => (n_8.2 27 i9 j9 (show (2700 : Nat) ∉ _ from by decide)).trans ((fun _ _ => rfl) i9 j9)) i9 j9)) (fun i9 j9 => (n_11.2 28 i9 j9 (show (2800 : Nat) ∉ _ from by decide)).trans ((fun i9 j9 => (n_8.2 28 i9 j9 (show (2800 : Nat) ∉ _ from by decide)).trans ((fun _ _ => rfl) i9 j9)) i9 j9))) (by omega) (by omega) hw_13_0 hw_13_1) (fun i9 j9 => (n_14.2 27 i9 j9 (show (2700 : Nat) ∉ _ from by decide)).trans ((fun _ _ => rfl) i9 j9)) (fun i9 j9 => (n_14.2 28 i9 j9 (show (2800 : Nat) ∉ _ from by decide)).trans ((fun _ _ => rfl) i9 j9))), (by rw [List.length_append, List.length_singleton]; omega), wfS_app hsh3 ⟨⟨by show 0 ≤ r_8.toInt; omega, by show r_8.toInt ≤ 5; omega⟩, by show 1 ≤ r_11.toInt; omega, by show r_11.toInt ≤ 9; omega⟩, (by rw [← hsh4, show (8 - y6_0.toInt).toNat = (8 - x_17.toInt).toNat + 1 by omega, pSh_go (hw_8_0.resolve_right (fun h9 => absurd h9.1 (by omega))).1 (hw_11_0.resolve_right (fun h9 => absurd h9.1 (by omega))).1 (by rw [← show (st_13 3 0 3).toInt = (st_11 3 0 3).toInt from (congrArg Int32.toInt ((n_13.2 3 0 3 (show (303 : Nat) ∉ _ from by decide))))]; exact gSign_no hw_14_0 (by omega)) (by rw [← show (st_13 3 0 3).toInt = (st_11 3 0 3).toInt from (congrArg Int32.toInt ((n_13.2 3 0 3 (show (303 : Nat) ∉ _ from by decide))))]; exact gSign_yes hw_14_0 (by omega) (by omega)), pSh_fold])⟩ hM hS (lv_sub hl [0, 3, 4, 5] rfl)
                      · skip
                        refine lv_if_ne (tgt := 129) hx hb dX7_readTurns_121 (by decide) (fun h9 => absurd (by decide) h9) (fun _ => ?_)
                        refine lv_aload_n hx hb dX7_readTurns_124 rfl (lv_at hl 4 rfl) ?_
                        refine gs_calli (va_runV (As := []) (rest := []) ⟨hx, hb, hml, hown, hts⟩ (s_X7_cannotCome l G cy sK sV ad H.size st_14 hB_st_14.1  ) ⟨(gz_cb (n := 0) hts gm_452 gm_3 gm_455 ⟨by decide +kernel, by decide +kernel, by decide +kernel⟩ ⟨Nat.le_of_ble_eq_true rfl, Nat.le_of_ble_eq_true rfl⟩), hts _ gm_454, hts _ gs_4⟩ (gs_preV hK hov hE hI hM hm hS hA 3 0 (by decide) rfl rfl) rfl rfl hl.1 rfl (lv_room (Nat.le_of_ble_eq_true rfl)) dX7_readTurns_125 ⟨Nat.le_of_ble_eq_true rfl, Nat.le_of_ble_eq_true rfl⟩) hm hS hA (fun r_18 st_18 H locs hw_18 hM hS => ?_)
                        obtain ⟨n_18, hw_18⟩ := hw_18
                        have hB_st_18 : gBN bX kX [301, 302, 303, 304, 305, 2700, 2800] st st_18 := hB_st_14.call n_18 (by decide)
                        obtain rfl := hw_18
                        rw [← hQe]
                        exact gs_iret hx hb hr hlocks hM hS (by decide) ⟨hB_st_18, (Or.inr ⟨rfl, (by unfold pTurns; exact obM (hw_1_0.resolve_right (fun h9 => absurd h9.1 (by omega))).1 ((if_neg (fun h9 => absurd ((LXt.has (LXt.rows hL (fun i9 j9 => (n_1.2 27 i9 j9 (show (2700 : Nat) ∉ _ from by decide)).trans ((fun _ _ => rfl) i9 j9)) (fun i9 j9 => (n_1.2 28 i9 j9 (show (2800 : Nat) ∉ _ from by decide)).trans ((fun _ _ => rfl) i9 j9))) hwf (by omega) (by omega)).mpr h9) (by omega))).trans (obM hw_5_0 (obN (hsh4.symm.trans (obN (pSh_ns (hw_8_0.resolve_right (fun h9 => absurd h9.1 (by omega))).1 (hw_11_0.resolve_right (fun h9 => absurd h9.1 (by omega))).1 (by rw [← show (st_13 3 0 3).toInt = (st_11 3 0 3).toInt from (congrArg Int32.toInt ((n_13.2 3 0 3 (show (303 : Nat) ∉ _ from by decide))))]; exact gSign_no hw_14_0 (by omega)) (by rw [← show (st_13 3 0 3).toInt = (st_11 3 0 3).toInt from (congrArg Int32.toInt ((n_13.2 3 0 3 (show (303 : Nat) ∉ _ from by decide))))]; exact gSign_no hw_14_0 (by omega))))))))), (lO.trans (lO.trans (lO.trans (lO.trans (lO.trans hv6_3 (lO.frame n_8.2 (by decide))) (lO.frame n_11.2 (by decide))) hw_13_2) (lO.frame n_14.2 (by decide))) (lO.frame n_18.2 (by decide)))⟩)⟩ (by exact Nat.le_refl _) (by exact Nat.le_refl _) dX7_readTurns_128
                  · have ic_12 := gz_eqn (rfl : r_11.toInt = r_11.toInt) (by decide : ((-1) : Int32).toInt = -1) c_12
                    refine lv_iconst (v := 0) hx hb dX7_readTurns_89 (by decide) ?_
                    rw [← hQe]
                    exact gs_iret hx hb hr hlocks hM hS (by decide) ⟨hB_st_11, (Or.inr ⟨rfl, (by unfold pTurns; exact obM (hw_1_0.resolve_right (fun h9 => absurd h9.1 (by omega))).1 ((if_neg (fun h9 => absurd ((LXt.has (LXt.rows hL (fun i9 j9 => (n_1.2 27 i9 j9 (show (2700 : Nat) ∉ _ from by decide)).trans ((fun _ _ => rfl) i9 j9)) (fun i9 j9 => (n_1.2 28 i9 j9 (show (2800 : Nat) ∉ _ from by decide)).trans ((fun _ _ => rfl) i9 j9))) hwf (by omega) (by omega)).mpr h9) (by omega))).trans (obM hw_5_0 (obN (hsh4.symm.trans (obN (pSh_nn (hw_8_0.resolve_right (fun h9 => absurd h9.1 (by omega))).1 (hw_11_0.resolve_left (fun h9 => absurd h9.2.1 (by omega))).2))))))), (lO.trans (lO.trans hv6_3 (lO.frame n_8.2 (by decide))) (lO.frame n_11.2 (by decide)))⟩)⟩ (by exact Nat.le_refl _) (by exact Nat.le_refl _) dX7_readTurns_90
                · have ic_10 := gz_eqn (rfl : y6_0.toInt = y6_0.toInt) (by decide : (8 : Int32).toInt = 8) c_10
                  refine lv_aload_n hx hb dX7_readTurns_68 rfl (lv_at hl 3 rfl) ?_
                  refine lv_iconst (v := 4) hx hb dX7_readTurns_69 (by decide) ?_
                  refine gs_calli (va_runV (As := [.int 4]) (rest := []) ⟨hx, hb, hml, hown, hts⟩ (s_X7_fail l G cy sK sV ad H.size st_8 hB_st_8.1 (4 : Int32) ) ⟨(gz_cb (n := 1) hts gm_456 gm_3 gm_459 ⟨by decide +kernel, by decide +kernel, by decide +kernel⟩ ⟨Nat.le_of_ble_eq_true rfl, Nat.le_of_ble_eq_true rfl⟩), hts _ gm_458, hts _ gs_5⟩ (gs_preV hK hov hE hI hM hm hS hA 3 0 (by decide) rfl rfl) rfl rfl hl.1 rfl (lv_room (Nat.le_of_ble_eq_true rfl)) dX7_readTurns_70 ⟨Nat.le_of_ble_eq_true rfl, Nat.le_of_ble_eq_true rfl⟩) hm hS hA (fun r_19 st_19 H locs hw_19 hM hS => ?_)
                  obtain ⟨n_19, hw_19⟩ := hw_19
                  have hB_st_19 : gBN bX kX [301, 302, 303, 304, 305, 2700, 2800] st st_19 := hB_st_8.call n_19 (by decide)
                  obtain rfl := hw_19
                  rw [← hQe]
                  exact gs_iret hx hb hr hlocks hM hS (by decide) ⟨hB_st_19, (by first | exact (Or.inr ⟨rfl, (by unfold pTurns; exact obM (hw_1_0.resolve_right (fun h9 => absurd h9.1 (by omega))).1 ((if_neg (fun h9 => absurd ((LXt.has (LXt.rows hL (fun i9 j9 => (n_1.2 27 i9 j9 (show (2700 : Nat) ∉ _ from by decide)).trans ((fun _ _ => rfl) i9 j9)) (fun i9 j9 => (n_1.2 28 i9 j9 (show (2800 : Nat) ∉ _ from by decide)).trans ((fun _ _ => rfl) i9 j9))) hwf (by omega) (by omega)).mpr h9) (by omega))).trans (obM hw_5_0 (obN (hsh4.symm.trans (obN ((hw_8_0.resolve_left (fun h9 => absurd h9.2.1 (by omega))).2.elim (fun h9 => pSh_nc h9) (fun ⟨q9, h9⟩ => absurd (show (0 : Int) ≤ -1 from (gClan_ok h9).2.2.1) (by decide))))))))), (lO.trans (lO.trans hv6_3 (lO.frame n_8.2 (by decide))) (lO.frame n_19.2 (by decide)))⟩) | exact (Or.inr ⟨rfl, (by unfold pTurns; exact obM (hw_1_0.resolve_right (fun h9 => absurd h9.1 (by omega))).1 ((if_neg (fun h9 => absurd ((LXt.has (LXt.rows hL (fun i9 j9 => (n_1.2 27 i9 j9 (show (2700 : Nat) ∉ _ from by decide)).trans ((fun _ _ => rfl) i9 j9)) (fun i9 j9 => (n_1.2 28 i9 j9 (show (2800 : Nat) ∉ _ from by decide)).trans ((fun _ _ => rfl) i9 j9))) hwf (by omega) (by omega)).mpr h9) (by omega))).trans (obM hw_5_0 (obN (hsh4.symm.trans (obN (by rw [show (8 - y6_0.toInt).toNat = 0 by omega]; rfl))))))), (lO.trans (lO.trans hv6_3 (lO.frame n_8.2 (by decide))) (lO.frame n_19.2 (by decide)))⟩))⟩ (by exact Nat.le_refl _) (by exact Nat.le_refl _) dX7_readTurns_73
              · have ic_9 := gz_eqn (rfl : r_8.toInt = r_8.toInt) (by decide : ((-1) : Int32).toInt = -1) c_9
                refine lv_iconst (v := 0) hx hb dX7_readTurns_60 (by decide) ?_
                rw [← hQe]
                exact gs_iret hx hb hr hlocks hM hS (by decide) ⟨hB_st_8, (by first | exact (Or.inr ⟨rfl, (by unfold pTurns; exact obM (hw_1_0.resolve_right (fun h9 => absurd h9.1 (by omega))).1 ((if_neg (fun h9 => absurd ((LXt.has (LXt.rows hL (fun i9 j9 => (n_1.2 27 i9 j9 (show (2700 : Nat) ∉ _ from by decide)).trans ((fun _ _ => rfl) i9 j9)) (fun i9 j9 => (n_1.2 28 i9 j9 (show (2800 : Nat) ∉ _ from by decide)).trans ((fun _ _ => rfl) i9 j9))) hwf (by omega) (by omega)).mpr h9) (by omega))).trans (obM hw_5_0 (obN (hsh4.symm.trans (obN ((hw_8_0.resolve_left (fun h9 => absurd h9.2.1 (by omega))).2.elim (fun h9 => pSh_nc h9) (fun ⟨q9, h9⟩ => absurd (show (0 : Int) ≤ -1 from (gClan_ok h9).2.2.1) (by decide))))))))), (lO.trans hv6_3 (lO.frame n_8.2 (by decide)))⟩) | exact (Or.inr ⟨rfl, (by unfold pTurns; exact obM (hw_1_0.resolve_right (fun h9 => absurd h9.1 (by omega))).1 ((if_neg (fun h9 => absurd ((LXt.has (LXt.rows hL (fun i9 j9 => (n_1.2 27 i9 j9 (show (2700 : Nat) ∉ _ from by decide)).trans ((fun _ _ => rfl) i9 j9)) (fun i9 j9 => (n_1.2 28 i9 j9 (show (2800 : Nat) ∉ _ from by decide)).trans ((fun _ _ => rfl) i9 j9))) hwf (by omega) (by omega)).mpr h9) (by omega))).trans (obM hw_5_0 (obN (hsh4.symm.trans (obN (by rw [show (8 - y6_0.toInt).toNat = 0 by omega]; rfl))))))), (lO.trans hv6_3 (lO.frame n_8.2 (by decide)))⟩))⟩ (by exact Nat.le_refl _) (by exact Nat.le_refl _) dX7_readTurns_61
        exact lp6 ((9 - ((0 : Int32) : Int32).toInt).toNat + 1) st_5 ((0 : Int32) : Int32) H _ ls (Nat.lt_succ_self _) hB_st_5 (by have hl0 : (0 : Int32).toInt = 0 := (by decide); omega) (by have hl0 : (0 : Int32).toInt = 0 := (by decide); omega) (by have hl0 : (0 : Int32).toInt = 0 := (by decide); have hb1 : (0 : Int) ≤ (st_5 3 0 3).toInt ∧ (st_5 3 0 3).toInt ≤ (801 : Int) := hB_st_5.1 3 0 3; omega) (lO.trans (lO.trans lO.rf (lO.frame n_1.2 (by decide))) (lO.frame n_5.2 (by decide))) ⟨[], LXt.begin (LXt.rows hL (fun i9 j9 => (n_5.2 27 i9 j9 (show (2700 : Nat) ∉ _ from by decide)).trans ((fun i9 j9 => (n_1.2 27 i9 j9 (show (2700 : Nat) ∉ _ from by decide)).trans ((fun _ _ => rfl) i9 j9)) i9 j9)) (fun i9 j9 => (n_5.2 28 i9 j9 (show (2800 : Nat) ∉ _ from by decide)).trans ((fun i9 j9 => (n_1.2 28 i9 j9 (show (2800 : Nat) ∉ _ from by decide)).trans ((fun _ _ => rfl) i9 j9)) i9 j9))), (by decide), (fun s hs => by cases hs), (by rw [show (8 - (0 : Int32).toInt).toNat = 8 from by decide]; exact pSh_id)⟩ hM hS (lv_sub hl [0, 1, 2, 3] rfl)
      · skip
        refine lv_if_ne (tgt := 39) hx hb dX7_readTurns_34 (by decide) (fun h9 => absurd (by decide) h9) (fun _ => ?_)
        refine lv_iconst (v := 0) hx hb dX7_readTurns_37 (by decide) ?_
        rw [← hQe]
        exact gs_iret hx hb hr hlocks hM hS (by decide) ⟨hB_st_5, (Or.inr ⟨rfl, (by unfold pTurns; exact obM (hw_1_0.resolve_right (fun h9 => absurd h9.1 (by omega))).1 ((if_neg (fun h9 => absurd ((LXt.has (LXt.rows hL (fun i9 j9 => (n_1.2 27 i9 j9 (show (2700 : Nat) ∉ _ from by decide)).trans ((fun _ _ => rfl) i9 j9)) (fun i9 j9 => (n_1.2 28 i9 j9 (show (2800 : Nat) ∉ _ from by decide)).trans ((fun _ _ => rfl) i9 j9))) hwf (by omega) (by omega)).mpr h9) (by omega))).trans (obN hw_5_0))), (lO.trans (lO.trans lO.rf (lO.frame n_1.2 (by decide))) (lO.frame n_5.2 (by decide)))⟩)⟩ (by exact Nat.le_refl _) (by exact Nat.le_refl _) dX7_readTurns_38
  · have ic_2 := gz_eqn (rfl : r_1.toInt = r_1.toInt) (by decide : ((-1) : Int32).toInt = -1) c_2
    refine lv_iconst (v := 0) hx hb dX7_readTurns_12 (by decide) ?_
    rw [← hQe]
    exact gs_iret hx hb hr hlocks hM hS (by decide) ⟨hB_st_1, (Or.inr ⟨rfl, (by unfold pTurns; exact obN (hw_1_0.resolve_left (fun h9 => absurd h9.2.1 (by omega))).2), (lO.trans lO.rf (lO.frame n_1.2 (by decide)))⟩)⟩ (by exact Nat.le_refl _) (by exact Nat.le_refl _) dX7_readTurns_13
