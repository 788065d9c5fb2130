theorem gm_907 : (Jvm.Cond.fieldLink "WellCourtModel" (30 : Nat) "WellCourtModel" "owner" "[I") ∈ gz_T := gz_at 907 (by decide +kernel) rfl
theorem gm_908 : (Jvm.Cond.fieldLink "WellCourtModel" (213 : Nat) "WellCourtModel" "day" "I") ∈ gz_T := gz_at 908 (by decide +kernel) rfl
theorem gm_1185 : (Jvm.Cond.methodLink "WellCourtModel" (268 : Nat) ({ cls := "WellCourtModel", name := "byDrought", desc := "(II)I" } : Jvm.MethodName)) ∈ gz_T := gz_at 1185 (by decide +kernel) rfl
theorem gm_1187 : (Jvm.Cond.instanceMethod ({ cls := "WellCourtModel", name := "byDrought", desc := "(II)I" } : Jvm.MethodName)) ∈ gz_T := gz_at 1187 (by decide +kernel) rfl
theorem gm_1188 : (Jvm.Cond.code ({ cls := "WellCourtModel", name := "byDrought", desc := "(II)I" } : Jvm.MethodName) prog_12_method_28_code (4 : Nat) (Option.some Jvm.ClassFile.FieldType.int)) ∈ gz_T := gz_at 1188 (by decide +kernel) rfl
theorem gs_49 : (Jvm.Cond.selects "WellCourtModel" ({ cls := "WellCourtModel", name := "byDrought", desc := "(II)I" } : Jvm.MethodName) ({ cls := "WellCourtModel", name := "byDrought", desc := "(II)I" } : Jvm.MethodName)) ∈ gz_T := gz_sel 49 (by decide +kernel) rfl
theorem dX10_droughts_0 : decode cX10_droughts 0 = .ok (.iconst 0, 1) := by decide +kernel
theorem dX10_droughts_1 : decode cX10_droughts 1 = .ok (.istore_n 1, 1) := by decide +kernel
theorem dX10_droughts_2 : decode cX10_droughts 2 = .ok (.iload_n 1, 1) := by decide +kernel
theorem dX10_droughts_3 : decode cX10_droughts 3 = .ok (.bipush 6, 2) := by decide +kernel
theorem dX10_droughts_5 : decode cX10_droughts 5 = .ok (.if_icmp .ge 54, 3) := by decide +kernel
theorem dX10_droughts_8 : decode cX10_droughts 8 = .ok (.aload_n 0, 1) := by decide +kernel
theorem dX10_droughts_9 : decode cX10_droughts 9 = .ok (.getfield 13, 3) := by decide +kernel
theorem dX10_droughts_12 : decode cX10_droughts 12 = .ok (.iload_n 1, 1) := by decide +kernel
theorem dX10_droughts_13 : decode cX10_droughts 13 = .ok (.baload, 1) := by decide +kernel
theorem dX10_droughts_14 : decode cX10_droughts 14 = .ok (.ifCond .eq 17, 3) := by decide +kernel
theorem dX10_droughts_17 : decode cX10_droughts 17 = .ok (.aload_n 0, 1) := by decide +kernel
theorem dX10_droughts_18 : decode cX10_droughts 18 = .ok (.iload_n 1, 1) := by decide +kernel
theorem dX10_droughts_19 : decode cX10_droughts 19 = .ok (.aload_n 0, 1) := by decide +kernel
theorem dX10_droughts_20 : decode cX10_droughts 20 = .ok (.getfield 27, 3) := by decide +kernel
theorem dX10_droughts_23 : decode cX10_droughts 23 = .ok (.iload_n 1, 1) := by decide +kernel
theorem dX10_droughts_24 : decode cX10_droughts 24 = .ok (.iaload, 1) := by decide +kernel
theorem dX10_droughts_25 : decode cX10_droughts 25 = .ok (.invokevirtual 268, 3) := by decide +kernel
theorem dX10_droughts_28 : decode cX10_droughts 28 = .ok (.goto 4, 3) := by decide +kernel
theorem dX10_droughts_31 : decode cX10_droughts 31 = .ok (.iconst (-1), 1) := by decide +kernel
theorem dX10_droughts_32 : decode cX10_droughts 32 = .ok (.istore_n 2, 1) := by decide +kernel
theorem dX10_droughts_33 : decode cX10_droughts 33 = .ok (.iload_n 2, 1) := by decide +kernel
theorem dX10_droughts_34 : decode cX10_droughts 34 = .ok (.ifCond .lt 19, 3) := by decide +kernel
theorem dX10_droughts_37 : decode cX10_droughts 37 = .ok (.aload_n 0, 1) := by decide +kernel
theorem dX10_droughts_38 : decode cX10_droughts 38 = .ok (.getfield 30, 3) := by decide +kernel
theorem dX10_droughts_41 : decode cX10_droughts 41 = .ok (.sipush 200, 3) := by decide +kernel
theorem dX10_droughts_44 : decode cX10_droughts 44 = .ok (.iload_n 1, 1) := by decide +kernel
theorem dX10_droughts_45 : decode cX10_droughts 45 = .ok (.imul, 1) := by decide +kernel
theorem dX10_droughts_46 : decode cX10_droughts 46 = .ok (.aload_n 0, 1) := by decide +kernel
theorem dX10_droughts_47 : decode cX10_droughts 47 = .ok (.getfield 213, 3) := by decide +kernel
theorem dX10_droughts_50 : decode cX10_droughts 50 = .ok (.iadd, 1) := by decide +kernel
theorem dX10_droughts_51 : decode cX10_droughts 51 = .ok (.iload_n 2, 1) := by decide +kernel
theorem dX10_droughts_52 : decode cX10_droughts 52 = .ok (.iastore, 1) := by decide +kernel
theorem dX10_droughts_53 : decode cX10_droughts 53 = .ok (.iinc 1 1, 3) := by decide +kernel
theorem dX10_droughts_56 : decode cX10_droughts 56 = .ok (.goto (-54), 3) := by decide +kernel
theorem dX10_droughts_59 : decode cX10_droughts 59 = .ok (.return_, 1) := by decide +kernel
set_option maxHeartbeats 4000000 in
set_option maxRecDepth 100000 in
/-- WellCourtModel.droughts -/
theorem m_droughts (l : Launch) (G : va_G) (cy : Nat → ClassId) (sK sV : Nat → Nat) (ad : Nat → Nat → Nat) (sz : Nat) (st : gS) (hB : gBd bM st) (rs : List Rl) (bk : Nat) (hbk : (st 0 0 28).toInt = (bk : Int)) (hru : (st 0 0 29).toInt = (rs.length : Int)) (hLM : LM rs st bk) : gsMv l yX10_droughts cX10_droughts 3 ({ frames := 1, cells := 0, slots := 0, locals := 23 } : Room) G cy sK sV (shM cy ad) cnM ad sz [.ref (ad 0 0)] st (fun (u : gS) => gBN bM kM [600] st u ∧ ((drL rs (st 6 0) (u 6 0) (st 1 0) (st 5 0) (st 0 0 7).toInt 6))) := by
  refine gs_start (fun A => gsQv G (shM cy ad) cnM ad _ A) (by decide) (Nat.le_of_ble_eq_true rfl) ?_
  intro p e s m below meth c A ls H hx hb hr hml hlocks hown hts hK hov hE hI hM hm hS hA hl
  have hl : lv_has ls 3 [(0, .ref (ad 0 0))] := hl
  have hB_st : gBN bM kM [600] st st := gBN.rf hB
  have bb1 : (0 : Int) ≤ (st 0 0 28).toInt ∧ (st 0 0 28).toInt ≤ (1 : Int) := hB 0 0 28
  have bb3 : (0 : Int) ≤ (st 0 0 30).toInt ∧ (st 0 0 30).toInt ≤ (20 : Int) := hB 0 0 30
  have bb4 : (0 : Int) ≤ (st 0 0 7).toInt ∧ (st 0 0 7).toInt ≤ (199 : Int) := hB 0 0 7
  generalize hQe : MQ below _ _ s _ _ A = Q
  refine lv_iconst (v := 0) hx hb dX10_droughts_0 (by decide) ?_
  refine lv_istore_n (lv' := [(1, .int 0), (0, .ref (ad 0 0))]) hx hb dX10_droughts_1 rfl hl (by decide) rfl (fun ls hl => ?_)
  have lp1 : ∀ (n1 : Nat) (sv1 : gS) (y1_0 : Int32) (H : Heap) (locs : List Loc) (ls : Array Slot), (6 - y1_0.toInt).toNat < n1 → gBN bM kM [600] st sv1 → (0 ≤ y1_0.toInt) → (drL rs (st 6 0) (sv1 6 0) (st 1 0) (st 5 0) (st 0 0 7).toInt y1_0.toInt) → gM G (shM cy ad) cnM ad sv1 H → va_S A s.heap H locs → lv_has ls 3 [(1, .int y1_0), (0, .ref (ad 0 0))] → W p l e ({ frames := 1, cells := 0, slots := 0, locals := 23 } : Room) s m [.ref (ad 0 0)].toArray below meth c H locs 0 0 Q (F0 m 2 ls []) := by
    intro n1
    induction n1 with
    | zero => intro sv1 y1_0 H locs ls h9; exact absurd h9 (Nat.not_lt_zero _)
    | succ n1 ih_1 =>
      intro sv1 y1_0 H locs ls hme1 hB_sv1 hv1_0 hv1_1 hM hS hl
      have hb1_0 : (0 : Int) ≤ (st 0 0 7).toInt ∧ (st 0 0 7).toInt ≤ (199 : Int) := hB_st.1 0 0 7
      refine lv_iload_n hx hb dX10_droughts_2 rfl (lv_at hl 0 rfl) ?_
      refine lv_bipush (v := 6) hx hb dX10_droughts_3 (by decide) ?_
      refine lv_icmp_ge (tgt := 59) hx hb dX10_droughts_5 (by decide) (fun c_2 => ?_) (fun c_2 => ?_)
      · have ic_2 := gz_le (by decide : (6 : Int32).toInt = 6) (rfl : y1_0.toInt = y1_0.toInt) c_2
        rw [← hQe]
        exact gs_vret hx hb hr hlocks hM hS ⟨hB_sv1, (by have h9 := hv1_1; intro w9 d9 h1 h2; rw [h9 w9 d9 h1 h2]; by_cases h3 : (d9 : Int) = (st 0 0 7).toInt ∧ ¬ (st 1 0 w9).toInt = 0 ∧ 0 ≤ dryO rs w9 (st 5 0 w9).toInt; rw [if_pos ⟨by omega, h3⟩, if_pos ⟨by omega, h3⟩]; rw [if_neg (fun h4 => h3 h4.2), if_neg (fun h4 => h3 h4.2)])⟩ (by exact Nat.le_refl _) (by exact Nat.le_refl _) dX10_droughts_59
      · have ic_2 := gz_nle (by decide : (6 : Int32).toInt = 6) (rfl : y1_0.toInt = y1_0.toInt) c_2
        refine lv_aload_n hx hb dX10_droughts_8 rfl (lv_at hl 1 rfl) ?_
        refine gs_get (C := RX10) (T := TX10) (N := 59) hx hb hts inX10 hown hK hM 0 0 1 (by decide) rfl rfl (by decide) (hts _ gm_902) (fun _ h9 => h9) rfl dX10_droughts_9 ?_
        refine lv_iload_n hx hb dX10_droughts_12 rfl (lv_at hl 0 rfl) ?_
        refine gs_zald hx hb hK hM 1 0 (by decide) rfl (vp_in_iff.mpr ⟨by omega, by omega⟩) dX10_droughts_13 ?_
        refine lv_topi (fun x_3 ex_3 => ?_)
        have qx_3 : x_3.toInt = (sv1 1 0 (y1_0.toNatClampNeg)).toInt := congrArg Int32.toInt ex_3
        have rx_3 : x_3.toInt = ((st 1 0 (y1_0.toNatClampNeg)) : Int32).toInt := by rw [ex_3]; exact congrArg Int32.toInt ((hB_sv1.2 1 0 (y1_0.toNatClampNeg) (show (100 : Nat) ∉ _ from by decide)))
        refine lv_if_eq (tgt := 31) hx hb dX10_droughts_14 (by decide) (fun c_4 => ?_) (fun c_4 => ?_)
        · have ic_4 := gz_eq (rfl : x_3.toInt = x_3.toInt) (by decide : (0 : Int32).toInt = 0) c_4
          refine lv_iconst (v := (-1)) hx hb dX10_droughts_31 (by decide) ?_
          refine lv_istore_n (lv' := [(2, .int (-1)), (1, .int y1_0), (0, .ref (ad 0 0))]) hx hb dX10_droughts_32 rfl hl (by decide) rfl (fun ls hl => ?_)
          refine lv_iload_n hx hb dX10_droughts_33 rfl (lv_at hl 0 rfl) ?_
          refine lv_if_lt (tgt := 53) hx hb dX10_droughts_34 (by decide) (fun _ => ?_) (fun h9 => absurd (by decide) h9)
          obtain ⟨x_5, ex_5⟩ : ∃ y : Int32, y = y1_0 + 1 := ⟨_, rfl⟩
          try have tx_5 : x_5.toInt = y1_0.toInt + 1 := by rw [ex_5]; exact gz_addP (x := y1_0.toInt) (y := 1) rfl (by decide) (by omega) (by omega)
          refine lv_iinc (v := (x_5)) (lv' := [(1, .int x_5), (2, .int (-1)), (0, .ref (ad 0 0))]) hx hb dX10_droughts_53 hl (k := 1) rfl (by rw [ex_5]; rfl) (by decide) rfl (fun ls hl => ?_)
          refine lv_goto (tgt := 2) hx hb dX10_droughts_56 (by decide) ?_
          exact ih_1 sv1 (x_5 : Int32) H _ ls (by omega) hB_sv1 (by omega) (by exact drL.skip hv1_1 (by omega) (Or.inl (by omega)) (by omega)) hM hS (lv_sub hl [0, 2] rfl)
        · have ic_4 := gz_ne (rfl : x_3.toInt = x_3.toInt) (by decide : (0 : Int32).toInt = 0) c_4
          refine lv_aload_n hx hb dX10_droughts_17 rfl (lv_at hl 1 rfl) ?_
          refine lv_iload_n hx hb dX10_droughts_18 rfl (lv_at hl 0 rfl) ?_
          refine lv_aload_n hx hb dX10_droughts_19 rfl (lv_at hl 1 rfl) ?_
          refine gs_get (C := RX10) (T := TX10) (N := 59) hx hb hts inX10 hown hK hM 0 0 5 (by decide) rfl rfl (by decide) (hts _ gm_906) (fun _ h9 => h9) rfl dX10_droughts_20 ?_
          refine lv_iload_n hx hb dX10_droughts_23 rfl (lv_at hl 0 rfl) ?_
          refine gs_iald hx hb hK hM 5 0 (by decide) rfl (vp_in_iff.mpr ⟨by omega, by omega⟩) dX10_droughts_24 ?_
          refine lv_topi (fun x_6 ex_6 => ?_)
          have qx_6 : x_6.toInt = (sv1 5 0 (y1_0.toNatClampNeg)).toInt := congrArg Int32.toInt ex_6
          have rx_6 : x_6.toInt = ((st 5 0 (y1_0.toNatClampNeg)) : Int32).toInt := by rw [ex_6]; exact congrArg Int32.toInt ((hB_sv1.2 5 0 (y1_0.toNatClampNeg) (show (500 : Nat) ∉ _ from by decide)))
          refine gs_calli (va_runV (As := [.int y1_0, .int x_6]) (rest := []) ⟨hx, hb, hml, hown, hts⟩ (m_byDrought l G cy sK sV ad H.size sv1 hB_sv1.1 y1_0 x_6 y1_0.toInt x_6.toInt rfl rfl rs bk ((congrArg Int32.toInt ((hB_sv1.2 0 0 28 (show (28 : Nat) ∉ _ from by decide)))).trans hbk) ((congrArg Int32.toInt ((hB_sv1.2 0 0 29 (show (29 : Nat) ∉ _ from by decide)))).trans hru) (LM.all hLM (mA.trans mA.rf (mA.frame hB_sv1.2 (by decide))))) ⟨(gz_cb (n := 2) hts gm_1185 gm_12 gm_1188 ⟨by decide +kernel, by decide +kernel, by decide +kernel⟩ ⟨Nat.le_of_ble_eq_true rfl, Nat.le_of_ble_eq_true rfl⟩), hts _ gm_1187, hts _ gs_49⟩ (gs_preV hK hov hE hI hM hm hS hA 0 0 (by decide) rfl rfl) rfl rfl hl.1 rfl (lv_room (Nat.le_of_ble_eq_true rfl)) dX10_droughts_25 ⟨Nat.le_of_ble_eq_true rfl, Nat.le_of_ble_eq_true rfl⟩) hm hS hA (fun r_7 st_7 H locs hw_7 hM hS => ?_)
          obtain ⟨n_7, hw_7⟩ := hw_7
          have n_7 := gBN.nil n_7
          subst n_7
          have hw_7_0 := hw_7
          refine lv_goto (tgt := 32) hx hb dX10_droughts_28 (by decide) ?_
          refine lv_istore_n (lv' := [(2, .int r_7), (1, .int y1_0), (0, .ref (ad 0 0))]) hx hb dX10_droughts_32 rfl hl (by decide) rfl (fun ls hl => ?_)
          refine lv_iload_n hx hb dX10_droughts_33 rfl (lv_at hl 0 rfl) ?_
          refine lv_if_lt (tgt := 53) hx hb dX10_droughts_34 (by decide) (fun c_8 => ?_) (fun c_8 => ?_)
          · have ic_8 := gz_lt (rfl : r_7.toInt = r_7.toInt) (by decide : (0 : Int32).toInt = 0) c_8
            obtain ⟨x_9, ex_9⟩ : ∃ y : Int32, y = y1_0 + 1 := ⟨_, rfl⟩
            try have tx_9 : x_9.toInt = y1_0.toInt + 1 := by rw [ex_9]; exact gz_addP (x := y1_0.toInt) (y := 1) rfl (by decide) (by omega) (by omega)
            refine lv_iinc (v := (x_9)) (lv' := [(1, .int x_9), (2, .int r_7), (0, .ref (ad 0 0))]) hx hb dX10_droughts_53 hl (k := 1) rfl (by rw [ex_9]; rfl) (by decide) rfl (fun ls hl => ?_)
            refine lv_goto (tgt := 2) hx hb dX10_droughts_56 (by decide) ?_
            exact ih_1 sv1 (x_9 : Int32) H _ ls (by omega) hB_sv1 (by omega) (by exact drL.skip hv1_1 (by omega) (Or.inr (by have h9 : r_7.toInt = dryO rs y1_0.toInt (st 5 0 y1_0.toNatClampNeg).toInt := (by rw [← show x_6.toInt = (st 5 0 y1_0.toNatClampNeg).toInt from (by omega)]; exact hw_7_0); omega)) (by omega)) hM hS (lv_sub hl [0, 2] rfl)
          · have ic_8 := gz_nlt (rfl : r_7.toInt = r_7.toInt) (by decide : (0 : Int32).toInt = 0) c_8
            refine lv_aload_n hx hb dX10_droughts_37 rfl (lv_at hl 2 rfl) ?_
            refine gs_get (C := RX10) (T := TX10) (N := 59) hx hb hts inX10 hown hK hM 0 0 6 (by decide) rfl rfl (by decide) (hts _ gm_907) (fun _ h9 => h9) rfl dX10_droughts_38 ?_
            refine lv_sipush (v := 200) hx hb dX10_droughts_41 (by decide) ?_
            refine lv_iload_n hx hb dX10_droughts_44 rfl (lv_at hl 1 rfl) ?_
            refine lv_imul hx hb dX10_droughts_45 ?_
            refine lv_topi (fun x_10 ex_10 => ?_)
            try have tx_10 : x_10.toInt = 200 * y1_0.toInt := by rw [ex_10]; exact gz_mulI (x := 200) (y := y1_0.toInt) (by decide) rfl (by omega) (by omega)
            refine lv_aload_n hx hb dX10_droughts_46 rfl (lv_at hl 2 rfl) ?_
            refine gs_get (C := RX10) (T := TX10) (N := 59) hx hb hts inX10 hown hK hM 0 0 7 (by decide) rfl rfl (by decide) (hts _ gm_908) (fun _ h9 => h9) rfl dX10_droughts_47 ?_
            refine lv_topi (fun x_11 ex_11 => ?_)
            have ex_11 : (st 0 0 7) = x_11 := Eq.symm (ex_11.trans (hB_sv1.2 0 0 7 (show (7 : Nat) ∉ _ from by decide)))
            subst ex_11
            have bf_12 : (0 : Int) ≤ (st 0 0 7).toInt ∧ (st 0 0 7).toInt ≤ (199 : Int) := hB_st.1 0 0 7
            refine lv_iadd hx hb dX10_droughts_50 ?_
            refine lv_topi (fun x_13 ex_13 => ?_)
            try have tx_13 : x_13.toInt = x_10.toInt + (st 0 0 7).toInt := by rw [ex_13]; exact gz_addI (x := x_10.toInt) (y := (st 0 0 7).toInt) rfl rfl (by omega) (by omega)
            refine lv_iload_n hx hb dX10_droughts_51 rfl (lv_at hl 0 rfl) ?_
            refine gs_iast hx hb hK hI hm hM hS 6 0 (by decide) (fun _ => rfl) (vp_in_iff.mpr ⟨by omega, by omega⟩) dX10_droughts_52 (fun st_14 H locs est_14 hM hS => ?_)
            have hB_st_14 : gBN bM kM [600] st st_14 := by rw [est_14]; exact hB_sv1.up (show (600 : Nat) ∈ _ from by decide) (gi_lo _) (gi_hi _)
            obtain ⟨x_15, ex_15⟩ : ∃ y : Int32, y = y1_0 + 1 := ⟨_, rfl⟩
            try have tx_15 : x_15.toInt = y1_0.toInt + 1 := by rw [ex_15]; exact gz_addP (x := y1_0.toInt) (y := 1) rfl (by decide) (by omega) (by omega)
            refine lv_iinc (v := (x_15)) (lv' := [(1, .int x_15), (2, .int r_7), (0, .ref (ad 0 0))]) hx hb dX10_droughts_53 hl (k := 1) rfl (by rw [ex_15]; rfl) (by decide) rfl (fun ls hl => ?_)
            refine lv_goto (tgt := 2) hx hb dX10_droughts_56 (by decide) ?_
            exact ih_1 st_14 (x_15 : Int32) H _ ls (by omega) hB_st_14 (by omega) (by rw [show st_14 6 0 = (upd (sv1 6 0) (x_13.toNatClampNeg) (r_7 : Int32)) from ((congrFun (congrFun est_14 6) 0).trans ((gU_at _ _ _ _ _).trans (congrArg (fun f9 => upd f9 (x_13.toNatClampNeg) (r_7 : Int32)) rfl)))]; exact drL.put (x := x_13) hv1_1 (by omega) (by omega) (by omega) (by omega) (by omega) (by rw [← show x_6.toInt = (st 5 0 y1_0.toNatClampNeg).toInt from (by omega)]; exact hw_7_0) (by omega) (by omega) (by omega)) hM hS (lv_sub hl [0, 2] rfl)
  exact lp1 ((6 - ((0 : Int32) : Int32).toInt).toNat + 1) st ((0 : Int32) : Int32) H _ ls (Nat.lt_succ_self _) hB_st (by have hl0 : (0 : Int32).toInt = 0 := (by decide); omega) (drL.new (by decide)) hM hS (lv_sub hl [0, 1] rfl)
