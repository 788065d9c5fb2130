theorem gm_257 : (Jvm.Cond.fieldLink "WellCourt$Planner" (42 : Nat) "WellCourt$Planner" "found" "[I") ∈ gz_T := gz_at 257 (by decide +kernel) rfl
theorem gm_258 : (Jvm.Cond.fieldLink "WellCourt$Planner" (45 : Nat) "WellCourt$Planner" "foundDate" "I") ∈ gz_T := gz_at 258 (by decide +kernel) rfl
theorem gm_259 : (Jvm.Cond.fieldLink "WellCourt$Planner" (48 : Nat) "WellCourt$Planner" "foundDays" "I") ∈ gz_T := gz_at 259 (by decide +kernel) rfl
theorem gm_694 : (Jvm.Cond.static ({ cls := "WellCourt", name := "isHerd", desc := "(I)Z" } : Jvm.MethodName)) ∈ gz_T := gz_at 694 (by decide +kernel) rfl
theorem gm_695 : (Jvm.Cond.code ({ cls := "WellCourt", name := "isHerd", desc := "(I)Z" } : Jvm.MethodName) prog_1_method_32_code (1 : Nat) (Option.some Jvm.ClassFile.FieldType.boolean)) ∈ gz_T := gz_at 695 (by decide +kernel) rfl
theorem gn_163 : (Jvm.Cond.fieldLinkNest "WellCourt$Planner" (146 : Nat) "WellCourt$Flock" "lasts" "[I" "WellCourt") ∈ gzN := gz_nest 163 (by decide +kernel) rfl
theorem gn_720 : (Jvm.Cond.methodLinkNest "WellCourt$Planner" (110 : Nat) ({ cls := "WellCourt", name := "isHerd", desc := "(I)Z" } : Jvm.MethodName) "WellCourt") ∈ gzN := gz_nest 720 (by decide +kernel) rfl
theorem dX6_actOf_0 : decode cX6_actOf 0 = .ok (.iload_n 1, 1) := by decide +kernel
theorem dX6_actOf_1 : decode cX6_actOf 1 = .ok (.invokestatic 110, 3) := by decide +kernel
theorem dX6_actOf_4 : decode cX6_actOf 4 = .ok (.ifCond .eq 24, 3) := by decide +kernel
theorem dX6_actOf_7 : decode cX6_actOf 7 = .ok (.iload_n 2, 1) := by decide +kernel
theorem dX6_actOf_8 : decode cX6_actOf 8 = .ok (.aload_n 0, 1) := by decide +kernel
theorem dX6_actOf_9 : decode cX6_actOf 9 = .ok (.getfield 45, 3) := by decide +kernel
theorem dX6_actOf_12 : decode cX6_actOf 12 = .ok (.if_icmp .le 16, 3) := by decide +kernel
theorem dX6_actOf_15 : decode cX6_actOf 15 = .ok (.iload_n 2, 1) := by decide +kernel
theorem dX6_actOf_16 : decode cX6_actOf 16 = .ok (.aload_n 0, 1) := by decide +kernel
theorem dX6_actOf_17 : decode cX6_actOf 17 = .ok (.getfield 45, 3) := by decide +kernel
theorem dX6_actOf_20 : decode cX6_actOf 20 = .ok (.aload_n 0, 1) := by decide +kernel
theorem dX6_actOf_21 : decode cX6_actOf 21 = .ok (.getfield 48, 3) := by decide +kernel
theorem dX6_actOf_24 : decode cX6_actOf 24 = .ok (.iadd, 1) := by decide +kernel
theorem dX6_actOf_25 : decode cX6_actOf 25 = .ok (.if_icmp .le 5, 3) := by decide +kernel
theorem dX6_actOf_28 : decode cX6_actOf 28 = .ok (.iconst (-1), 1) := by decide +kernel
theorem dX6_actOf_29 : decode cX6_actOf 29 = .ok (.ireturn, 1) := by decide +kernel
theorem dX6_actOf_30 : decode cX6_actOf 30 = .ok (.aload_n 0, 1) := by decide +kernel
theorem dX6_actOf_31 : decode cX6_actOf 31 = .ok (.getfield 42, 3) := by decide +kernel
theorem dX6_actOf_34 : decode cX6_actOf 34 = .ok (.iload_n 2, 1) := by decide +kernel
theorem dX6_actOf_35 : decode cX6_actOf 35 = .ok (.aload_n 0, 1) := by decide +kernel
theorem dX6_actOf_36 : decode cX6_actOf 36 = .ok (.getfield 45, 3) := by decide +kernel
theorem dX6_actOf_39 : decode cX6_actOf 39 = .ok (.isub, 1) := by decide +kernel
theorem dX6_actOf_40 : decode cX6_actOf 40 = .ok (.iconst 1, 1) := by decide +kernel
theorem dX6_actOf_41 : decode cX6_actOf 41 = .ok (.isub, 1) := by decide +kernel
theorem dX6_actOf_42 : decode cX6_actOf 42 = .ok (.iconst 4, 1) := by decide +kernel
theorem dX6_actOf_43 : decode cX6_actOf 43 = .ok (.imul, 1) := by decide +kernel
theorem dX6_actOf_44 : decode cX6_actOf 44 = .ok (.iload_n 1, 1) := by decide +kernel
theorem dX6_actOf_45 : decode cX6_actOf 45 = .ok (.iadd, 1) := by decide +kernel
theorem dX6_actOf_46 : decode cX6_actOf 46 = .ok (.iaload, 1) := by decide +kernel
theorem dX6_actOf_47 : decode cX6_actOf 47 = .ok (.ireturn, 1) := by decide +kernel
theorem dX6_isGood_0 : decode cX6_isGood 0 = .ok (.iconst 0, 1) := by decide +kernel
theorem dX6_isGood_1 : decode cX6_isGood 1 = .ok (.istore_n 2, 1) := by decide +kernel
theorem dX6_isGood_2 : decode cX6_isGood 2 = .ok (.iload_n 2, 1) := by decide +kernel
theorem dX6_isGood_3 : decode cX6_isGood 3 = .ok (.iconst 4, 1) := by decide +kernel
theorem dX6_isGood_4 : decode cX6_isGood 4 = .ok (.if_icmp .ge 49, 3) := by decide +kernel
theorem dX6_isGood_7 : decode cX6_isGood 7 = .ok (.aload_n 0, 1) := by decide +kernel
theorem dX6_isGood_8 : decode cX6_isGood 8 = .ok (.getfield 59, 3) := by decide +kernel
theorem dX6_isGood_11 : decode cX6_isGood 11 = .ok (.iload_n 2, 1) := by decide +kernel
theorem dX6_isGood_12 : decode cX6_isGood 12 = .ok (.invokevirtual 121, 3) := by decide +kernel
theorem dX6_isGood_15 : decode cX6_isGood 15 = .ok (.ifCond .eq 32, 3) := by decide +kernel
theorem dX6_isGood_18 : decode cX6_isGood 18 = .ok (.aload_n 0, 1) := by decide +kernel
theorem dX6_isGood_19 : decode cX6_isGood 19 = .ok (.getfield 11, 3) := by decide +kernel
theorem dX6_isGood_22 : decode cX6_isGood 22 = .ok (.iload_n 1, 1) := by decide +kernel
theorem dX6_isGood_23 : decode cX6_isGood 23 = .ok (.iadd, 1) := by decide +kernel
theorem dX6_isGood_24 : decode cX6_isGood 24 = .ok (.aload_n 0, 1) := by decide +kernel
theorem dX6_isGood_25 : decode cX6_isGood 25 = .ok (.getfield 29, 3) := by decide +kernel
theorem dX6_isGood_28 : decode cX6_isGood 28 = .ok (.iload_n 1, 1) := by decide +kernel
theorem dX6_isGood_29 : decode cX6_isGood 29 = .ok (.aaload, 1) := by decide +kernel
theorem dX6_isGood_30 : decode cX6_isGood 30 = .ok (.iload_n 2, 1) := by decide +kernel
theorem dX6_isGood_31 : decode cX6_isGood 31 = .ok (.iaload, 1) := by decide +kernel
theorem dX6_isGood_32 : decode cX6_isGood 32 = .ok (.isub, 1) := by decide +kernel
theorem dX6_isGood_33 : decode cX6_isGood 33 = .ok (.aload_n 0, 1) := by decide +kernel
theorem dX6_isGood_34 : decode cX6_isGood 34 = .ok (.getfield 59, 3) := by decide +kernel
theorem dX6_isGood_37 : decode cX6_isGood 37 = .ok (.getfield 146, 3) := by decide +kernel
theorem dX6_isGood_40 : decode cX6_isGood 40 = .ok (.iload_n 2, 1) := by decide +kernel
theorem dX6_isGood_41 : decode cX6_isGood 41 = .ok (.iaload, 1) := by decide +kernel
theorem dX6_isGood_42 : decode cX6_isGood 42 = .ok (.if_icmp .le 5, 3) := by decide +kernel
theorem dX6_isGood_45 : decode cX6_isGood 45 = .ok (.iconst 0, 1) := by decide +kernel
theorem dX6_isGood_46 : decode cX6_isGood 46 = .ok (.ireturn, 1) := by decide +kernel
theorem dX6_isGood_47 : decode cX6_isGood 47 = .ok (.iinc 2 1, 3) := by decide +kernel
theorem dX6_isGood_50 : decode cX6_isGood 50 = .ok (.goto (-48), 3) := by decide +kernel
theorem dX6_isGood_53 : decode cX6_isGood 53 = .ok (.iconst 1, 1) := by decide +kernel
theorem dX6_isGood_54 : decode cX6_isGood 54 = .ok (.ireturn, 1) := by decide +kernel
theorem dX6_keepFound_0 : decode cX6_keepFound 0 = .ok (.aload_n 0, 1) := by decide +kernel
theorem dX6_keepFound_1 : decode cX6_keepFound 1 = .ok (.aload_n 0, 1) := by decide +kernel
theorem dX6_keepFound_2 : decode cX6_keepFound 2 = .ok (.getfield 11, 3) := by decide +kernel
theorem dX6_keepFound_5 : decode cX6_keepFound 5 = .ok (.putfield 45, 3) := by decide +kernel
theorem dX6_keepFound_8 : decode cX6_keepFound 8 = .ok (.aload_n 0, 1) := by decide +kernel
theorem dX6_keepFound_9 : decode cX6_keepFound 9 = .ok (.iload_n 1, 1) := by decide +kernel
theorem dX6_keepFound_10 : decode cX6_keepFound 10 = .ok (.putfield 48, 3) := by decide +kernel
theorem dX6_keepFound_13 : decode cX6_keepFound 13 = .ok (.iconst 0, 1) := by decide +kernel
theorem dX6_keepFound_14 : decode cX6_keepFound 14 = .ok (.istore_n 2, 1) := by decide +kernel
theorem dX6_keepFound_15 : decode cX6_keepFound 15 = .ok (.iload_n 2, 1) := by decide +kernel
theorem dX6_keepFound_16 : decode cX6_keepFound 16 = .ok (.iload_n 1, 1) := by decide +kernel
theorem dX6_keepFound_17 : decode cX6_keepFound 17 = .ok (.iconst 4, 1) := by decide +kernel
theorem dX6_keepFound_18 : decode cX6_keepFound 18 = .ok (.imul, 1) := by decide +kernel
theorem dX6_keepFound_19 : decode cX6_keepFound 19 = .ok (.if_icmp .ge 44, 3) := by decide +kernel
theorem dX6_keepFound_22 : decode cX6_keepFound 22 = .ok (.iload_n 2, 1) := by decide +kernel
theorem dX6_keepFound_23 : decode cX6_keepFound 23 = .ok (.bipush 56, 2) := by decide +kernel
theorem dX6_keepFound_25 : decode cX6_keepFound 25 = .ok (.if_icmp .ge 38, 3) := by decide +kernel
theorem dX6_keepFound_28 : decode cX6_keepFound 28 = .ok (.aload_n 0, 1) := by decide +kernel
theorem dX6_keepFound_29 : decode cX6_keepFound 29 = .ok (.getfield 42, 3) := by decide +kernel
theorem dX6_keepFound_32 : decode cX6_keepFound 32 = .ok (.iload_n 2, 1) := by decide +kernel
theorem dX6_keepFound_33 : decode cX6_keepFound 33 = .ok (.aload_n 0, 1) := by decide +kernel
theorem dX6_keepFound_34 : decode cX6_keepFound 34 = .ok (.getfield 59, 3) := by decide +kernel
theorem dX6_keepFound_37 : decode cX6_keepFound 37 = .ok (.iload_n 2, 1) := by decide +kernel
theorem dX6_keepFound_38 : decode cX6_keepFound 38 = .ok (.iconst 4, 1) := by decide +kernel
theorem dX6_keepFound_39 : decode cX6_keepFound 39 = .ok (.irem, 1) := by decide +kernel
theorem dX6_keepFound_40 : decode cX6_keepFound 40 = .ok (.invokevirtual 121, 3) := by decide +kernel
theorem dX6_keepFound_43 : decode cX6_keepFound 43 = .ok (.ifCond .eq 12, 3) := by decide +kernel
theorem dX6_keepFound_46 : decode cX6_keepFound 46 = .ok (.aload_n 0, 1) := by decide +kernel
theorem dX6_keepFound_47 : decode cX6_keepFound 47 = .ok (.getfield 32, 3) := by decide +kernel
theorem dX6_keepFound_50 : decode cX6_keepFound 50 = .ok (.iload_n 2, 1) := by decide +kernel
theorem dX6_keepFound_51 : decode cX6_keepFound 51 = .ok (.iaload, 1) := by decide +kernel
theorem dX6_keepFound_52 : decode cX6_keepFound 52 = .ok (.goto 4, 3) := by decide +kernel
theorem dX6_keepFound_55 : decode cX6_keepFound 55 = .ok (.iconst (-1), 1) := by decide +kernel
theorem dX6_keepFound_56 : decode cX6_keepFound 56 = .ok (.iastore, 1) := by decide +kernel
theorem dX6_keepFound_57 : decode cX6_keepFound 57 = .ok (.iinc 2 1, 3) := by decide +kernel
theorem dX6_keepFound_60 : decode cX6_keepFound 60 = .ok (.goto (-45), 3) := by decide +kernel
theorem dX6_keepFound_63 : decode cX6_keepFound 63 = .ok (.return_, 1) := by decide +kernel
set_option maxHeartbeats 4000000 in
set_option maxRecDepth 100000 in
/-- WellCourt$Planner.isGood -/
theorem s_X6_isGood (l : Launch) (G : va_G) (cy : Nat → ClassId) (sK sV : Nat → Nat) (ad : Nat → Nat → Nat) (sz : Nat) (st : gS) (hB : gBd bX st) (x : Int32) (Xx : Int) (kx : x.toInt = Xx) (hx0 : 1 ≤ Xx) (hx1 : Xx ≤ 14) : gsMi l yX6_isGood cX6_isGood 3 (some .boolean) ({ frames := 1, cells := 0, slots := 0, locals := 21 } : Room) G cy sK sV (shX cy ad) cnX ad sz [.ref (ad 38 0), .int x] st (fun (r : Int32) (u : gS) => gBN bX kX [] st u ∧ ((r = 1 ∧ (gdX st x.toNatClampNeg (st 38 0 4 + x) 4)) ∨ (r = 0 ∧ (¬ gdX st x.toNatClampNeg (st 38 0 4 + x) 4)))) := by
  refine gs_start (fun A => gsQi G (shX cy ad) cnX ad _ A) (by decide) (Nat.le_of_ble_eq_true rfl) ?_
  intro p e s m below meth c A ls H hx hb hr hml hlocks hown hts hK hov hE hI hM hm hS hA hl
  have hl : lv_has ls 3 [(0, .ref (ad 38 0)), (1, .int x)] := hl
  have hB_st : gBN bX kX [] st st := gBN.rf hB
  generalize hQe : MQ below _ _ s _ _ A = Q
  refine lv_iconst (v := 0) hx hb dX6_isGood_0 (by decide) ?_
  refine lv_istore_n (lv' := [(2, .int 0), (0, .ref (ad 38 0)), (1, .int x)]) hx hb dX6_isGood_1 rfl hl (by decide) rfl (fun ls hl => ?_)
  have lp1 : ∀ (n1 : Nat)  (y1_0 : Int32) (H : Heap) (locs : List Loc) (ls : Array Slot), (4 - y1_0.toInt).toNat < n1 →  (0 ≤ y1_0.toInt) → (gdX st x.toNatClampNeg (st 38 0 4 + x) y1_0.toInt) → gM G (shX cy ad) cnX ad st H → va_S A s.heap H locs → lv_has ls 3 [(2, .int y1_0), (0, .ref (ad 38 0)), (1, .int x)] → W p l e ({ frames := 1, cells := 0, slots := 0, locals := 21 } : Room) s m [.ref (ad 38 0), .int x].toArray below meth c H locs 0 0 Q (F0 m 2 ls []) := by
    intro n1
    induction n1 with
    | zero => intro  y1_0 H locs ls h9; exact absurd h9 (Nat.not_lt_zero _)
    | succ n1 ih_1 =>
      intro  y1_0 H locs ls hme1  hv1_0 hv1_1 hM hS hl
      refine lv_iload_n hx hb dX6_isGood_2 rfl (lv_at hl 0 rfl) ?_
      refine lv_iconst (v := 4) hx hb dX6_isGood_3 (by decide) ?_
      refine lv_icmp_ge (tgt := 53) hx hb dX6_isGood_4 (by decide) (fun c_2 => ?_) (fun c_2 => ?_)
      · have ic_2 := gz_le (by decide : (4 : Int32).toInt = 4) (rfl : y1_0.toInt = y1_0.toInt) c_2
        refine lv_iconst (v := 1) hx hb dX6_isGood_53 (by decide) ?_
        rw [← hQe]
        exact gs_iret hx hb hr hlocks hM hS (by decide) ⟨hB_st, (Or.inl ⟨rfl, fun h1 h2 => hv1_1 h1 (by omega)⟩)⟩ (by exact Nat.le_refl _) (by exact Nat.le_refl _) dX6_isGood_54
      · have ic_2 := gz_nle (by decide : (4 : Int32).toInt = 4) (rfl : y1_0.toInt = y1_0.toInt) c_2
        refine lv_aload_n hx hb dX6_isGood_7 rfl (lv_at hl 1 rfl) ?_
        refine gs_get (C := RX6) (T := TX6) (N := 15) hx hb hts inX6 hown hK hM 38 0 2 (by decide) rfl rfl (by decide) (hts _ gm_245) (fun _ h9 => h9) rfl dX6_isGood_8 ?_
        refine lv_iload_n hx hb dX6_isGood_11 rfl (lv_at hl 0 rfl) ?_
        refine gs_calli (va_runV (As := [.int y1_0]) (rest := []) ⟨hx, hb, hml, hown, hts⟩ (s_X2_isThere l G cy sK sV ad H.size st hB_st.1 y1_0 y1_0.toInt rfl (by first | decide | omega) (by first | decide | omega)) ⟨(gz_cb (n := 1) hts gm_868 gm_9 gm_707 ⟨by decide +kernel, by decide +kernel, by decide +kernel⟩ ⟨Nat.le_of_ble_eq_true rfl, Nat.le_of_ble_eq_true rfl⟩), hts _ gm_705, hts _ gm_706⟩ (gs_preV hK hov hE hI hM hm hS hA 19 0 (by decide) rfl rfl) rfl rfl hl.1 rfl (lv_room (Nat.le_of_ble_eq_true rfl)) dX6_isGood_12 ⟨Nat.le_of_ble_eq_true rfl, Nat.le_of_ble_eq_true rfl⟩) hm hS hA (fun r_3 st_3 H locs hw_3 hM hS => ?_)
        obtain ⟨n_3, hw_3⟩ := hw_3
        have n_3 := gBN.nil n_3
        subst n_3
        rcases hw_3 with ⟨rfl, hw_3_0⟩ | ⟨rfl, hw_3_0⟩
        · skip
          refine lv_if_eq (tgt := 47) hx hb dX6_isGood_15 (by decide) (fun h9 => absurd h9 (by decide)) (fun _ => ?_)
          refine lv_aload_n hx hb dX6_isGood_18 rfl (lv_at hl 1 rfl) ?_
          refine gs_get (C := RX6) (T := TX6) (N := 15) hx hb hts inX6 hown hK hM 38 0 4 (by decide) rfl rfl (by decide) (hts _ gm_247) (fun _ h9 => h9) rfl dX6_isGood_19 ?_
          have bf_4 : (0 : Int) ≤ (st 38 0 4).toInt ∧ (st 38 0 4).toInt ≤ (199 : Int) := hB_st.1 38 0 4
          refine lv_iload_n hx hb dX6_isGood_22 rfl (lv_at hl 2 rfl) ?_
          refine lv_iadd hx hb dX6_isGood_23 ?_
          refine lv_topi (fun x_5 ex_5 => ?_)
          refine lv_aload_n hx hb dX6_isGood_24 rfl (lv_at hl 1 rfl) ?_
          refine gs_get (C := RX6) (T := TX6) (N := 15) hx hb hts inX6 hown hK hM 38 0 8 (by decide) rfl rfl (by decide) (hts _ gm_251) (fun _ h9 => h9) rfl dX6_isGood_25 ?_
          refine lv_iload_n hx hb dX6_isGood_28 rfl (lv_at hl 2 rfl) ?_
          have h_6 : x.toNatClampNeg < 15 := gs_lt (vp_in_iff.mpr ⟨by omega, by omega⟩)
          refine gs_alda hx hb hK hM 44 0 (by decide) rfl (vp_in_iff.mpr ⟨by omega, by omega⟩) (a := ad 45 x.toNatClampNeg) (if_pos h_6) dX6_isGood_29 ?_
          refine lv_iload_n hx hb dX6_isGood_30 rfl (lv_at hl 0 rfl) ?_
          refine gs_iald hx hb hK hM 45 x.toNatClampNeg h_6 rfl (vp_in_iff.mpr ⟨by omega, by omega⟩) dX6_isGood_31 ?_
          refine lv_topi (fun x_7 ex_7 => ?_)
          have qx_7 : x_7.toInt = (st 45 x.toNatClampNeg (y1_0.toNatClampNeg)).toInt := congrArg Int32.toInt ex_7
          refine lv_isub hx hb dX6_isGood_32 ?_
          refine lv_topi (fun x_8 ex_8 => ?_)
          refine lv_aload_n hx hb dX6_isGood_33 rfl (lv_at hl 1 rfl) ?_
          refine gs_get (C := RX6) (T := TX6) (N := 15) hx hb hts inX6 hown hK hM 38 0 2 (by decide) rfl rfl (by decide) (hts _ gm_245) (fun _ h9 => h9) rfl dX6_isGood_34 ?_
          refine gs_getN (host := "WellCourt") (C := RX2) (T := TX2) (N := 5) hx hb hts inX2 hown hK hM 19 0 2 (by decide) rfl rfl (by decide) (va_Nw.use rfl (hov.2.2 _ gn_163)) (fun _ h9 => h9) rfl dX6_isGood_37 ?_
          refine lv_iload_n hx hb dX6_isGood_40 rfl (lv_at hl 0 rfl) ?_
          refine gs_iald hx hb hK hM 22 0 (by decide) rfl (vp_in_iff.mpr ⟨by omega, by omega⟩) dX6_isGood_41 ?_
          refine lv_topi (fun x_9 ex_9 => ?_)
          have qx_9 : x_9.toInt = (st 22 0 (y1_0.toNatClampNeg)).toInt := congrArg Int32.toInt ex_9
          have hs9 : x_8.toInt = ((st 38 0 4 + x) - st 45 x.toNatClampNeg y1_0.toNatClampNeg).toInt := (by rw [ex_8, ex_5, ex_7])
          refine lv_icmp_le (tgt := 47) hx hb dX6_isGood_42 (by decide) (fun c_10 => ?_) (fun c_10 => ?_)
          · have ic_10 := gz_le (rfl : x_8.toInt = x_8.toInt) (rfl : x_9.toInt = x_9.toInt) c_10
            obtain ⟨x_11, ex_11⟩ : ∃ y : Int32, y = y1_0 + 1 := ⟨_, rfl⟩
            try have tx_11 : x_11.toInt = y1_0.toInt + 1 := by rw [ex_11]; exact gz_addP (x := y1_0.toInt) (y := 1) rfl (by decide) (by omega) (by omega)
            refine lv_iinc (v := (x_11)) (lv' := [(2, .int x_11), (0, .ref (ad 38 0)), (1, .int x)]) hx hb dX6_isGood_47 hl (k := 0) rfl (by rw [ex_11]; rfl) (by decide) rfl (fun ls hl => ?_)
            refine lv_goto (tgt := 2) hx hb dX6_isGood_50 (by decide) ?_
            exact ih_1  (x_11 : Int32) H _ ls (by omega)  (by omega) (gdX.step hv1_1 (by omega) (by omega) (fun h9 => by first | (exfalso; omega) | exact (by omega))) hM hS (lv_sub hl [0, 1, 2] rfl)
          · have ic_10 := gz_nle (rfl : x_8.toInt = x_8.toInt) (rfl : x_9.toInt = x_9.toInt) c_10
            have lc_10 := gi_hi x_8
            refine lv_iconst (v := 0) hx hb dX6_isGood_45 (by decide) ?_
            rw [← hQe]
            exact gs_iret hx hb hr hlocks hM hS (by decide) ⟨hB_st, (Or.inr ⟨rfl, fun h8 => by have h7 := h8 y1_0.toNatClampNeg (by have := gs_cl (x := y1_0) (by omega); omega) (by omega); omega⟩)⟩ (by exact Nat.le_refl _) (by exact Nat.le_refl _) dX6_isGood_46
        · skip
          refine lv_if_eq (tgt := 47) hx hb dX6_isGood_15 (by decide) (fun _ => ?_) (fun h9 => absurd (by decide) h9)
          obtain ⟨x_12, ex_12⟩ : ∃ y : Int32, y = y1_0 + 1 := ⟨_, rfl⟩
          try have tx_12 : x_12.toInt = y1_0.toInt + 1 := by rw [ex_12]; exact gz_addP (x := y1_0.toInt) (y := 1) rfl (by decide) (by omega) (by omega)
          refine lv_iinc (v := (x_12)) (lv' := [(2, .int x_12), (0, .ref (ad 38 0)), (1, .int x)]) hx hb dX6_isGood_47 hl (k := 0) rfl (by rw [ex_12]; rfl) (by decide) rfl (fun ls hl => ?_)
          refine lv_goto (tgt := 2) hx hb dX6_isGood_50 (by decide) ?_
          exact ih_1  (x_12 : Int32) H _ ls (by omega)  (by omega) (gdX.step hv1_1 (by omega) (by omega) (fun h9 => by first | (exfalso; omega) | exact trivial)) hM hS (lv_sub hl [0, 1, 2] rfl)
  exact lp1 ((4 - ((0 : Int32) : Int32).toInt).toNat + 1)  ((0 : Int32) : Int32) H _ ls (Nat.lt_succ_self _)  (by have hl0 : (0 : Int32).toInt = 0 := (by decide); omega) (gdX.nil (by decide)) hM hS (lv_sub hl [0, 1, 2] rfl)

set_option maxHeartbeats 4000000 in
set_option maxRecDepth 100000 in
/-- WellCourt$Planner.keepFound -/
theorem s_X6_keepFound (l : Launch) (G : va_G) (cy : Nat → ClassId) (sK sV : Nat → Nat) (ad : Nat → Nat → Nat) (sz : Nat) (st : gS) (hB : gBd bX st) (x : Int32) (Xx : Int) (kx : x.toInt = Xx) (hx0 : 1 ≤ Xx) (hx1 : Xx ≤ 14) : gsMv l yX6_keepFound cX6_keepFound 3 ({ frames := 1, cells := 0, slots := 0, locals := 21 } : Room) G cy sK sV (shX cy ad) cnX ad sz [.ref (ad 38 0), .int x] st (fun (u : gS) => gBN bX kX [3813, 3814, 4700] st u ∧ ((kfX st u (4 * Xx)) ∧ (u 38 0 13 = st 38 0 4) ∧ (u 38 0 14 = x))) := by
  refine gs_start (fun A => gsQv G (shX cy ad) cnX ad _ A) (by decide) (Nat.le_of_ble_eq_true rfl) ?_
  intro p e s m below meth c A ls H hx hb hr hml hlocks hown hts hK hov hE hI hM hm hS hA hl
  have hl : lv_has ls 3 [(0, .ref (ad 38 0)), (1, .int x)] := hl
  have hB_st : gBN bX kX [3813, 3814, 4700] st st := gBN.rf hB
  generalize hQe : MQ below _ _ s _ _ A = Q
  refine lv_aload_n hx hb dX6_keepFound_0 rfl (lv_at hl 0 rfl) ?_
  refine lv_aload_n hx hb dX6_keepFound_1 rfl (lv_at hl 0 rfl) ?_
  refine gs_get (C := RX6) (T := TX6) (N := 15) hx hb hts inX6 hown hK hM 38 0 4 (by decide) rfl rfl (by decide) (hts _ gm_247) (fun _ h9 => h9) rfl dX6_keepFound_2 ?_
  have bf_1 : (0 : Int) ≤ (st 38 0 4).toInt ∧ (st 38 0 4).toInt ≤ (199 : Int) := hB_st.1 38 0 4
  refine gs_put (C := RX6) (T := TX6) (N := 15) (ty := .int) (val := .int (st 38 0 4)) hx hb hts inX6 tyX6 tyX6_ok nmX6 hown hK hI hm hM hS 38 0 13 (by decide) rfl rfl (by decide) (hts _ gm_258) (fun _ h9 => h9) rfl ((st 38 0 4) : Int32) rfl (by decide +kernel) rfl rfl (Nat.le_of_ble_eq_true rfl) dX6_keepFound_5 (fun st_2 H locs est_2 hM hS => ?_)
  have hB_st_2 : gBN bX kX [3813, 3814, 4700] st st_2 := by rw [est_2]; exact hB_st.up (show (3813 : Nat) ∈ _ from by decide) (show (0 : Int) ≤ (st 38 0 4).toInt from by omega) (show (st 38 0 4).toInt ≤ (199 : Int) from by omega)
  refine lv_aload_n hx hb dX6_keepFound_8 rfl (lv_at hl 0 rfl) ?_
  refine lv_iload_n hx hb dX6_keepFound_9 rfl (lv_at hl 1 rfl) ?_
  refine gs_put (C := RX6) (T := TX6) (N := 15) (ty := .int) (val := .int x) hx hb hts inX6 tyX6 tyX6_ok nmX6 hown hK hI hm hM hS 38 0 14 (by decide) rfl rfl (by decide) (hts _ gm_259) (fun _ h9 => h9) rfl (x : Int32) rfl (by decide +kernel) rfl rfl (Nat.le_of_ble_eq_true rfl) dX6_keepFound_10 (fun st_3 H locs est_3 hM hS => ?_)
  have hB_st_3 : gBN bX kX [3813, 3814, 4700] st st_3 := by rw [est_3]; exact hB_st_2.up (show (3814 : Nat) ∈ _ from by decide) (show (0 : Int) ≤ x.toInt from by omega) (show x.toInt ≤ (14 : Int) from by omega)
  refine lv_iconst (v := 0) hx hb dX6_keepFound_13 (by decide) ?_
  refine lv_istore_n (lv' := [(2, .int 0), (0, .ref (ad 38 0)), (1, .int x)]) hx hb dX6_keepFound_14 rfl hl (by decide) rfl (fun ls hl => ?_)
  have lp4 : ∀ (n4 : Nat) (sv4 : gS) (y4_0 : Int32) (H : Heap) (locs : List Loc) (ls : Array Slot), (56 - y4_0.toInt).toNat < n4 → gBN bX kX [3813, 3814, 4700] st sv4 → (0 ≤ y4_0.toInt) → (kfX st sv4 y4_0.toInt) → (sv4 38 0 13 = st 38 0 4) → (sv4 38 0 14 = x) → gM G (shX cy ad) cnX ad sv4 H → va_S A s.heap H locs → lv_has ls 3 [(2, .int y4_0), (0, .ref (ad 38 0)), (1, .int x)] → W p l e ({ frames := 1, cells := 0, slots := 0, locals := 21 } : Room) s m [.ref (ad 38 0), .int x].toArray below meth c H locs 0 0 Q (F0 m 15 ls []) := by
    intro n4
    induction n4 with
    | zero => intro sv4 y4_0 H locs ls h9; exact absurd h9 (Nat.not_lt_zero _)
    | succ n4 ih_4 =>
      intro sv4 y4_0 H locs ls hme4 hB_sv4 hv4_0 hv4_1 hv4_2 hv4_3 hM hS hl
      refine lv_iload_n hx hb dX6_keepFound_15 rfl (lv_at hl 0 rfl) ?_
      refine lv_iload_n hx hb dX6_keepFound_16 rfl (lv_at hl 2 rfl) ?_
      refine lv_iconst (v := 4) hx hb dX6_keepFound_17 (by decide) ?_
      refine lv_imul hx hb dX6_keepFound_18 ?_
      refine lv_topi (fun x_5 ex_5 => ?_)
      try have tx_5 : x_5.toInt = x.toInt * 4 := by rw [ex_5]; exact gz_mulI (x := x.toInt) (y := 4) rfl (by decide) (by omega) (by omega)
      refine lv_icmp_ge (tgt := 63) hx hb dX6_keepFound_19 (by decide) (fun c_6 => ?_) (fun c_6 => ?_)
      · have ic_6 := gz_le (rfl : x_5.toInt = x_5.toInt) (rfl : y4_0.toInt = y4_0.toInt) c_6
        rw [← hQe]
        exact gs_vret hx hb hr hlocks hM hS ⟨hB_sv4, (fun j h => hv4_1 j (by omega)), hv4_2, hv4_3⟩ (by exact Nat.le_refl _) (by exact Nat.le_refl _) dX6_keepFound_63
      · have ic_6 := gz_nle (rfl : x_5.toInt = x_5.toInt) (rfl : y4_0.toInt = y4_0.toInt) c_6
        have lc_6 := gi_hi x_5
        refine lv_iload_n hx hb dX6_keepFound_22 rfl (lv_at hl 0 rfl) ?_
        refine lv_bipush (v := 56) hx hb dX6_keepFound_23 (by decide) ?_
        refine lv_icmp_ge (tgt := 63) hx hb dX6_keepFound_25 (by decide) (fun c_7 => ?_) (fun c_7 => ?_)
        · have ic_7 := gz_le (by decide : (56 : Int32).toInt = 56) (rfl : y4_0.toInt = y4_0.toInt) c_7
          rw [← hQe]
          exact gs_vret hx hb hr hlocks hM hS ⟨hB_sv4, (fun j h => hv4_1 j (by omega)), hv4_2, hv4_3⟩ (by exact Nat.le_refl _) (by exact Nat.le_refl _) dX6_keepFound_63
        · have ic_7 := gz_nle (by decide : (56 : Int32).toInt = 56) (rfl : y4_0.toInt = y4_0.toInt) c_7
          refine lv_aload_n hx hb dX6_keepFound_28 rfl (lv_at hl 1 rfl) ?_
          refine gs_get (C := RX6) (T := TX6) (N := 15) hx hb hts inX6 hown hK hM 38 0 12 (by decide) rfl rfl (by decide) (hts _ gm_257) (fun _ h9 => h9) rfl dX6_keepFound_29 ?_
          refine lv_iload_n hx hb dX6_keepFound_32 rfl (lv_at hl 0 rfl) ?_
          refine lv_aload_n hx hb dX6_keepFound_33 rfl (lv_at hl 1 rfl) ?_
          refine gs_get (C := RX6) (T := TX6) (N := 15) hx hb hts inX6 hown hK hM 38 0 2 (by decide) rfl rfl (by decide) (hts _ gm_245) (fun _ h9 => h9) rfl dX6_keepFound_34 ?_
          refine lv_iload_n hx hb dX6_keepFound_37 rfl (lv_at hl 0 rfl) ?_
          refine lv_iconst (v := 4) hx hb dX6_keepFound_38 (by decide) ?_
          refine lv_irem hx hb dX6_keepFound_39 (by decide) ?_
          refine lv_topi (fun x_8 ex_8 => ?_)
          try have tx_8 := gs_rem (y := 4) (by decide) (show 0 ≤ y4_0.toInt from by omega) (by omega) ex_8
          refine gs_calli (va_runV (As := [.int x_8]) (rest := [.int y4_0, .ref (ad 47 0)]) ⟨hx, hb, hml, hown, hts⟩ (s_X2_isThere l G cy sK sV ad H.size sv4 hB_sv4.1 x_8 x_8.toInt rfl (by first | decide | omega) (by first | decide | omega)) ⟨(gz_cb (n := 1) hts gm_868 gm_9 gm_707 ⟨by decide +kernel, by decide +kernel, by decide +kernel⟩ ⟨Nat.le_of_ble_eq_true rfl, Nat.le_of_ble_eq_true rfl⟩), hts _ gm_705, hts _ gm_706⟩ (gs_preV hK hov hE hI hM hm hS hA 19 0 (by decide) rfl rfl) rfl rfl hl.1 rfl (lv_room (Nat.le_of_ble_eq_true rfl)) dX6_keepFound_40 ⟨Nat.le_of_ble_eq_true rfl, Nat.le_of_ble_eq_true rfl⟩) hm hS hA (fun r_9 st_9 H locs hw_9 hM hS => ?_)
          obtain ⟨n_9, hw_9⟩ := hw_9
          have n_9 := gBN.nil n_9
          subst n_9
          rcases hw_9 with ⟨rfl, hw_9_0⟩ | ⟨rfl, hw_9_0⟩
          · skip
            refine lv_if_eq (tgt := 55) hx hb dX6_keepFound_43 (by decide) (fun h9 => absurd h9 (by decide)) (fun _ => ?_)
            refine lv_aload_n hx hb dX6_keepFound_46 rfl (lv_at hl 1 rfl) ?_
            refine gs_get (C := RX6) (T := TX6) (N := 15) hx hb hts inX6 hown hK hM 38 0 9 (by decide) rfl rfl (by decide) (hts _ gm_252) (fun _ h9 => h9) rfl dX6_keepFound_47 ?_
            refine lv_iload_n hx hb dX6_keepFound_50 rfl (lv_at hl 0 rfl) ?_
            refine gs_iald hx hb hK hM 46 0 (by decide) rfl (vp_in_iff.mpr ⟨by omega, by omega⟩) dX6_keepFound_51 ?_
            refine lv_topi (fun x_10 ex_10 => ?_)
            have qx_10 : x_10.toInt = (sv4 46 0 (y4_0.toNatClampNeg)).toInt := congrArg Int32.toInt ex_10
            have bx_10 : (-1 : Int) ≤ x_10.toInt ∧ x_10.toInt ≤ (9 : Int) := by rw [qx_10]; exact hB_sv4.1 46 0 (y4_0.toNatClampNeg)
            have rx_10 : x_10.toInt = ((st 46 0 (y4_0.toNatClampNeg)) : Int32).toInt := by rw [ex_10]; exact congrArg Int32.toInt ((hB_sv4.2 46 0 (y4_0.toNatClampNeg) (show (4600 : Nat) ∉ _ from by decide)))
            refine lv_goto (tgt := 56) hx hb dX6_keepFound_52 (by decide) ?_
            refine gs_iast hx hb hK hI hm hM hS 47 0 (by decide) (fun _ => rfl) (vp_in_iff.mpr ⟨by omega, by omega⟩) dX6_keepFound_56 (fun st_11 H locs est_11 hM hS => ?_)
            have hB_st_11 : gBN bX kX [3813, 3814, 4700] st st_11 := by rw [est_11]; exact hB_sv4.up (show (4700 : Nat) ∈ _ from by decide) (gi_lo _) (gi_hi _)
            obtain ⟨x_12, ex_12⟩ : ∃ y : Int32, y = y4_0 + 1 := ⟨_, rfl⟩
            try have tx_12 : x_12.toInt = y4_0.toInt + 1 := by rw [ex_12]; exact gz_addP (x := y4_0.toInt) (y := 1) rfl (by decide) (by omega) (by omega)
            refine lv_iinc (v := (x_12)) (lv' := [(2, .int x_12), (0, .ref (ad 38 0)), (1, .int x)]) hx hb dX6_keepFound_57 hl (k := 0) rfl (by rw [ex_12]; rfl) (by decide) rfl (fun ls hl => ?_)
            refine lv_goto (tgt := 15) hx hb dX6_keepFound_60 (by decide) ?_
            exact ih_4 st_11 (x_12 : Int32) H _ ls (by omega) hB_st_11 (by omega) (kfX.step (v := x_10) hv4_1 ((congrFun (congrFun est_11 47) 0).trans ((gU_at _ _ _ _ _).trans (congrArg (fun f9 => upd f9 (y4_0.toNatClampNeg) (x_10 : Int32)) rfl))) (by omega) (by omega) (by have hm9 : x_8.toInt = y4_0.toInt % 4 := gs_rem3 (b := 4) (by decide) rfl (by omega) (by decide) ex_8; have c_h := gs_cl (x := x_8) (by omega); have c_y := gs_cl (x := y4_0) (by omega); rw [show y4_0.toNatClampNeg % 4 = x_8.toNatClampNeg by omega]; have h20 : (sv4 20 0 x_8.toNatClampNeg).toInt = (st 20 0 x_8.toNatClampNeg).toInt := congrArg Int32.toInt (hB_sv4.2 20 0 _ (show (2000 : Nat) ∉ _ from by decide)); rw [if_neg (by omega)]; exact congrArg Int32.toInt (ex_10.trans (hB_sv4.2 46 0 (y4_0.toNatClampNeg) (show (4600 : Nat) ∉ _ from by decide))))) (((congrFun (congrFun (congrFun est_11 38) 0) 13).trans (congrFun (congrFun (gU_k (by decide)) 0) 13)).trans hv4_2) (((congrFun (congrFun (congrFun est_11 38) 0) 14).trans (congrFun (congrFun (gU_k (by decide)) 0) 14)).trans hv4_3) hM hS (lv_sub hl [0, 1, 2] rfl)
          · skip
            refine lv_if_eq (tgt := 55) hx hb dX6_keepFound_43 (by decide) (fun _ => ?_) (fun h9 => absurd (by decide) h9)
            refine lv_iconst (v := (-1)) hx hb dX6_keepFound_55 (by decide) ?_
            refine gs_iast hx hb hK hI hm hM hS 47 0 (by decide) (fun _ => rfl) (vp_in_iff.mpr ⟨by omega, by omega⟩) dX6_keepFound_56 (fun st_13 H locs est_13 hM hS => ?_)
            have hB_st_13 : gBN bX kX [3813, 3814, 4700] st st_13 := by rw [est_13]; exact hB_sv4.up (show (4700 : Nat) ∈ _ from by decide) (gi_lo _) (gi_hi _)
            obtain ⟨x_14, ex_14⟩ : ∃ y : Int32, y = y4_0 + 1 := ⟨_, rfl⟩
            try have tx_14 : x_14.toInt = y4_0.toInt + 1 := by rw [ex_14]; exact gz_addP (x := y4_0.toInt) (y := 1) rfl (by decide) (by omega) (by omega)
            refine lv_iinc (v := (x_14)) (lv' := [(2, .int x_14), (0, .ref (ad 38 0)), (1, .int x)]) hx hb dX6_keepFound_57 hl (k := 0) rfl (by rw [ex_14]; rfl) (by decide) rfl (fun ls hl => ?_)
            refine lv_goto (tgt := 15) hx hb dX6_keepFound_60 (by decide) ?_
            exact ih_4 st_13 (x_14 : Int32) H _ ls (by omega) hB_st_13 (by omega) (kfX.step (v := ((-1) : Int32)) hv4_1 ((congrFun (congrFun est_13 47) 0).trans ((gU_at _ _ _ _ _).trans (congrArg (fun f9 => upd f9 (y4_0.toNatClampNeg) ((-1) : Int32)) rfl))) (by omega) (by omega) (by have hm9 : x_8.toInt = y4_0.toInt % 4 := gs_rem3 (b := 4) (by decide) rfl (by omega) (by decide) ex_8; have c_h := gs_cl (x := x_8) (by omega); have c_y := gs_cl (x := y4_0) (by omega); rw [show y4_0.toNatClampNeg % 4 = x_8.toNatClampNeg by omega]; have h20 : (sv4 20 0 x_8.toNatClampNeg).toInt = (st 20 0 x_8.toNatClampNeg).toInt := congrArg Int32.toInt (hB_sv4.2 20 0 _ (show (2000 : Nat) ∉ _ from by decide)); rw [if_pos (by omega)]; decide)) (((congrFun (congrFun (congrFun est_13 38) 0) 13).trans (congrFun (congrFun (gU_k (by decide)) 0) 13)).trans hv4_2) (((congrFun (congrFun (congrFun est_13 38) 0) 14).trans (congrFun (congrFun (gU_k (by decide)) 0) 14)).trans hv4_3) hM hS (lv_sub hl [0, 1, 2] rfl)
  exact lp4 ((56 - ((0 : Int32) : Int32).toInt).toNat + 1) st_3 ((0 : Int32) : Int32) H _ ls (Nat.lt_succ_self _) hB_st_3 (by have hl0 : (0 : Int32).toInt = 0 := (by decide); omega) (kfX.nil (by decide)) (((congrFun (congrFun (congrFun est_3 38) 0) 13).trans (gU_other (by decide))).trans ((congrFun (congrFun (congrFun est_2 38) 0) 13).trans (gU_same _ _ _ _ _))) ((congrFun (congrFun (congrFun est_3 38) 0) 14).trans (gU_same _ _ _ _ _)) hM hS (lv_sub hl [0, 1, 2] rfl)

set_option maxHeartbeats 4000000 in
set_option maxRecDepth 100000 in
/-- WellCourt$Planner.actOf -/
theorem s_X6_actOf (l : Launch) (G : va_G) (cy : Nat → ClassId) (sK sV : Nat → Nat) (ad : Nat → Nat → Nat) (sz : Nat) (st : gS) (hB : gBd bX st) (x : Int32) (y : Int32) (Xx : Int) (Xy : Int) (kx : x.toInt = Xx) (ky : y.toInt = Xy) : gsMi l yX6_actOf cX6_actOf 3 (some .int) ({ frames := 1, cells := 0, slots := 0, locals := 20 } : Room) G cy sK sV (shX cy ad) cnX ad sz [.ref (ad 38 0), .int x, .int y] st (fun (r : Int32) (u : gS) => gBN bX kX [] st u ∧ ((((0 ≤ Xx ∧ Xx ≤ 3 ∧ (st 38 0 13).toInt < Xy ∧ Xy ≤ (st 38 0 13).toInt + (st 38 0 14).toInt) ∧ r = st 47 0 (4 * (Xy - (st 38 0 13).toInt - 1) + Xx).toNat) ∨ (¬ (0 ≤ Xx ∧ Xx ≤ 3 ∧ (st 38 0 13).toInt < Xy ∧ Xy ≤ (st 38 0 13).toInt + (st 38 0 14).toInt) ∧ r.toInt = -1)))) := by
  refine gs_start (fun A => gsQi G (shX cy ad) cnX ad _ A) (by decide) (Nat.le_of_ble_eq_true rfl) ?_
  intro p e s m below meth c A ls H hx hb hr hml hlocks hown hts hK hov hE hI hM hm hS hA hl
  have hl : lv_has ls 3 [(0, .ref (ad 38 0)), (1, .int x), (2, .int y)] := hl
  have hB_st : gBN bX kX [] st st := gBN.rf hB
  have b13 : (0 : Int) ≤ (st 38 0 13).toInt ∧ (st 38 0 13).toInt ≤ (199 : Int) := hB 38 0 13
  have b14 : (0 : Int) ≤ (st 38 0 14).toInt ∧ (st 38 0 14).toInt ≤ (14 : Int) := hB 38 0 14
  refine lv_iload_n hx hb dX6_actOf_0 rfl (lv_at hl 1 rfl) ?_
  refine gs_calli (va_runSN (As := [.int x]) (rest := []) ⟨hx, hb, hml, hown, hts⟩ (s_isHerd l G cy sK sV ad H.size st hB_st.1 x x.toInt rfl ) ⟨(va_cnB 1 hts (gz_good gm_695) rfl rfl rfl (hov.2.2 _ gn_720) (hts _ gm_1) ⟨by decide +kernel, by decide +kernel, by decide +kernel⟩ ⟨Nat.le_of_ble_eq_true rfl, Nat.le_of_ble_eq_true rfl⟩), hts _ gm_694, trivial⟩ (gs_preS hK hov hE hI hM hm hS hA) rfl rfl hl.1 rfl (lv_room (Nat.le_of_ble_eq_true rfl)) dX6_actOf_1 ⟨Nat.le_of_ble_eq_true rfl, Nat.le_of_ble_eq_true rfl⟩) hm hS hA (fun r_1 st_1 H locs hw_1 hM hS => ?_)
  obtain ⟨n_1, hw_1⟩ := hw_1
  have n_1 := gBN.nil n_1
  subst n_1
  rcases hw_1 with ⟨rfl, hw_1_0, hw_1_1⟩ | ⟨rfl, hw_1_0⟩
  · skip
    refine lv_if_eq (tgt := 28) hx hb dX6_actOf_4 (by decide) (fun h9 => absurd h9 (by decide)) (fun _ => ?_)
    refine lv_iload_n hx hb dX6_actOf_7 rfl (lv_at hl 2 rfl) ?_
    refine lv_aload_n hx hb dX6_actOf_8 rfl (lv_at hl 0 rfl) ?_
    refine gs_get (C := RX6) (T := TX6) (N := 15) hx hb hts inX6 hown hK hM 38 0 13 (by decide) rfl rfl (by decide) (hts _ gm_258) (fun _ h9 => h9) rfl dX6_actOf_9 ?_
    have bf_2 : (0 : Int) ≤ (st 38 0 13).toInt ∧ (st 38 0 13).toInt ≤ (199 : Int) := hB_st.1 38 0 13
    refine lv_icmp_le (tgt := 28) hx hb dX6_actOf_12 (by decide) (fun c_3 => ?_) (fun c_3 => ?_)
    · have ic_3 := gz_le (rfl : y.toInt = y.toInt) (rfl : (st 38 0 13).toInt = (st 38 0 13).toInt) c_3
      refine lv_iconst (v := (-1)) hx hb dX6_actOf_28 (by decide) ?_
      exact gs_iret hx hb hr hlocks hM hS rfl ⟨hB_st, (Or.inr ⟨fun h9 => by omega, by decide⟩)⟩ (by exact Nat.le_refl _) (by exact Nat.le_refl _) dX6_actOf_29
    · have ic_3 := gz_nle (rfl : y.toInt = y.toInt) (rfl : (st 38 0 13).toInt = (st 38 0 13).toInt) c_3
      have lc_3 := gi_hi y
      refine lv_iload_n hx hb dX6_actOf_15 rfl (lv_at hl 2 rfl) ?_
      refine lv_aload_n hx hb dX6_actOf_16 rfl (lv_at hl 0 rfl) ?_
      refine gs_get (C := RX6) (T := TX6) (N := 15) hx hb hts inX6 hown hK hM 38 0 13 (by decide) rfl rfl (by decide) (hts _ gm_258) (fun _ h9 => h9) rfl dX6_actOf_17 ?_
      have bf_4 : (0 : Int) ≤ (st 38 0 13).toInt ∧ (st 38 0 13).toInt ≤ (199 : Int) := hB_st.1 38 0 13
      refine lv_aload_n hx hb dX6_actOf_20 rfl (lv_at hl 0 rfl) ?_
      refine gs_get (C := RX6) (T := TX6) (N := 15) hx hb hts inX6 hown hK hM 38 0 14 (by decide) rfl rfl (by decide) (hts _ gm_259) (fun _ h9 => h9) rfl dX6_actOf_21 ?_
      have bf_5 : (0 : Int) ≤ (st 38 0 14).toInt ∧ (st 38 0 14).toInt ≤ (14 : Int) := hB_st.1 38 0 14
      refine lv_iadd hx hb dX6_actOf_24 ?_
      refine lv_topi (fun x_6 ex_6 => ?_)
      try have tx_6 : x_6.toInt = (st 38 0 13).toInt + (st 38 0 14).toInt := by rw [ex_6]; exact gz_addI (x := (st 38 0 13).toInt) (y := (st 38 0 14).toInt) rfl rfl (by omega) (by omega)
      refine lv_icmp_le (tgt := 30) hx hb dX6_actOf_25 (by decide) (fun c_7 => ?_) (fun c_7 => ?_)
      · have ic_7 := gz_le (rfl : y.toInt = y.toInt) (rfl : x_6.toInt = x_6.toInt) c_7
        refine lv_aload_n hx hb dX6_actOf_30 rfl (lv_at hl 0 rfl) ?_
        refine gs_get (C := RX6) (T := TX6) (N := 15) hx hb hts inX6 hown hK hM 38 0 12 (by decide) rfl rfl (by decide) (hts _ gm_257) (fun _ h9 => h9) rfl dX6_actOf_31 ?_
        refine lv_iload_n hx hb dX6_actOf_34 rfl (lv_at hl 2 rfl) ?_
        refine lv_aload_n hx hb dX6_actOf_35 rfl (lv_at hl 0 rfl) ?_
        refine gs_get (C := RX6) (T := TX6) (N := 15) hx hb hts inX6 hown hK hM 38 0 13 (by decide) rfl rfl (by decide) (hts _ gm_258) (fun _ h9 => h9) rfl dX6_actOf_36 ?_
        have bf_8 : (0 : Int) ≤ (st 38 0 13).toInt ∧ (st 38 0 13).toInt ≤ (199 : Int) := hB_st.1 38 0 13
        refine lv_isub hx hb dX6_actOf_39 ?_
        refine lv_topi (fun x_9 ex_9 => ?_)
        try have tx_9 : x_9.toInt = y.toInt - (st 38 0 13).toInt := by rw [ex_9]; exact gz_subI (x := y.toInt) (y := (st 38 0 13).toInt) rfl rfl (by omega) (by omega)
        refine lv_iconst (v := 1) hx hb dX6_actOf_40 (by decide) ?_
        refine lv_isub hx hb dX6_actOf_41 ?_
        refine lv_topi (fun x_10 ex_10 => ?_)
        try have tx_10 : x_10.toInt = x_9.toInt - 1 := by rw [ex_10]; exact gz_subP (x := x_9.toInt) (y := 1) rfl (by decide) (by omega) (by omega)
        refine lv_iconst (v := 4) hx hb dX6_actOf_42 (by decide) ?_
        refine lv_imul hx hb dX6_actOf_43 ?_
        refine lv_topi (fun x_11 ex_11 => ?_)
        try have tx_11 : x_11.toInt = x_10.toInt * 4 := by rw [ex_11]; exact gz_mulI (x := x_10.toInt) (y := 4) rfl (by decide) (by omega) (by omega)
        refine lv_iload_n hx hb dX6_actOf_44 rfl (lv_at hl 1 rfl) ?_
        refine lv_iadd hx hb dX6_actOf_45 ?_
        refine lv_topi (fun x_12 ex_12 => ?_)
        try have tx_12 : x_12.toInt = x_11.toInt + x.toInt := by rw [ex_12]; exact gz_addI (x := x_11.toInt) (y := x.toInt) rfl rfl (by omega) (by omega)
        refine gs_iald hx hb hK hM 47 0 (by decide) rfl (vp_in_iff.mpr ⟨by omega, by omega⟩) dX6_actOf_46 ?_
        refine lv_topi (fun x_13 ex_13 => ?_)
        have qx_13 : x_13.toInt = (st 47 0 (x_12.toNatClampNeg)).toInt := congrArg Int32.toInt ex_13
        exact gs_iret hx hb hr hlocks hM hS rfl ⟨hB_st, (Or.inl ⟨⟨by omega, by omega, by omega, by omega⟩, (by have c_i := gs_cl (x := x_12) (by omega); rw [show (4 * (Xy - (st 38 0 13).toInt - 1) + Xx).toNat = x_12.toNatClampNeg by omega]; exact ex_13)⟩)⟩ (by exact Nat.le_refl _) (by exact Nat.le_refl _) dX6_actOf_47
      · have ic_7 := gz_nle (rfl : y.toInt = y.toInt) (rfl : x_6.toInt = x_6.toInt) c_7
        have lc_7 := gi_hi y
        refine lv_iconst (v := (-1)) hx hb dX6_actOf_28 (by decide) ?_
        exact gs_iret hx hb hr hlocks hM hS rfl ⟨hB_st, (Or.inr ⟨fun h9 => by omega, by decide⟩)⟩ (by exact Nat.le_refl _) (by exact Nat.le_refl _) dX6_actOf_29
  · skip
    refine lv_if_eq (tgt := 28) hx hb dX6_actOf_4 (by decide) (fun _ => ?_) (fun h9 => absurd (by decide) h9)
    refine lv_iconst (v := (-1)) hx hb dX6_actOf_28 (by decide) ?_
    exact gs_iret hx hb hr hlocks hM hS rfl ⟨hB_st, (Or.inr ⟨fun h9 => by omega, by decide⟩)⟩ (by exact Nat.le_refl _) (by exact Nat.le_refl _) dX6_actOf_29
