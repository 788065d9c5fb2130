theorem gm_1201 : (Jvm.Cond.methodLink "WellCourtModel" (271 : Nat) ({ cls := "WellCourtModel", name := "hasWell", desc := "(I)Z" } : Jvm.MethodName)) ∈ gz_T := gz_at 1201 (by decide +kernel) rfl
theorem gm_1203 : (Jvm.Cond.instanceMethod ({ cls := "WellCourtModel", name := "hasWell", desc := "(I)Z" } : Jvm.MethodName)) ∈ gz_T := gz_at 1203 (by decide +kernel) rfl
theorem gm_1204 : (Jvm.Cond.code ({ cls := "WellCourtModel", name := "hasWell", desc := "(I)Z" } : Jvm.MethodName) prog_12_method_3_code (2 : Nat) (Option.some Jvm.ClassFile.FieldType.boolean)) ∈ gz_T := gz_at 1204 (by decide +kernel) rfl
theorem gm_1213 : (Jvm.Cond.methodLink "WellCourtModel" (278 : Nat) ({ cls := "WellCourtModel", name := "isClan", desc := "(I)Z" } : Jvm.MethodName)) ∈ gz_T := gz_at 1213 (by decide +kernel) rfl
theorem gm_1214 : (Jvm.Cond.static ({ cls := "WellCourtModel", name := "isClan", desc := "(I)Z" } : Jvm.MethodName)) ∈ gz_T := gz_at 1214 (by decide +kernel) rfl
theorem gm_1215 : (Jvm.Cond.code ({ cls := "WellCourtModel", name := "isClan", desc := "(I)Z" } : Jvm.MethodName) prog_12_method_33_code (1 : Nat) (Option.some Jvm.ClassFile.FieldType.boolean)) ∈ gz_T := gz_at 1215 (by decide +kernel) rfl
theorem gm_1216 : (Jvm.Cond.methodLink "WellCourtModel" (281 : Nat) ({ cls := "WellCourtModel", name := "isRightNow", desc := "(II)Z" } : Jvm.MethodName)) ∈ gz_T := gz_at 1216 (by decide +kernel) rfl
theorem gm_1218 : (Jvm.Cond.instanceMethod ({ cls := "WellCourtModel", name := "isRightNow", desc := "(II)Z" } : Jvm.MethodName)) ∈ gz_T := gz_at 1218 (by decide +kernel) rfl
theorem gm_1219 : (Jvm.Cond.code ({ cls := "WellCourtModel", name := "isRightNow", desc := "(II)Z" } : Jvm.MethodName) prog_12_method_35_code (3 : Nat) (Option.some Jvm.ClassFile.FieldType.boolean)) ∈ gz_T := gz_at 1219 (by decide +kernel) rfl
theorem gm_1224 : (Jvm.Cond.methodLink "WellCourtModel" (284 : Nat) ({ cls := "WellCourtModel", name := "guestRule", desc := "(II)I" } : Jvm.MethodName)) ∈ gz_T := gz_at 1224 (by decide +kernel) rfl
theorem gm_1226 : (Jvm.Cond.instanceMethod ({ cls := "WellCourtModel", name := "guestRule", desc := "(II)I" } : Jvm.MethodName)) ∈ gz_T := gz_at 1226 (by decide +kernel) rfl
theorem gm_1227 : (Jvm.Cond.code ({ cls := "WellCourtModel", name := "guestRule", desc := "(II)I" } : Jvm.MethodName) prog_12_method_36_code (5 : Nat) (Option.some Jvm.ClassFile.FieldType.int)) ∈ gz_T := gz_at 1227 (by decide +kernel) rfl
theorem gs_50 : (Jvm.Cond.selects "WellCourtModel" ({ cls := "WellCourtModel", name := "hasWell", desc := "(I)Z" } : Jvm.MethodName) ({ cls := "WellCourtModel", name := "hasWell", desc := "(I)Z" } : Jvm.MethodName)) ∈ gz_T := gz_sel 50 (by decide +kernel) rfl
theorem gs_51 : (Jvm.Cond.selects "WellCourtModel" ({ cls := "WellCourtModel", name := "isRightNow", desc := "(II)Z" } : Jvm.MethodName) ({ cls := "WellCourtModel", name := "isRightNow", desc := "(II)Z" } : Jvm.MethodName)) ∈ gz_T := gz_sel 51 (by decide +kernel) rfl
theorem gs_53 : (Jvm.Cond.selects "WellCourtModel" ({ cls := "WellCourtModel", name := "guestRule", desc := "(II)I" } : Jvm.MethodName) ({ cls := "WellCourtModel", name := "guestRule", desc := "(II)I" } : Jvm.MethodName)) ∈ gz_T := gz_sel 53 (by decide +kernel) rfl
theorem dX10_may_0 : decode cX10_may 0 = .ok (.aload_n 0, 1) := by decide +kernel
theorem dX10_may_1 : decode cX10_may 1 = .ok (.iconst 0, 1) := by decide +kernel
theorem dX10_may_2 : decode cX10_may 2 = .ok (.putfield 1, 3) := by decide +kernel
theorem dX10_may_5 : decode cX10_may 5 = .ok (.aload_n 0, 1) := by decide +kernel
theorem dX10_may_6 : decode cX10_may 6 = .ok (.iload_n 1, 1) := by decide +kernel
theorem dX10_may_7 : decode cX10_may 7 = .ok (.invokevirtual 271, 3) := by decide +kernel
theorem dX10_may_10 : decode cX10_may 10 = .ok (.ifCond .eq 10, 3) := by decide +kernel
theorem dX10_may_13 : decode cX10_may 13 = .ok (.iload_n 2, 1) := by decide +kernel
theorem dX10_may_14 : decode cX10_may 14 = .ok (.invokestatic 278, 3) := by decide +kernel
theorem dX10_may_17 : decode cX10_may 17 = .ok (.ifCond .ne 5, 3) := by decide +kernel
theorem dX10_may_20 : decode cX10_may 20 = .ok (.iconst (-1), 1) := by decide +kernel
theorem dX10_may_21 : decode cX10_may 21 = .ok (.ireturn, 1) := by decide +kernel
theorem dX10_may_22 : decode cX10_may 22 = .ok (.aload_n 0, 1) := by decide +kernel
theorem dX10_may_23 : decode cX10_may 23 = .ok (.iload_n 1, 1) := by decide +kernel
theorem dX10_may_24 : decode cX10_may 24 = .ok (.iload_n 2, 1) := by decide +kernel
theorem dX10_may_25 : decode cX10_may 25 = .ok (.invokevirtual 281, 3) := by decide +kernel
theorem dX10_may_28 : decode cX10_may 28 = .ok (.ifCond .eq 7, 3) := by decide +kernel
theorem dX10_may_31 : decode cX10_may 31 = .ok (.iconst 1, 1) := by decide +kernel
theorem dX10_may_32 : decode cX10_may 32 = .ok (.goto 17, 3) := by decide +kernel
theorem dX10_may_35 : decode cX10_may 35 = .ok (.aload_n 0, 1) := by decide +kernel
theorem dX10_may_36 : decode cX10_may 36 = .ok (.iload_n 1, 1) := by decide +kernel
theorem dX10_may_37 : decode cX10_may 37 = .ok (.iload_n 2, 1) := by decide +kernel
theorem dX10_may_38 : decode cX10_may 38 = .ok (.invokevirtual 284, 3) := by decide +kernel
theorem dX10_may_41 : decode cX10_may 41 = .ok (.ifCond .lt 7, 3) := by decide +kernel
theorem dX10_may_44 : decode cX10_may 44 = .ok (.iconst 2, 1) := by decide +kernel
theorem dX10_may_45 : decode cX10_may 45 = .ok (.goto 4, 3) := by decide +kernel
theorem dX10_may_48 : decode cX10_may 48 = .ok (.iconst 0, 1) := by decide +kernel
theorem dX10_may_49 : decode cX10_may 49 = .ok (.ireturn, 1) := by decide +kernel
theorem rtM.fr {rs : List Rl} {st u : gS} {w : Nat} {c : Int} (h : frM st u) : rtM rs (fun a9 => (u 6 0 (200 * a9 + (u 0 0 7).toNatClampNeg)).toInt) (fun a9 => (u 1 0 a9).toInt) (fun a9 => (u 5 0 a9).toInt) w c ↔ rtM rs (fun a9 => (st 6 0 (200 * a9 + (st 0 0 7).toNatClampNeg)).toInt) (fun a9 => (st 1 0 a9).toInt) (fun a9 => (st 5 0 a9).toInt) w c := by
  rw [h.row (k := 6) (i := 0) (by decide), h.row (k := 1) (i := 0) (by decide), h.row (k := 5) (i := 0) (by decide), h 0 0 7 (by decide)]
theorem frM.own {st u : gS} {j : Nat} (h : frM st u) : u 6 0 (200 * j + (u 0 0 7).toNatClampNeg) = st 6 0 (200 * j + (st 0 0 7).toNatClampNeg) := by
  rw [h.row (k := 6) (i := 0) (by decide), h 0 0 7 (by decide)]
theorem frM.chain {a b c : gS} (h1 : frM a b) (h2 : frM b c) : frM a c := fun k i j h => (h2 k i j h).trans (h1 k i j h)

set_option maxHeartbeats 4000000 in
set_option maxRecDepth 100000 in
/-- WellCourtModel.may -/
theorem m_may (l : Launch) (G : va_G) (cy : Nat → ClassId) (sK sV : Nat → Nat) (ad : Nat → Nat → Nat) (sz : Nat) (st : gS) (hB : gBd bM st) (x : Int32) (y : Int32) (Xx : Int) (Xy : Int) (kx : x.toInt = Xx) (ky : y.toInt = Xy) (rs : List Rl) (bk : Nat) (hbk : (st 0 0 28).toInt = (bk : Int)) (hru : (st 0 0 29).toInt = (rs.length : Int)) (hLM : LM rs st bk) (hwf : ∀ r ∈ rs, wfR r) : gsMi l yX10_may cX10_may 3 (some .int) ({ frames := 2, cells := 0, slots := 0, locals := 51 } : Room) G cy sK sV (shM cy ad) cnM ad sz [.ref (ad 0 0), .int x, .int y] st (fun (r : Int32) (u : gS) => gBN bM kM [0] st u ∧ ((((0 ≤ Xx ∧ Xx ≤ 5 ∧ ¬ (st 1 0 x.toNatClampNeg).toInt = 0 ∧ 0 ≤ Xy ∧ Xy ≤ 5) ∧ standI (rtM rs (fun a9 => (st 6 0 (200 * a9 + (st 0 0 7).toNatClampNeg)).toInt) (fun a9 => (st 1 0 a9).toInt) (fun a9 => (st 5 0 a9).toInt) x.toNatClampNeg Xy) (gstT rs Xy Xx (st 6 0 (200 * x.toNatClampNeg + (st 0 0 7).toNatClampNeg)).toInt) r.toInt) ∨ (¬ (0 ≤ Xx ∧ Xx ≤ 5 ∧ ¬ (st 1 0 x.toNatClampNeg).toInt = 0 ∧ 0 ≤ Xy ∧ Xy ≤ 5) ∧ r.toInt = -1)))) := by
  refine gs_start (fun A => gsQi G (shM cy ad) cnM ad _ A) (by decide) (Nat.le_of_ble_eq_true rfl) ?_
  intro p e s m below meth c A ls H hx hb hr hml hlocks hown hts hK hov hE hI hM hm hS hA hl
  have hl : lv_has ls 3 [(0, .ref (ad 0 0)), (1, .int x), (2, .int y)] := hl
  have hB_st : gBN bM kM [0] st st := gBN.rf hB
  refine lv_aload_n hx hb dX10_may_0 rfl (lv_at hl 0 rfl) ?_
  refine lv_iconst (v := 0) hx hb dX10_may_1 (by decide) ?_
  refine gs_put (C := RX10) (T := TX10) (N := 59) (ty := .int) (val := .int 0) hx hb hts inX10 tyX10 tyX10_ok nmX10 hown hK hI hm hM hS 0 0 0 (by decide) rfl rfl (by decide) (hts _ gm_901) (fun _ h9 => h9) rfl (0 : Int32) rfl (by decide +kernel) rfl rfl (Nat.le_of_ble_eq_true rfl) dX10_may_2 (fun st_1 H locs est_1 hM hS => ?_)
  have hB_st_1 : gBN bM kM [0] st st_1 := by rw [est_1]; exact hB_st.up (show (0 : Nat) ∈ _ from by decide) (gi_lo _) (gi_hi _)
  refine lv_aload_n hx hb dX10_may_5 rfl (lv_at hl 0 rfl) ?_
  refine lv_iload_n hx hb dX10_may_6 rfl (lv_at hl 1 rfl) ?_
  refine gs_calli (va_runV (As := [.int x]) (rest := []) ⟨hx, hb, hml, hown, hts⟩ (m_hasWell l G cy sK sV ad H.size st_1 hB_st_1.1 x x.toInt rfl ) ⟨(gz_cb (n := 1) hts gm_1201 gm_12 gm_1204 ⟨by decide +kernel, by decide +kernel, by decide +kernel⟩ ⟨Nat.le_of_ble_eq_true rfl, Nat.le_of_ble_eq_true rfl⟩), hts _ gm_1203, hts _ gs_50⟩ (gs_preV hK hov hE hI hM hm hS hA 0 0 (by decide) rfl rfl) rfl rfl hl.1 rfl (lv_room (Nat.le_of_ble_eq_true rfl)) dX10_may_7 ⟨Nat.le_of_ble_eq_true rfl, Nat.le_of_ble_eq_true rfl⟩) hm hS hA (fun r_2 st_2 H locs hw_2 hM hS => ?_)
  obtain ⟨n_2, hw_2⟩ := hw_2
  have n_2 := gBN.nil n_2
  subst n_2
  have hqhw_20 : (st_1 1 0 x.toNatClampNeg).toInt = ((st 1 0 x.toNatClampNeg) : Int32).toInt := congrArg Int32.toInt (((congrFun (congrFun (congrFun est_1 1) 0) x.toNatClampNeg).trans (congrFun (congrFun (gU_k (by decide)) 0) x.toNatClampNeg)))
  rcases hw_2 with ⟨rfl, hw_2_0, hw_2_1, hw_2_2⟩ | ⟨rfl, hw_2_0⟩
  · skip
    refine lv_if_eq (tgt := 20) hx hb dX10_may_10 (by decide) (fun h9 => absurd h9 (by decide)) (fun _ => ?_)
    refine lv_iload_n hx hb dX10_may_13 rfl (lv_at hl 2 rfl) ?_
    refine gs_calli (va_runS (As := [.int y]) (rest := []) ⟨hx, hb, hml, hown, hts⟩ (m_isClan l G cy sK sV ad H.size st_1 hB_st_1.1 y y.toInt rfl ) ⟨(gz_cb (n := 1) hts gm_1213 gm_12 gm_1215 ⟨by decide +kernel, by decide +kernel, by decide +kernel⟩ ⟨Nat.le_of_ble_eq_true rfl, Nat.le_of_ble_eq_true rfl⟩), hts _ gm_1214⟩ (gs_preS hK hov hE hI hM hm hS hA) rfl rfl hl.1 rfl (lv_room (Nat.le_of_ble_eq_true rfl)) dX10_may_14 ⟨Nat.le_of_ble_eq_true rfl, Nat.le_of_ble_eq_true rfl⟩) hm hS hA (fun r_3 st_3 H locs hw_3 hM hS => ?_)
    obtain ⟨n_3, hw_3⟩ := hw_3
    have n_3 := gBN.nil n_3
    subst n_3
    rcases hw_3 with ⟨rfl, hw_3_0, hw_3_1⟩ | ⟨rfl, hw_3_0⟩
    · skip
      refine lv_if_ne (tgt := 22) hx hb dX10_may_17 (by decide) (fun _ => ?_) (fun h9 => absurd h9 (by decide))
      refine lv_aload_n hx hb dX10_may_22 rfl (lv_at hl 0 rfl) ?_
      refine lv_iload_n hx hb dX10_may_23 rfl (lv_at hl 1 rfl) ?_
      refine lv_iload_n hx hb dX10_may_24 rfl (lv_at hl 2 rfl) ?_
      refine gs_calli (va_runV (As := [.int x, .int y]) (rest := []) ⟨hx, hb, hml, hown, hts⟩ (m_isRightNow l G cy sK sV ad H.size st_1 hB_st_1.1 x y x.toInt y.toInt rfl rfl (by first | decide | omega) (by first | decide | omega) rs bk ((congrArg Int32.toInt (((congrFun (congrFun (congrFun est_1 0) 0) 28).trans (gU_other (by decide))))).trans hbk) ((congrArg Int32.toInt (((congrFun (congrFun (congrFun est_1 0) 0) 29).trans (gU_other (by decide))))).trans hru) (LM.all hLM (mA.trans mA.rf (mA.upk est_1 (by decide)))) hwf) ⟨(gz_cb (n := 2) hts gm_1216 gm_12 gm_1219 ⟨by decide +kernel, by decide +kernel, by decide +kernel⟩ ⟨Nat.le_of_ble_eq_true rfl, Nat.le_of_ble_eq_true rfl⟩), hts _ gm_1218, hts _ gs_51⟩ (gs_preV hK hov hE hI hM hm hS hA 0 0 (by decide) rfl rfl) rfl rfl hl.1 rfl (lv_room (Nat.le_of_ble_eq_true rfl)) dX10_may_25 ⟨Nat.le_of_ble_eq_true rfl, Nat.le_of_ble_eq_true rfl⟩) hm hS hA (fun r_4 st_4 H locs hw_4 hM hS => ?_)
      obtain ⟨n_4, hw_4⟩ := hw_4
      have n_4 := gBN.nil n_4
      subst n_4
      have hqhw_40 : (st_1 0 0 7).toInt = ((st 0 0 7) : Int32).toInt := congrArg Int32.toInt (((congrFun (congrFun (congrFun est_1 0) 0) 7).trans (gU_other (by decide))))
      have hbhw_41 : (0 : Int) ≤ (st_1 0 0 7).toInt ∧ (st_1 0 0 7).toInt ≤ (199 : Int) := hB_st_1.1 0 0 7
      rcases hw_4 with ⟨rfl, hw_4_0⟩ | ⟨rfl, hw_4_0⟩
      · skip
        refine lv_if_eq (tgt := 35) hx hb dX10_may_28 (by decide) (fun h9 => absurd h9 (by decide)) (fun _ => ?_)
        refine lv_iconst (v := 1) hx hb dX10_may_31 (by decide) ?_
        refine lv_goto (tgt := 49) hx hb dX10_may_32 (by decide) ?_
        exact gs_iret hx hb hr hlocks hM hS rfl ⟨hB_st_1, (Or.inl ⟨⟨by omega, by omega, by omega, by omega, by omega⟩, Or.inl ⟨((rtM.fr (frM.up est_1)).mp (by have h9 := hw_4_0; rw [ky] at h9; exact h9)), by decide⟩⟩)⟩ (by exact Nat.le_refl _) (by exact Nat.le_refl _) dX10_may_49
      · skip
        refine lv_if_eq (tgt := 35) hx hb dX10_may_28 (by decide) (fun _ => ?_) (fun h9 => absurd (by decide) h9)
        refine lv_aload_n hx hb dX10_may_35 rfl (lv_at hl 0 rfl) ?_
        refine lv_iload_n hx hb dX10_may_36 rfl (lv_at hl 1 rfl) ?_
        refine lv_iload_n hx hb dX10_may_37 rfl (lv_at hl 2 rfl) ?_
        refine gs_calli (va_runV (As := [.int x, .int y]) (rest := []) ⟨hx, hb, hml, hown, hts⟩ (m_guestRule l G cy sK sV ad H.size st_1 hB_st_1.1 x y x.toInt y.toInt rfl rfl (by first | decide | omega) (by first | decide | omega) rs bk ((congrArg Int32.toInt (((congrFun (congrFun (congrFun est_1 0) 0) 28).trans (gU_other (by decide))))).trans hbk) ((congrArg Int32.toInt (((congrFun (congrFun (congrFun est_1 0) 0) 29).trans (gU_other (by decide))))).trans hru) (LM.all hLM (mA.trans mA.rf (mA.upk est_1 (by decide)))) hwf) ⟨(gz_cb (n := 2) hts gm_1224 gm_12 gm_1227 ⟨by decide +kernel, by decide +kernel, by decide +kernel⟩ ⟨Nat.le_of_ble_eq_true rfl, Nat.le_of_ble_eq_true rfl⟩), hts _ gm_1226, hts _ gs_53⟩ (gs_preV hK hov hE hI hM hm hS hA 0 0 (by decide) rfl rfl) rfl rfl hl.1 rfl (lv_room (Nat.le_of_ble_eq_true rfl)) dX10_may_38 ⟨Nat.le_of_ble_eq_true rfl, Nat.le_of_ble_eq_true rfl⟩) hm hS hA (fun r_5 st_5 H locs hw_5 hM hS => ?_)
        obtain ⟨n_5, hw_5⟩ := hw_5
        have n_5 := gBN.nil n_5
        subst n_5
        have hqhw_50 : (st_1 12 0 r_5.toNatClampNeg).toInt = ((st 12 0 r_5.toNatClampNeg) : Int32).toInt := congrArg Int32.toInt (((congrFun (congrFun (congrFun est_1 12) 0) r_5.toNatClampNeg).trans (congrFun (congrFun (gU_k (by decide)) 0) r_5.toNatClampNeg)))
        have hw_5_0 := hw_5
        refine lv_if_lt (tgt := 48) hx hb dX10_may_41 (by decide) (fun c_6 => ?_) (fun c_6 => ?_)
        · have ic_6 := gz_lt (rfl : r_5.toInt = r_5.toInt) (by decide : (0 : Int32).toInt = 0) c_6
          refine lv_iconst (v := 0) hx hb dX10_may_48 (by decide) ?_
          exact gs_iret hx hb hr hlocks hM hS rfl ⟨hB_st_1, (by have h8 := hw_5_0; rw [kx, ky] at h8; rw [frM.own (frM.up est_1), ((frM.up est_1)).row (k := 12) (i := 0) (by decide)] at h8; exact Or.inl ⟨⟨by omega, by omega, by omega, by omega, by omega⟩, Or.inr ⟨(fun h7 => absurd ((rtM.fr (frM.up est_1)).mpr h7) (by have h9 := hw_4_0; rw [ky] at h9; exact h9)), by first | exact Or.inl ⟨by omega, by decide⟩ | exact Or.inr ⟨by omega, by decide⟩⟩⟩)⟩ (by exact Nat.le_refl _) (by exact Nat.le_refl _) dX10_may_49
        · have ic_6 := gz_nlt (rfl : r_5.toInt = r_5.toInt) (by decide : (0 : Int32).toInt = 0) c_6
          refine lv_iconst (v := 2) hx hb dX10_may_44 (by decide) ?_
          refine lv_goto (tgt := 49) hx hb dX10_may_45 (by decide) ?_
          exact gs_iret hx hb hr hlocks hM hS rfl ⟨hB_st_1, (by have h8 := hw_5_0; rw [kx, ky] at h8; rw [frM.own (frM.up est_1), ((frM.up est_1)).row (k := 12) (i := 0) (by decide)] at h8; exact Or.inl ⟨⟨by omega, by omega, by omega, by omega, by omega⟩, Or.inr ⟨(fun h7 => absurd ((rtM.fr (frM.up est_1)).mpr h7) (by have h9 := hw_4_0; rw [ky] at h9; exact h9)), by first | exact Or.inl ⟨by omega, by decide⟩ | exact Or.inr ⟨by omega, by decide⟩⟩⟩)⟩ (by exact Nat.le_refl _) (by exact Nat.le_refl _) dX10_may_49
    · skip
      refine lv_if_ne (tgt := 22) hx hb dX10_may_17 (by decide) (fun h9 => absurd (by decide) h9) (fun _ => ?_)
      refine lv_iconst (v := (-1)) hx hb dX10_may_20 (by decide) ?_
      exact gs_iret hx hb hr hlocks hM hS rfl ⟨hB_st_1, (Or.inr ⟨by omega, by decide⟩)⟩ (by exact Nat.le_refl _) (by exact Nat.le_refl _) dX10_may_21
  · skip
    refine lv_if_eq (tgt := 20) hx hb dX10_may_10 (by decide) (fun _ => ?_) (fun h9 => absurd (by decide) h9)
    refine lv_iconst (v := (-1)) hx hb dX10_may_20 (by decide) ?_
    exact gs_iret hx hb hr hlocks hM hS rfl ⟨hB_st_1, (Or.inr ⟨by omega, by decide⟩)⟩ (by exact Nat.le_refl _) (by exact Nat.le_refl _) dX10_may_21
