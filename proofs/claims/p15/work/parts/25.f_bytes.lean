
set_option maxHeartbeats 4000000 in
set_option maxRecDepth 100000 in
/-- WellCourtModel.well -/
theorem m_wellB (l : Launch) (G : va_G) (cy : Nat → ClassId) (sK sV : Nat → Nat) (ad : Nat → Nat → Nat) (sz : Nat) (st : gS) (hB : gBd bM st) (x : Int32) (y : Int32) (w : Int32) (v : Int32) (Xx : Int) (Xy : Int) (Xw : Int) (Xv : Int) (kx : x.toInt = Xx) (ky : y.toInt = Xy) (kw : w.toInt = Xw) (kv : v.toInt = Xv) : gsMi l yX10_well cX10_well 5 (some .boolean) ({ frames := 0, cells := 0, slots := 0, locals := 0 } : Room) G cy sK sV (shM cy ad) cnM ad sz [.ref (ad 0 0), .int x, .int y, .int w, .int v] st (fun (r : Int32) (u : gS) => gBN bM kM [0, 100, 200, 300, 400, 500] st u ∧ ((r = 1 ∧ (0 ≤ Xx) ∧ (Xx ≤ 5) ∧ ((st 1 0 x.toNatClampNeg).toInt = 0) ∧ (1 ≤ Xy) ∧ (Xy ≤ 1000) ∧ (0 ≤ Xw) ∧ (Xw ≤ 200) ∧ (0 ≤ Xv) ∧ (Xv ≤ Xy) ∧ (u 1 0 = upd (st 1 0) x.toNatClampNeg (vp_nar .boolean 1)) ∧ (u 2 0 = upd (st 2 0) x.toNatClampNeg y) ∧ (u 3 0 = upd (st 3 0) x.toNatClampNeg w) ∧ (u 4 0 = upd (st 4 0) x.toNatClampNeg v) ∧ (u 5 0 = upd (st 5 0) x.toNatClampNeg v)) ∨ (r = 0 ∧ (Xx < 0 ∨ 5 < Xx ∨ ¬ (st 1 0 x.toNatClampNeg).toInt = 0 ∨ Xy < 1 ∨ 1000 < Xy ∨ Xw < 0 ∨ 200 < Xw ∨ Xv < 0 ∨ Xy < Xv) ∧ (frM st u)))) := by
  refine gs_start (fun A => gsQi G (shM cy ad) cnM ad _ A) (by decide) (Nat.le_of_ble_eq_true rfl) ?_
  intro p e s m below meth c A ls H hx hb hr hml hlocks hown hts hK hov hE hI hM hm hS hA hl
  have hl : lv_has ls 5 [(0, .ref (ad 0 0)), (1, .int x), (2, .int y), (3, .int w), (4, .int v)] := hl
  have hB_st : gBN bM kM [0, 100, 200, 300, 400, 500] st st := gBN.rf hB
  refine lv_aload_n hx hb dX10_well_0 rfl (lv_at hl 0 rfl) ?_
  refine lv_iconst (v := 0) hx hb dX10_well_1 (by decide) ?_
  refine gs_put (C := RX10) (T := TX10) (N := 59) (ty := .int) (val := .int 0) hx hb hts inX10 tyX10 tyX10_ok nmX10 hown hK hI hm hM hS 0 0 0 (by decide) rfl rfl (by decide) (hts _ gm_901) (fun _ h9 => h9) rfl (0 : Int32) rfl (by decide +kernel) rfl rfl (Nat.le_of_ble_eq_true rfl) dX10_well_2 (fun st_1 H locs est_1 hM hS => ?_)
  have hB_st_1 : gBN bM kM [0, 100, 200, 300, 400, 500] st st_1 := by rw [est_1]; exact hB_st.up (show (0 : Nat) ∈ _ from by decide) (gi_lo _) (gi_hi _)
  refine lv_iload_n hx hb dX10_well_5 rfl (lv_at hl 1 rfl) ?_
  refine lv_if_lt (tgt := 58) hx hb dX10_well_6 (by decide) (fun c_2 => ?_) (fun c_2 => ?_)
  · have ic_2 := gz_lt (rfl : x.toInt = x.toInt) (by decide : (0 : Int32).toInt = 0) c_2
    refine lv_iconst (v := 0) hx hb dX10_well_58 (by decide) ?_
    exact gs_iret hx hb hr hlocks hM hS (by decide) ⟨hB_st_1, (Or.inr ⟨rfl, by omega, (frM.up est_1)⟩)⟩ (by exact Nat.le_refl _) (by exact Nat.le_refl _) dX10_well_59
  · have ic_2 := gz_nlt (rfl : x.toInt = x.toInt) (by decide : (0 : Int32).toInt = 0) c_2
    refine lv_iload_n hx hb dX10_well_9 rfl (lv_at hl 1 rfl) ?_
    refine lv_bipush (v := 6) hx hb dX10_well_10 (by decide) ?_
    refine lv_icmp_ge (tgt := 58) hx hb dX10_well_12 (by decide) (fun c_3 => ?_) (fun c_3 => ?_)
    · have ic_3 := gz_le (by decide : (6 : Int32).toInt = 6) (rfl : x.toInt = x.toInt) c_3
      refine lv_iconst (v := 0) hx hb dX10_well_58 (by decide) ?_
      exact gs_iret hx hb hr hlocks hM hS (by decide) ⟨hB_st_1, (Or.inr ⟨rfl, by omega, (frM.up est_1)⟩)⟩ (by exact Nat.le_refl _) (by exact Nat.le_refl _) dX10_well_59
    · have ic_3 := gz_nle (by decide : (6 : Int32).toInt = 6) (rfl : x.toInt = x.toInt) c_3
      refine lv_aload_n hx hb dX10_well_15 rfl (lv_at hl 0 rfl) ?_
      refine gs_get (C := RX10) (T := TX10) (N := 59) hx hb hts inX10 hown hK hM 0 0 1 (by decide) rfl rfl (by decide) (hts _ gm_902) (fun _ h9 => h9) rfl dX10_well_16 ?_
      refine lv_iload_n hx hb dX10_well_19 rfl (lv_at hl 1 rfl) ?_
      refine gs_zald hx hb hK hM 1 0 (by decide) rfl (vp_in_iff.mpr ⟨by omega, by omega⟩) dX10_well_20 ?_
      refine lv_topi (fun x_4 ex_4 => ?_)
      have qx_4 : x_4.toInt = (st_1 1 0 (x.toNatClampNeg)).toInt := congrArg Int32.toInt ex_4
      have rx_4 : x_4.toInt = ((st 1 0 (x.toNatClampNeg)) : Int32).toInt := by rw [ex_4]; exact congrArg Int32.toInt (((congrFun (congrFun (congrFun est_1 1) 0) (x.toNatClampNeg)).trans (congrFun (congrFun (gU_k (by decide)) 0) (x.toNatClampNeg))))
      refine lv_if_ne (tgt := 58) hx hb dX10_well_21 (by decide) (fun c_5 => ?_) (fun c_5 => ?_)
      · have ic_5 := gz_ne (rfl : x_4.toInt = x_4.toInt) (by decide : (0 : Int32).toInt = 0) c_5
        refine lv_iconst (v := 0) hx hb dX10_well_58 (by decide) ?_
        exact gs_iret hx hb hr hlocks hM hS (by decide) ⟨hB_st_1, (Or.inr ⟨rfl, by omega, (frM.up est_1)⟩)⟩ (by exact Nat.le_refl _) (by exact Nat.le_refl _) dX10_well_59
      · have ic_5 := gz_eqn (rfl : x_4.toInt = x_4.toInt) (by decide : (0 : Int32).toInt = 0) c_5
        refine lv_iload_n hx hb dX10_well_24 rfl (lv_at hl 2 rfl) ?_
        refine lv_iconst (v := 1) hx hb dX10_well_25 (by decide) ?_
        refine lv_icmp_lt (tgt := 58) hx hb dX10_well_26 (by decide) (fun c_6 => ?_) (fun c_6 => ?_)
        · have ic_6 := gz_lt (rfl : y.toInt = y.toInt) (by decide : (1 : Int32).toInt = 1) c_6
          refine lv_iconst (v := 0) hx hb dX10_well_58 (by decide) ?_
          exact gs_iret hx hb hr hlocks hM hS (by decide) ⟨hB_st_1, (Or.inr ⟨rfl, by omega, (frM.up est_1)⟩)⟩ (by exact Nat.le_refl _) (by exact Nat.le_refl _) dX10_well_59
        · have ic_6 := gz_nlt (rfl : y.toInt = y.toInt) (by decide : (1 : Int32).toInt = 1) c_6
          refine lv_iload_n hx hb dX10_well_29 rfl (lv_at hl 2 rfl) ?_
          refine lv_sipush (v := 1000) hx hb dX10_well_30 (by decide) ?_
          refine lv_icmp_gt (tgt := 58) hx hb dX10_well_33 (by decide) (fun c_7 => ?_) (fun c_7 => ?_)
          · have ic_7 := gz_lt (by decide : (1000 : Int32).toInt = 1000) (rfl : y.toInt = y.toInt) c_7
            refine lv_iconst (v := 0) hx hb dX10_well_58 (by decide) ?_
            exact gs_iret hx hb hr hlocks hM hS (by decide) ⟨hB_st_1, (Or.inr ⟨rfl, by omega, (frM.up est_1)⟩)⟩ (by exact Nat.le_refl _) (by exact Nat.le_refl _) dX10_well_59
          · have ic_7 := gz_nlt (by decide : (1000 : Int32).toInt = 1000) (rfl : y.toInt = y.toInt) c_7
            refine lv_iload_n hx hb dX10_well_36 rfl (lv_at hl 3 rfl) ?_
            refine lv_if_lt (tgt := 58) hx hb dX10_well_37 (by decide) (fun c_8 => ?_) (fun c_8 => ?_)
            · have ic_8 := gz_lt (rfl : w.toInt = w.toInt) (by decide : (0 : Int32).toInt = 0) c_8
              refine lv_iconst (v := 0) hx hb dX10_well_58 (by decide) ?_
              exact gs_iret hx hb hr hlocks hM hS (by decide) ⟨hB_st_1, (Or.inr ⟨rfl, by omega, (frM.up est_1)⟩)⟩ (by exact Nat.le_refl _) (by exact Nat.le_refl _) dX10_well_59
            · have ic_8 := gz_nlt (rfl : w.toInt = w.toInt) (by decide : (0 : Int32).toInt = 0) c_8
              refine lv_iload_n hx hb dX10_well_40 rfl (lv_at hl 3 rfl) ?_
              refine lv_sipush (v := 200) hx hb dX10_well_41 (by decide) ?_
              refine lv_icmp_gt (tgt := 58) hx hb dX10_well_44 (by decide) (fun c_9 => ?_) (fun c_9 => ?_)
              · have ic_9 := gz_lt (by decide : (200 : Int32).toInt = 200) (rfl : w.toInt = w.toInt) c_9
                refine lv_iconst (v := 0) hx hb dX10_well_58 (by decide) ?_
                exact gs_iret hx hb hr hlocks hM hS (by decide) ⟨hB_st_1, (Or.inr ⟨rfl, by omega, (frM.up est_1)⟩)⟩ (by exact Nat.le_refl _) (by exact Nat.le_refl _) dX10_well_59
              · have ic_9 := gz_nlt (by decide : (200 : Int32).toInt = 200) (rfl : w.toInt = w.toInt) c_9
                refine lv_iload hx hb dX10_well_47 (lv_at hl 4 rfl) ?_
                refine lv_if_lt (tgt := 58) hx hb dX10_well_49 (by decide) (fun c_10 => ?_) (fun c_10 => ?_)
                · have ic_10 := gz_lt (rfl : v.toInt = v.toInt) (by decide : (0 : Int32).toInt = 0) c_10
                  refine lv_iconst (v := 0) hx hb dX10_well_58 (by decide) ?_
                  exact gs_iret hx hb hr hlocks hM hS (by decide) ⟨hB_st_1, (Or.inr ⟨rfl, by omega, (frM.up est_1)⟩)⟩ (by exact Nat.le_refl _) (by exact Nat.le_refl _) dX10_well_59
                · have ic_10 := gz_nlt (rfl : v.toInt = v.toInt) (by decide : (0 : Int32).toInt = 0) c_10
                  refine lv_iload hx hb dX10_well_52 (lv_at hl 4 rfl) ?_
                  refine lv_iload_n hx hb dX10_well_54 rfl (lv_at hl 2 rfl) ?_
                  refine lv_icmp_le (tgt := 60) hx hb dX10_well_55 (by decide) (fun c_11 => ?_) (fun c_11 => ?_)
                  · have ic_11 := gz_le (rfl : v.toInt = v.toInt) (rfl : y.toInt = y.toInt) c_11
                    refine lv_aload_n hx hb dX10_well_60 rfl (lv_at hl 0 rfl) ?_
                    refine gs_get (C := RX10) (T := TX10) (N := 59) hx hb hts inX10 hown hK hM 0 0 1 (by decide) rfl rfl (by decide) (hts _ gm_902) (fun _ h9 => h9) rfl dX10_well_61 ?_
                    refine lv_iload_n hx hb dX10_well_64 rfl (lv_at hl 1 rfl) ?_
                    refine lv_iconst (v := 1) hx hb dX10_well_65 (by decide) ?_
                    refine gs_zast hx hb hK hI hm hM hS 1 0 (by decide) (fun _ => rfl) (vp_in_iff.mpr ⟨by omega, by omega⟩) dX10_well_66 (fun st_12 H locs est_12 hM hS => ?_)
                    have hB_st_12 : gBN bM kM [0, 100, 200, 300, 400, 500] st st_12 := by rw [est_12]; exact hB_st_1.up (show (100 : Nat) ∈ _ from by decide) (gi_lo _) (gi_hi _)
                    refine lv_aload_n hx hb dX10_well_67 rfl (lv_at hl 0 rfl) ?_
                    refine gs_get (C := RX10) (T := TX10) (N := 59) hx hb hts inX10 hown hK hM 0 0 2 (by decide) rfl rfl (by decide) (hts _ gm_903) (fun _ h9 => h9) rfl dX10_well_68 ?_
                    refine lv_iload_n hx hb dX10_well_71 rfl (lv_at hl 1 rfl) ?_
                    refine lv_iload_n hx hb dX10_well_72 rfl (lv_at hl 2 rfl) ?_
                    refine gs_iast hx hb hK hI hm hM hS 2 0 (by decide) (fun _ => rfl) (vp_in_iff.mpr ⟨by omega, by omega⟩) dX10_well_73 (fun st_13 H locs est_13 hM hS => ?_)
                    have hB_st_13 : gBN bM kM [0, 100, 200, 300, 400, 500] st st_13 := by rw [est_13]; exact hB_st_12.up (show (200 : Nat) ∈ _ from by decide) (gi_lo _) (gi_hi _)
                    refine lv_aload_n hx hb dX10_well_74 rfl (lv_at hl 0 rfl) ?_
                    refine gs_get (C := RX10) (T := TX10) (N := 59) hx hb hts inX10 hown hK hM 0 0 3 (by decide) rfl rfl (by decide) (hts _ gm_904) (fun _ h9 => h9) rfl dX10_well_75 ?_
                    refine lv_iload_n hx hb dX10_well_78 rfl (lv_at hl 1 rfl) ?_
                    refine lv_iload_n hx hb dX10_well_79 rfl (lv_at hl 3 rfl) ?_
                    refine gs_iast hx hb hK hI hm hM hS 3 0 (by decide) (fun _ => rfl) (vp_in_iff.mpr ⟨by omega, by omega⟩) dX10_well_80 (fun st_14 H locs est_14 hM hS => ?_)
                    have hB_st_14 : gBN bM kM [0, 100, 200, 300, 400, 500] st st_14 := by rw [est_14]; exact hB_st_13.up (show (300 : Nat) ∈ _ from by decide) (gi_lo _) (gi_hi _)
                    refine lv_aload_n hx hb dX10_well_81 rfl (lv_at hl 0 rfl) ?_
                    refine gs_get (C := RX10) (T := TX10) (N := 59) hx hb hts inX10 hown hK hM 0 0 4 (by decide) rfl rfl (by decide) (hts _ gm_905) (fun _ h9 => h9) rfl dX10_well_82 ?_
                    refine lv_iload_n hx hb dX10_well_85 rfl (lv_at hl 1 rfl) ?_
                    refine lv_iload hx hb dX10_well_86 (lv_at hl 4 rfl) ?_
                    refine gs_iast hx hb hK hI hm hM hS 4 0 (by decide) (fun _ => rfl) (vp_in_iff.mpr ⟨by omega, by omega⟩) dX10_well_88 (fun st_15 H locs est_15 hM hS => ?_)
                    have hB_st_15 : gBN bM kM [0, 100, 200, 300, 400, 500] st st_15 := by rw [est_15]; exact hB_st_14.up (show (400 : Nat) ∈ _ from by decide) (gi_lo _) (gi_hi _)
                    refine lv_aload_n hx hb dX10_well_89 rfl (lv_at hl 0 rfl) ?_
                    refine gs_get (C := RX10) (T := TX10) (N := 59) hx hb hts inX10 hown hK hM 0 0 5 (by decide) rfl rfl (by decide) (hts _ gm_906) (fun _ h9 => h9) rfl dX10_well_90 ?_
                    refine lv_iload_n hx hb dX10_well_93 rfl (lv_at hl 1 rfl) ?_
                    refine lv_iload hx hb dX10_well_94 (lv_at hl 4 rfl) ?_
                    refine gs_iast hx hb hK hI hm hM hS 5 0 (by decide) (fun _ => rfl) (vp_in_iff.mpr ⟨by omega, by omega⟩) dX10_well_96 (fun st_16 H locs est_16 hM hS => ?_)
                    have hB_st_16 : gBN bM kM [0, 100, 200, 300, 400, 500] st st_16 := by rw [est_16]; exact hB_st_15.up (show (500 : Nat) ∈ _ from by decide) (gi_lo _) (gi_hi _)
                    refine lv_iconst (v := 1) hx hb dX10_well_97 (by decide) ?_
                    exact gs_iret hx hb hr hlocks hM hS (by decide) ⟨hB_st_16, (Or.inl ⟨rfl, by omega, by omega, by omega, by omega, by omega, by omega, by omega, by omega, by omega, ((congrFun (congrFun est_16 1) 0).trans ((congrFun (gU_k (by decide)) 0).trans ((congrFun (congrFun est_15 1) 0).trans ((congrFun (gU_k (by decide)) 0).trans ((congrFun (congrFun est_14 1) 0).trans ((congrFun (gU_k (by decide)) 0).trans ((congrFun (congrFun est_13 1) 0).trans ((congrFun (gU_k (by decide)) 0).trans ((congrFun (congrFun est_12 1) 0).trans ((gU_at _ _ _ _ _).trans (congrArg (fun f9 => upd f9 (x.toNatClampNeg) ((vp_nar .boolean 1) : Int32)) ((congrFun (congrFun est_1 1) 0).trans ((congrFun (gU_k (by decide)) 0).trans rfl))))))))))))), ((congrFun (congrFun est_16 2) 0).trans ((congrFun (gU_k (by decide)) 0).trans ((congrFun (congrFun est_15 2) 0).trans ((congrFun (gU_k (by decide)) 0).trans ((congrFun (congrFun est_14 2) 0).trans ((congrFun (gU_k (by decide)) 0).trans ((congrFun (congrFun est_13 2) 0).trans ((gU_at _ _ _ _ _).trans (congrArg (fun f9 => upd f9 (x.toNatClampNeg) (y : Int32)) ((congrFun (congrFun est_12 2) 0).trans ((congrFun (gU_k (by decide)) 0).trans ((congrFun (congrFun est_1 2) 0).trans ((congrFun (gU_k (by decide)) 0).trans rfl))))))))))))), ((congrFun (congrFun est_16 3) 0).trans ((congrFun (gU_k (by decide)) 0).trans ((congrFun (congrFun est_15 3) 0).trans ((congrFun (gU_k (by decide)) 0).trans ((congrFun (congrFun est_14 3) 0).trans ((gU_at _ _ _ _ _).trans (congrArg (fun f9 => upd f9 (x.toNatClampNeg) (w : Int32)) ((congrFun (congrFun est_13 3) 0).trans ((congrFun (gU_k (by decide)) 0).trans ((congrFun (congrFun est_12 3) 0).trans ((congrFun (gU_k (by decide)) 0).trans ((congrFun (congrFun est_1 3) 0).trans ((congrFun (gU_k (by decide)) 0).trans rfl))))))))))))), ((congrFun (congrFun est_16 4) 0).trans ((congrFun (gU_k (by decide)) 0).trans ((congrFun (congrFun est_15 4) 0).trans ((gU_at _ _ _ _ _).trans (congrArg (fun f9 => upd f9 (x.toNatClampNeg) (v : Int32)) ((congrFun (congrFun est_14 4) 0).trans ((congrFun (gU_k (by decide)) 0).trans ((congrFun (congrFun est_13 4) 0).trans ((congrFun (gU_k (by decide)) 0).trans ((congrFun (congrFun est_12 4) 0).trans ((congrFun (gU_k (by decide)) 0).trans ((congrFun (congrFun est_1 4) 0).trans ((congrFun (gU_k (by decide)) 0).trans rfl))))))))))))), ((congrFun (congrFun est_16 5) 0).trans ((gU_at _ _ _ _ _).trans (congrArg (fun f9 => upd f9 (x.toNatClampNeg) (v : Int32)) ((congrFun (congrFun est_15 5) 0).trans ((congrFun (gU_k (by decide)) 0).trans ((congrFun (congrFun est_14 5) 0).trans ((congrFun (gU_k (by decide)) 0).trans ((congrFun (congrFun est_13 5) 0).trans ((congrFun (gU_k (by decide)) 0).trans ((congrFun (congrFun est_12 5) 0).trans ((congrFun (gU_k (by decide)) 0).trans ((congrFun (congrFun est_1 5) 0).trans ((congrFun (gU_k (by decide)) 0).trans rfl)))))))))))))⟩)⟩ (by exact Nat.le_refl _) (by exact Nat.le_refl _) dX10_well_98
                  · have ic_11 := gz_nle (rfl : v.toInt = v.toInt) (rfl : y.toInt = y.toInt) c_11
                    have lc_11 := gi_hi v
                    refine lv_iconst (v := 0) hx hb dX10_well_58 (by decide) ?_
                    exact gs_iret hx hb hr hlocks hM hS (by decide) ⟨hB_st_1, (Or.inr ⟨rfl, by omega, (frM.up est_1)⟩)⟩ (by exact Nat.le_refl _) (by exact Nat.le_refl _) dX10_well_59

set_option maxHeartbeats 4000000 in
set_option maxRecDepth 100000 in
/-- WellCourtModel.four -/
theorem m_fourB (l : Launch) (G : va_G) (cy : Nat → ClassId) (sK sV : Nat → Nat) (ad : Nat → Nat → Nat) (sz : Nat) (st : gS) (hB : gBd bM st) (x : Int32) (hlen : (st 0 0 9).toInt ≤ 796) : gsMv l yX10_four cX10_four 3 ({ frames := 0, cells := 0, slots := 0, locals := 0 } : Room) G cy sK sV (shM cy ad) cnM ad sz [.ref (ad 0 0), .int x] st (fun (u : gS) => gBN bM kM [9, 700] st u ∧ (((u 0 0 9).toInt = (st 0 0 9).toInt + 4) ∧ (u 7 0 = fd4 (st 7 0) (st 0 0 9).toNatClampNeg x))) := by
  refine gs_start (fun A => gsQv G (shM cy ad) cnM ad _ A) (by decide) (Nat.le_of_ble_eq_true rfl) ?_
  intro p e s m below meth c A ls H hx hb hr hml hlocks hown hts hK hov hE hI hM hm hS hA hl
  have hl : lv_has ls 3 [(0, .ref (ad 0 0)), (1, .int x)] := hl
  have hB_st : gBN bM kM [9, 700] st st := gBN.rf hB
  have b9 : (0 : Int) ≤ (st 0 0 9).toInt ∧ (st 0 0 9).toInt ≤ (800 : Int) := hB 0 0 9
  refine lv_bipush (v := 24) hx hb dX10_four_0 (by decide) ?_
  refine lv_istore_n (lv' := [(2, .int 24), (0, .ref (ad 0 0)), (1, .int x)]) hx hb dX10_four_2 rfl hl (by decide) rfl (fun ls hl => ?_)
  refine lv_iload_n hx hb dX10_four_3 rfl (lv_at hl 0 rfl) ?_
  refine lv_if_lt (tgt := 36) hx hb dX10_four_4 (by decide) (fun h9 => absurd h9 (by decide)) (fun _ => ?_)
  refine lv_aload_n hx hb dX10_four_7 rfl (lv_at hl 1 rfl) ?_
  refine gs_get (C := RX10) (T := TX10) (N := 59) hx hb hts inX10 hown hK hM 0 0 8 (by decide) rfl rfl (by decide) (hts _ gm_909) (fun _ h9 => h9) rfl dX10_four_8 ?_
  refine lv_aload_n hx hb dX10_four_11 rfl (lv_at hl 1 rfl) ?_
  refine gs_get (C := RX10) (T := TX10) (N := 59) hx hb hts inX10 hown hK hM 0 0 9 (by decide) rfl rfl (by decide) (hts _ gm_910) (fun _ h9 => h9) rfl dX10_four_12 ?_
  have bf_1 : (0 : Int) ≤ (st 0 0 9).toInt ∧ (st 0 0 9).toInt ≤ (800 : Int) := hB_st.1 0 0 9
  refine lv_iload_n hx hb dX10_four_15 rfl (lv_at hl 2 rfl) ?_
  refine lv_iload_n hx hb dX10_four_16 rfl (lv_at hl 0 rfl) ?_
  refine lv_ishr hx hb dX10_four_17 ?_
  refine lv_topi (fun x_2 ex_2 => ?_)
  obtain ⟨x_3, ex_3⟩ : ∃ y : Int32, (x_2 : Int32).toInt8.toInt32 = y := ⟨_, rfl⟩
  refine lv_i2b hx hb dX10_four_18 ex_3 ?_
  refine gs_bast hx hb hK hI hm hM hS 7 0 (by decide) (fun _ => rfl) (vp_in_iff.mpr ⟨by omega, by omega⟩) dX10_four_19 (fun st_4 H locs est_4 hM hS => ?_)
  have hB_st_4 : gBN bM kM [9, 700] st st_4 := by rw [est_4]; exact hB_st.up (show (700 : Nat) ∈ _ from by decide) (gi_lo _) (gi_hi _)
  refine lv_aload_n hx hb dX10_four_20 rfl (lv_at hl 1 rfl) ?_
  refine lv_dup hx hb dX10_four_21 rfl ?_
  refine gs_get (C := RX10) (T := TX10) (N := 59) hx hb hts inX10 hown hK hM 0 0 9 (by decide) rfl rfl (by decide) (hts _ gm_910) (fun _ h9 => h9) rfl dX10_four_22 ?_
  refine lv_topi (fun x_5 ex_5 => ?_)
  have ex_5 : (st 0 0 9) = x_5 := Eq.symm (ex_5.trans ((congrFun (congrFun (congrFun est_4 0) 0) 9).trans (congrFun (congrFun (gU_k (by decide)) 0) 9)))
  subst ex_5
  have bf_6 : (0 : Int) ≤ (st 0 0 9).toInt ∧ (st 0 0 9).toInt ≤ (800 : Int) := hB_st.1 0 0 9
  refine lv_iconst (v := 1) hx hb dX10_four_25 (by decide) ?_
  refine lv_iadd hx hb dX10_four_26 ?_
  refine lv_topi (fun x_7 ex_7 => ?_)
  try have tx_7 : x_7.toInt = (st 0 0 9).toInt + 1 := by rw [ex_7]; exact gz_addP (x := (st 0 0 9).toInt) (y := 1) rfl (by decide) (by omega) (by omega)
  refine gs_put (C := RX10) (T := TX10) (N := 59) (ty := .int) (val := .int x_7) hx hb hts inX10 tyX10 tyX10_ok nmX10 hown hK hI hm hM hS 0 0 9 (by decide) rfl rfl (by decide) (hts _ gm_910) (fun _ h9 => h9) rfl (x_7 : Int32) rfl (by decide +kernel) rfl rfl (Nat.le_of_ble_eq_true rfl) dX10_four_27 (fun st_8 H locs est_8 hM hS => ?_)
  have hB_st_8 : gBN bM kM [9, 700] st st_8 := by rw [est_8]; exact hB_st_4.up (show (9 : Nat) ∈ _ from by decide) (show (0 : Int) ≤ x_7.toInt from by omega) (show x_7.toInt ≤ (800 : Int) from by omega)
  refine lv_iinc (v := (16)) (lv' := [(2, .int 16), (0, .ref (ad 0 0)), (1, .int x)]) hx hb dX10_four_30 hl (k := 0) rfl (by decide) (by decide) rfl (fun ls hl => ?_)
  refine lv_goto (tgt := 3) hx hb dX10_four_33 (by decide) ?_
  refine lv_iload_n hx hb dX10_four_3 rfl (lv_at hl 0 rfl) ?_
  refine lv_if_lt (tgt := 36) hx hb dX10_four_4 (by decide) (fun h9 => absurd h9 (by decide)) (fun _ => ?_)
  refine lv_aload_n hx hb dX10_four_7 rfl (lv_at hl 1 rfl) ?_
  refine gs_get (C := RX10) (T := TX10) (N := 59) hx hb hts inX10 hown hK hM 0 0 8 (by decide) rfl rfl (by decide) (hts _ gm_909) (fun _ h9 => h9) rfl dX10_four_8 ?_
  refine lv_aload_n hx hb dX10_four_11 rfl (lv_at hl 1 rfl) ?_
  refine gs_get (C := RX10) (T := TX10) (N := 59) hx hb hts inX10 hown hK hM 0 0 9 (by decide) rfl rfl (by decide) (hts _ gm_910) (fun _ h9 => h9) rfl dX10_four_12 ?_
  refine lv_topi (fun x_9 ex_9 => ?_)
  have ex_9 : x_7 = x_9 := Eq.symm (ex_9.trans ((congrFun (congrFun (congrFun est_8 0) 0) 9).trans (gU_same _ _ _ _ _)))
  subst ex_9
  refine lv_iload_n hx hb dX10_four_15 rfl (lv_at hl 2 rfl) ?_
  refine lv_iload_n hx hb dX10_four_16 rfl (lv_at hl 0 rfl) ?_
  refine lv_ishr hx hb dX10_four_17 ?_
  refine lv_topi (fun x_10 ex_10 => ?_)
  obtain ⟨x_11, ex_11⟩ : ∃ y : Int32, (x_10 : Int32).toInt8.toInt32 = y := ⟨_, rfl⟩
  refine lv_i2b hx hb dX10_four_18 ex_11 ?_
  refine gs_bast hx hb hK hI hm hM hS 7 0 (by decide) (fun _ => rfl) (vp_in_iff.mpr ⟨by omega, by omega⟩) dX10_four_19 (fun st_12 H locs est_12 hM hS => ?_)
  have hB_st_12 : gBN bM kM [9, 700] st st_12 := by rw [est_12]; exact hB_st_8.up (show (700 : Nat) ∈ _ from by decide) (gi_lo _) (gi_hi _)
  refine lv_aload_n hx hb dX10_four_20 rfl (lv_at hl 1 rfl) ?_
  refine lv_dup hx hb dX10_four_21 rfl ?_
  refine gs_get (C := RX10) (T := TX10) (N := 59) hx hb hts inX10 hown hK hM 0 0 9 (by decide) rfl rfl (by decide) (hts _ gm_910) (fun _ h9 => h9) rfl dX10_four_22 ?_
  refine lv_topi (fun x_13 ex_13 => ?_)
  have ex_13 : x_7 = x_13 := Eq.symm (ex_13.trans (((congrFun (congrFun (congrFun est_12 0) 0) 9).trans (congrFun (congrFun (gU_k (by decide)) 0) 9)).trans ((congrFun (congrFun (congrFun est_8 0) 0) 9).trans (gU_same _ _ _ _ _))))
  subst ex_13
  refine lv_iconst (v := 1) hx hb dX10_four_25 (by decide) ?_
  refine lv_iadd hx hb dX10_four_26 ?_
  refine lv_topi (fun x_14 ex_14 => ?_)
  try have tx_14 : x_14.toInt = x_7.toInt + 1 := by rw [ex_14]; exact gz_addP (x := x_7.toInt) (y := 1) rfl (by decide) (by omega) (by omega)
  refine gs_put (C := RX10) (T := TX10) (N := 59) (ty := .int) (val := .int x_14) hx hb hts inX10 tyX10 tyX10_ok nmX10 hown hK hI hm hM hS 0 0 9 (by decide) rfl rfl (by decide) (hts _ gm_910) (fun _ h9 => h9) rfl (x_14 : Int32) rfl (by decide +kernel) rfl rfl (Nat.le_of_ble_eq_true rfl) dX10_four_27 (fun st_15 H locs est_15 hM hS => ?_)
  have hB_st_15 : gBN bM kM [9, 700] st st_15 := by rw [est_15]; exact hB_st_12.up (show (9 : Nat) ∈ _ from by decide) (show (0 : Int) ≤ x_14.toInt from by omega) (show x_14.toInt ≤ (800 : Int) from by omega)
  refine lv_iinc (v := (8)) (lv' := [(2, .int 8), (0, .ref (ad 0 0)), (1, .int x)]) hx hb dX10_four_30 hl (k := 0) rfl (by decide) (by decide) rfl (fun ls hl => ?_)
  refine lv_goto (tgt := 3) hx hb dX10_four_33 (by decide) ?_
  refine lv_iload_n hx hb dX10_four_3 rfl (lv_at hl 0 rfl) ?_
  refine lv_if_lt (tgt := 36) hx hb dX10_four_4 (by decide) (fun h9 => absurd h9 (by decide)) (fun _ => ?_)
  refine lv_aload_n hx hb dX10_four_7 rfl (lv_at hl 1 rfl) ?_
  refine gs_get (C := RX10) (T := TX10) (N := 59) hx hb hts inX10 hown hK hM 0 0 8 (by decide) rfl rfl (by decide) (hts _ gm_909) (fun _ h9 => h9) rfl dX10_four_8 ?_
  refine lv_aload_n hx hb dX10_four_11 rfl (lv_at hl 1 rfl) ?_
  refine gs_get (C := RX10) (T := TX10) (N := 59) hx hb hts inX10 hown hK hM 0 0 9 (by decide) rfl rfl (by decide) (hts _ gm_910) (fun _ h9 => h9) rfl dX10_four_12 ?_
  refine lv_topi (fun x_16 ex_16 => ?_)
  have ex_16 : x_14 = x_16 := Eq.symm (ex_16.trans ((congrFun (congrFun (congrFun est_15 0) 0) 9).trans (gU_same _ _ _ _ _)))
  subst ex_16
  refine lv_iload_n hx hb dX10_four_15 rfl (lv_at hl 2 rfl) ?_
  refine lv_iload_n hx hb dX10_four_16 rfl (lv_at hl 0 rfl) ?_
  refine lv_ishr hx hb dX10_four_17 ?_
  refine lv_topi (fun x_17 ex_17 => ?_)
  obtain ⟨x_18, ex_18⟩ : ∃ y : Int32, (x_17 : Int32).toInt8.toInt32 = y := ⟨_, rfl⟩
  refine lv_i2b hx hb dX10_four_18 ex_18 ?_
  refine gs_bast hx hb hK hI hm hM hS 7 0 (by decide) (fun _ => rfl) (vp_in_iff.mpr ⟨by omega, by omega⟩) dX10_four_19 (fun st_19 H locs est_19 hM hS => ?_)
  have hB_st_19 : gBN bM kM [9, 700] st st_19 := by rw [est_19]; exact hB_st_15.up (show (700 : Nat) ∈ _ from by decide) (gi_lo _) (gi_hi _)
  refine lv_aload_n hx hb dX10_four_20 rfl (lv_at hl 1 rfl) ?_
  refine lv_dup hx hb dX10_four_21 rfl ?_
  refine gs_get (C := RX10) (T := TX10) (N := 59) hx hb hts inX10 hown hK hM 0 0 9 (by decide) rfl rfl (by decide) (hts _ gm_910) (fun _ h9 => h9) rfl dX10_four_22 ?_
  refine lv_topi (fun x_20 ex_20 => ?_)
  have ex_20 : x_14 = x_20 := Eq.symm (ex_20.trans (((congrFun (congrFun (congrFun est_19 0) 0) 9).trans (congrFun (congrFun (gU_k (by decide)) 0) 9)).trans ((congrFun (congrFun (congrFun est_15 0) 0) 9).trans (gU_same _ _ _ _ _))))
  subst ex_20
  refine lv_iconst (v := 1) hx hb dX10_four_25 (by decide) ?_
  refine lv_iadd hx hb dX10_four_26 ?_
  refine lv_topi (fun x_21 ex_21 => ?_)
  try have tx_21 : x_21.toInt = x_14.toInt + 1 := by rw [ex_21]; exact gz_addP (x := x_14.toInt) (y := 1) rfl (by decide) (by omega) (by omega)
  refine gs_put (C := RX10) (T := TX10) (N := 59) (ty := .int) (val := .int x_21) hx hb hts inX10 tyX10 tyX10_ok nmX10 hown hK hI hm hM hS 0 0 9 (by decide) rfl rfl (by decide) (hts _ gm_910) (fun _ h9 => h9) rfl (x_21 : Int32) rfl (by decide +kernel) rfl rfl (Nat.le_of_ble_eq_true rfl) dX10_four_27 (fun st_22 H locs est_22 hM hS => ?_)
  have hB_st_22 : gBN bM kM [9, 700] st st_22 := by rw [est_22]; exact hB_st_19.up (show (9 : Nat) ∈ _ from by decide) (show (0 : Int) ≤ x_21.toInt from by omega) (show x_21.toInt ≤ (800 : Int) from by omega)
  refine lv_iinc (v := (0)) (lv' := [(2, .int 0), (0, .ref (ad 0 0)), (1, .int x)]) hx hb dX10_four_30 hl (k := 0) rfl (by decide) (by decide) rfl (fun ls hl => ?_)
  refine lv_goto (tgt := 3) hx hb dX10_four_33 (by decide) ?_
  refine lv_iload_n hx hb dX10_four_3 rfl (lv_at hl 0 rfl) ?_
  refine lv_if_lt (tgt := 36) hx hb dX10_four_4 (by decide) (fun h9 => absurd h9 (by decide)) (fun _ => ?_)
  refine lv_aload_n hx hb dX10_four_7 rfl (lv_at hl 1 rfl) ?_
  refine gs_get (C := RX10) (T := TX10) (N := 59) hx hb hts inX10 hown hK hM 0 0 8 (by decide) rfl rfl (by decide) (hts _ gm_909) (fun _ h9 => h9) rfl dX10_four_8 ?_
  refine lv_aload_n hx hb dX10_four_11 rfl (lv_at hl 1 rfl) ?_
  refine gs_get (C := RX10) (T := TX10) (N := 59) hx hb hts inX10 hown hK hM 0 0 9 (by decide) rfl rfl (by decide) (hts _ gm_910) (fun _ h9 => h9) rfl dX10_four_12 ?_
  refine lv_topi (fun x_23 ex_23 => ?_)
  have ex_23 : x_21 = x_23 := Eq.symm (ex_23.trans ((congrFun (congrFun (congrFun est_22 0) 0) 9).trans (gU_same _ _ _ _ _)))
  subst ex_23
  refine lv_iload_n hx hb dX10_four_15 rfl (lv_at hl 2 rfl) ?_
  refine lv_iload_n hx hb dX10_four_16 rfl (lv_at hl 0 rfl) ?_
  refine lv_ishr hx hb dX10_four_17 ?_
  refine lv_topi (fun x_24 ex_24 => ?_)
  obtain ⟨x_25, ex_25⟩ : ∃ y : Int32, (x_24 : Int32).toInt8.toInt32 = y := ⟨_, rfl⟩
  refine lv_i2b hx hb dX10_four_18 ex_25 ?_
  refine gs_bast hx hb hK hI hm hM hS 7 0 (by decide) (fun _ => rfl) (vp_in_iff.mpr ⟨by omega, by omega⟩) dX10_four_19 (fun st_26 H locs est_26 hM hS => ?_)
  have hB_st_26 : gBN bM kM [9, 700] st st_26 := by rw [est_26]; exact hB_st_22.up (show (700 : Nat) ∈ _ from by decide) (gi_lo _) (gi_hi _)
  refine lv_aload_n hx hb dX10_four_20 rfl (lv_at hl 1 rfl) ?_
  refine lv_dup hx hb dX10_four_21 rfl ?_
  refine gs_get (C := RX10) (T := TX10) (N := 59) hx hb hts inX10 hown hK hM 0 0 9 (by decide) rfl rfl (by decide) (hts _ gm_910) (fun _ h9 => h9) rfl dX10_four_22 ?_
  refine lv_topi (fun x_27 ex_27 => ?_)
  have ex_27 : x_21 = x_27 := Eq.symm (ex_27.trans (((congrFun (congrFun (congrFun est_26 0) 0) 9).trans (congrFun (congrFun (gU_k (by decide)) 0) 9)).trans ((congrFun (congrFun (congrFun est_22 0) 0) 9).trans (gU_same _ _ _ _ _))))
  subst ex_27
  refine lv_iconst (v := 1) hx hb dX10_four_25 (by decide) ?_
  refine lv_iadd hx hb dX10_four_26 ?_
  refine lv_topi (fun x_28 ex_28 => ?_)
  try have tx_28 : x_28.toInt = x_21.toInt + 1 := by rw [ex_28]; exact gz_addP (x := x_21.toInt) (y := 1) rfl (by decide) (by omega) (by omega)
  refine gs_put (C := RX10) (T := TX10) (N := 59) (ty := .int) (val := .int x_28) hx hb hts inX10 tyX10 tyX10_ok nmX10 hown hK hI hm hM hS 0 0 9 (by decide) rfl rfl (by decide) (hts _ gm_910) (fun _ h9 => h9) rfl (x_28 : Int32) rfl (by decide +kernel) rfl rfl (Nat.le_of_ble_eq_true rfl) dX10_four_27 (fun st_29 H locs est_29 hM hS => ?_)
  have hB_st_29 : gBN bM kM [9, 700] st st_29 := by rw [est_29]; exact hB_st_26.up (show (9 : Nat) ∈ _ from by decide) (show (0 : Int) ≤ x_28.toInt from by omega) (show x_28.toInt ≤ (800 : Int) from by omega)
  refine lv_iinc (v := ((-8))) (lv' := [(2, .int (-8)), (0, .ref (ad 0 0)), (1, .int x)]) hx hb dX10_four_30 hl (k := 0) rfl (by decide) (by decide) rfl (fun ls hl => ?_)
  refine lv_goto (tgt := 3) hx hb dX10_four_33 (by decide) ?_
  refine lv_iload_n hx hb dX10_four_3 rfl (lv_at hl 0 rfl) ?_
  refine lv_if_lt (tgt := 36) hx hb dX10_four_4 (by decide) (fun _ => ?_) (fun h9 => absurd (by decide) h9)
  exact gs_vret hx hb hr hlocks hM hS ⟨hB_st_29, (by have hq0 : (st_29 0 0 9).toInt = (x_28 : Int32).toInt := congrArg Int32.toInt (((congrFun (congrFun (congrFun est_29 0) 0) 9).trans (gU_same _ _ _ _ _))); have hb1 : (0 : Int) ≤ (st_29 0 0 9).toInt ∧ (st_29 0 0 9).toInt ≤ (800 : Int) := hB_st_29.1 0 0 9; have hb2 : (0 : Int) ≤ (st 0 0 9).toInt ∧ (st 0 0 9).toInt ≤ (800 : Int) := hB_st.1 0 0 9; omega), (((congrFun (congrFun est_29 7) 0).trans ((congrFun (gU_k (by decide)) 0).trans ((congrFun (congrFun est_26 7) 0).trans ((gU_at _ _ _ _ _).trans (congrArg (fun f9 => upd f9 (x_21.toNatClampNeg) ((vp_nar .byte x_25) : Int32)) ((congrFun (congrFun est_22 7) 0).trans ((congrFun (gU_k (by decide)) 0).trans ((congrFun (congrFun est_19 7) 0).trans ((gU_at _ _ _ _ _).trans (congrArg (fun f9 => upd f9 (x_14.toNatClampNeg) ((vp_nar .byte x_18) : Int32)) ((congrFun (congrFun est_15 7) 0).trans ((congrFun (gU_k (by decide)) 0).trans ((congrFun (congrFun est_12 7) 0).trans ((gU_at _ _ _ _ _).trans (congrArg (fun f9 => upd f9 (x_7.toNatClampNeg) ((vp_nar .byte x_11) : Int32)) ((congrFun (congrFun est_8 7) 0).trans ((congrFun (gU_k (by decide)) 0).trans ((congrFun (congrFun est_4 7) 0).trans ((gU_at _ _ _ _ _).trans (congrArg (fun f9 => upd f9 ((st 0 0 9).toNatClampNeg) ((vp_nar .byte x_3) : Int32)) rfl)))))))))))))))))))).trans (by rw [← ex_3, ex_2, ← ex_11, ex_10, ← ex_18, ex_17, ← ex_25, ex_24, show x_7.toNatClampNeg = (st 0 0 9).toNatClampNeg + 1 from (by have h8 := gs_cl (x := x_7) (by omega); have h9 := gs_cl (x := (st 0 0 9)) (by omega); omega), show x_14.toNatClampNeg = (st 0 0 9).toNatClampNeg + 2 from (by have h8 := gs_cl (x := x_14) (by omega); have h9 := gs_cl (x := (st 0 0 9)) (by omega); omega), show x_21.toNatClampNeg = (st 0 0 9).toNatClampNeg + 3 from (by have h8 := gs_cl (x := x_21) (by omega); have h9 := gs_cl (x := (st 0 0 9)) (by omega); omega)]; rfl))⟩ (by exact Nat.le_refl _) (by exact Nat.le_refl _) dX10_four_36

set_option maxHeartbeats 4000000 in
set_option maxRecDepth 100000 in
/-- WellCourtModel.feed -/
theorem m_feedB (l : Launch) (G : va_G) (cy : Nat → ClassId) (sK sV : Nat → Nat) (ad : Nat → Nat → Nat) (sz : Nat) (st : gS) (hB : gBd bM st) (x : Int32) (y : Int32) (w : Int32) (v : Int32) (t : Int32) : gsMi l yX10_feed cX10_feed 6 (some .int) ({ frames := 1, cells := 0, slots := 0, locals := 22 } : Room) G cy sK sV (shM cy ad) cnM ad sz [.ref (ad 0 0), .int x, .int y, .int w, .int v, .int t] st (fun (r : Int32) (u : gS) => gBN bM kM [0, 9, 700] st u ∧ (((r.toInt = -1 ∧ 780 < (st 0 0 9).toInt ∧ (u 0 0 9).toInt = (st 0 0 9).toInt ∧ u 7 0 = st 7 0) ∨ ((st 0 0 9).toInt ≤ 780 ∧ r.toInt = (st 0 0 9).toInt + 20 ∧ (u 0 0 9).toInt = (st 0 0 9).toInt + 20 ∧ u 7 0 = fd20 (st 7 0) (st 0 0 9).toNatClampNeg x y w v t)))) := by
  refine gs_start (fun A => gsQi G (shM cy ad) cnM ad _ A) (by decide) (Nat.le_of_ble_eq_true rfl) ?_
  intro p e s m below meth c A ls H hx hb hr hml hlocks hown hts hK hov hE hI hM hm hS hA hl
  have hl : lv_has ls 6 [(0, .ref (ad 0 0)), (1, .int x), (2, .int y), (3, .int w), (4, .int v), (5, .int t)] := hl
  have hB_st : gBN bM kM [0, 9, 700] st st := gBN.rf hB
  have b9 : (0 : Int) ≤ (st 0 0 9).toInt ∧ (st 0 0 9).toInt ≤ (800 : Int) := hB 0 0 9
  refine lv_aload_n hx hb dX10_feed_0 rfl (lv_at hl 0 rfl) ?_
  refine lv_iconst (v := 0) hx hb dX10_feed_1 (by decide) ?_
  refine gs_put (C := RX10) (T := TX10) (N := 59) (ty := .int) (val := .int 0) hx hb hts inX10 tyX10 tyX10_ok nmX10 hown hK hI hm hM hS 0 0 0 (by decide) rfl rfl (by decide) (hts _ gm_901) (fun _ h9 => h9) rfl (0 : Int32) rfl (by decide +kernel) rfl rfl (Nat.le_of_ble_eq_true rfl) dX10_feed_2 (fun st_1 H locs est_1 hM hS => ?_)
  have hB_st_1 : gBN bM kM [0, 9, 700] st st_1 := by rw [est_1]; exact hB_st.up (show (0 : Nat) ∈ _ from by decide) (gi_lo _) (gi_hi _)
  refine lv_aload_n hx hb dX10_feed_5 rfl (lv_at hl 0 rfl) ?_
  refine gs_get (C := RX10) (T := TX10) (N := 59) hx hb hts inX10 hown hK hM 0 0 9 (by decide) rfl rfl (by decide) (hts _ gm_910) (fun _ h9 => h9) rfl dX10_feed_6 ?_
  refine lv_topi (fun x_2 ex_2 => ?_)
  have ex_2 : (st 0 0 9) = x_2 := Eq.symm (ex_2.trans ((congrFun (congrFun (congrFun est_1 0) 0) 9).trans (gU_other (by decide))))
  subst ex_2
  have bf_3 : (0 : Int) ≤ (st 0 0 9).toInt ∧ (st 0 0 9).toInt ≤ (800 : Int) := hB_st.1 0 0 9
  refine lv_bipush (v := 20) hx hb dX10_feed_9 (by decide) ?_
  refine lv_iadd hx hb dX10_feed_11 ?_
  refine lv_topi (fun x_4 ex_4 => ?_)
  try have tx_4 : x_4.toInt = (st 0 0 9).toInt + 20 := by rw [ex_4]; exact gz_addP (x := (st 0 0 9).toInt) (y := 20) rfl (by decide) (by omega) (by omega)
  refine lv_sipush (v := 800) hx hb dX10_feed_12 (by decide) ?_
  refine lv_icmp_le (tgt := 20) hx hb dX10_feed_15 (by decide) (fun c_5 => ?_) (fun c_5 => ?_)
  · have ic_5 := gz_le (rfl : x_4.toInt = x_4.toInt) (by decide : (800 : Int32).toInt = 800) c_5
    refine lv_aload_n hx hb dX10_feed_20 rfl (lv_at hl 0 rfl) ?_
    refine lv_iload_n hx hb dX10_feed_21 rfl (lv_at hl 1 rfl) ?_
    refine gs_callv (va_runV (As := [.int x]) (rest := []) ⟨hx, hb, hml, hown, hts⟩ (m_fourB l G cy sK sV ad H.size st_1 hB_st_1.1 x (by have hq0 : (st_1 0 0 9).toInt = ((st 0 0 9) : Int32).toInt := congrArg Int32.toInt (((congrFun (congrFun (congrFun est_1 0) 0) 9).trans (gU_other (by decide)))); have hb1 : (0 : Int) ≤ (st_1 0 0 9).toInt ∧ (st_1 0 0 9).toInt ≤ (800 : Int) := hB_st_1.1 0 0 9; omega)) ⟨(gz_cb (n := 1) hts gm_1088 gm_12 gm_1091 ⟨by decide +kernel, by decide +kernel, by decide +kernel⟩ ⟨Nat.le_of_ble_eq_true rfl, Nat.le_of_ble_eq_true rfl⟩), hts _ gm_1090, hts _ gs_31⟩ (gs_preV hK hov hE hI hM hm hS hA 0 0 (by decide) rfl rfl) rfl rfl hl.1 rfl (lv_room (Nat.le_of_ble_eq_true rfl)) dX10_feed_22 ⟨Nat.le_of_ble_eq_true rfl, Nat.le_of_ble_eq_true rfl⟩) hm hS hA (fun st_6 H locs hw_6 hM hS => ?_)
    obtain ⟨n_6, hw_6⟩ := hw_6
    have hB_st_6 : gBN bM kM [0, 9, 700] st st_6 := hB_st_1.call n_6 (by decide)
    have hqhw_60 : (st_1 0 0 9).toInt = ((st 0 0 9) : Int32).toInt := congrArg Int32.toInt (((congrFun (congrFun (congrFun est_1 0) 0) 9).trans (gU_other (by decide))))
    have hbhw_61 : (0 : Int) ≤ (st_1 0 0 9).toInt ∧ (st_1 0 0 9).toInt ≤ (800 : Int) := hB_st_1.1 0 0 9
    obtain ⟨hw_6_0, hw_6_1⟩ := hw_6
    refine lv_aload_n hx hb dX10_feed_25 rfl (lv_at hl 0 rfl) ?_
    refine lv_iload_n hx hb dX10_feed_26 rfl (lv_at hl 2 rfl) ?_
    refine gs_callv (va_runV (As := [.int y]) (rest := []) ⟨hx, hb, hml, hown, hts⟩ (m_fourB l G cy sK sV ad H.size st_6 hB_st_6.1 y (by have hb0 : (0 : Int) ≤ (st_6 0 0 9).toInt ∧ (st_6 0 0 9).toInt ≤ (800 : Int) := hB_st_6.1 0 0 9; omega)) ⟨(gz_cb (n := 1) hts gm_1088 gm_12 gm_1091 ⟨by decide +kernel, by decide +kernel, by decide +kernel⟩ ⟨Nat.le_of_ble_eq_true rfl, Nat.le_of_ble_eq_true rfl⟩), hts _ gm_1090, hts _ gs_31⟩ (gs_preV hK hov hE hI hM hm hS hA 0 0 (by decide) rfl rfl) rfl rfl hl.1 rfl (lv_room (Nat.le_of_ble_eq_true rfl)) dX10_feed_27 ⟨Nat.le_of_ble_eq_true rfl, Nat.le_of_ble_eq_true rfl⟩) hm hS hA (fun st_7 H locs hw_7 hM hS => ?_)
    obtain ⟨n_7, hw_7⟩ := hw_7
    have hB_st_7 : gBN bM kM [0, 9, 700] st st_7 := hB_st_6.call n_7 (by decide)
    have hbhw_70 : (0 : Int) ≤ (st_6 0 0 9).toInt ∧ (st_6 0 0 9).toInt ≤ (800 : Int) := hB_st_6.1 0 0 9
    obtain ⟨hw_7_0, hw_7_1⟩ := hw_7
    refine lv_aload_n hx hb dX10_feed_30 rfl (lv_at hl 0 rfl) ?_
    refine lv_iload_n hx hb dX10_feed_31 rfl (lv_at hl 3 rfl) ?_
    refine gs_callv (va_runV (As := [.int w]) (rest := []) ⟨hx, hb, hml, hown, hts⟩ (m_fourB l G cy sK sV ad H.size st_7 hB_st_7.1 w (by have hb0 : (0 : Int) ≤ (st_7 0 0 9).toInt ∧ (st_7 0 0 9).toInt ≤ (800 : Int) := hB_st_7.1 0 0 9; omega)) ⟨(gz_cb (n := 1) hts gm_1088 gm_12 gm_1091 ⟨by decide +kernel, by decide +kernel, by decide +kernel⟩ ⟨Nat.le_of_ble_eq_true rfl, Nat.le_of_ble_eq_true rfl⟩), hts _ gm_1090, hts _ gs_31⟩ (gs_preV hK hov hE hI hM hm hS hA 0 0 (by decide) rfl rfl) rfl rfl hl.1 rfl (lv_room (Nat.le_of_ble_eq_true rfl)) dX10_feed_32 ⟨Nat.le_of_ble_eq_true rfl, Nat.le_of_ble_eq_true rfl⟩) hm hS hA (fun st_8 H locs hw_8 hM hS => ?_)
    obtain ⟨n_8, hw_8⟩ := hw_8
    have hB_st_8 : gBN bM kM [0, 9, 700] st st_8 := hB_st_7.call n_8 (by decide)
    have hbhw_80 : (0 : Int) ≤ (st_7 0 0 9).toInt ∧ (st_7 0 0 9).toInt ≤ (800 : Int) := hB_st_7.1 0 0 9
    obtain ⟨hw_8_0, hw_8_1⟩ := hw_8
    refine lv_aload_n hx hb dX10_feed_35 rfl (lv_at hl 0 rfl) ?_
    refine lv_iload hx hb dX10_feed_36 (lv_at hl 4 rfl) ?_
    refine gs_callv (va_runV (As := [.int v]) (rest := []) ⟨hx, hb, hml, hown, hts⟩ (m_fourB l G cy sK sV ad H.size st_8 hB_st_8.1 v (by have hb0 : (0 : Int) ≤ (st_8 0 0 9).toInt ∧ (st_8 0 0 9).toInt ≤ (800 : Int) := hB_st_8.1 0 0 9; omega)) ⟨(gz_cb (n := 1) hts gm_1088 gm_12 gm_1091 ⟨by decide +kernel, by decide +kernel, by decide +kernel⟩ ⟨Nat.le_of_ble_eq_true rfl, Nat.le_of_ble_eq_true rfl⟩), hts _ gm_1090, hts _ gs_31⟩ (gs_preV hK hov hE hI hM hm hS hA 0 0 (by decide) rfl rfl) rfl rfl hl.1 rfl (lv_room (Nat.le_of_ble_eq_true rfl)) dX10_feed_38 ⟨Nat.le_of_ble_eq_true rfl, Nat.le_of_ble_eq_true rfl⟩) hm hS hA (fun st_9 H locs hw_9 hM hS => ?_)
    obtain ⟨n_9, hw_9⟩ := hw_9
    have hB_st_9 : gBN bM kM [0, 9, 700] st st_9 := hB_st_8.call n_9 (by decide)
    have hbhw_90 : (0 : Int) ≤ (st_8 0 0 9).toInt ∧ (st_8 0 0 9).toInt ≤ (800 : Int) := hB_st_8.1 0 0 9
    obtain ⟨hw_9_0, hw_9_1⟩ := hw_9
    refine lv_aload_n hx hb dX10_feed_41 rfl (lv_at hl 0 rfl) ?_
    refine lv_iload hx hb dX10_feed_42 (lv_at hl 5 rfl) ?_
    refine gs_callv (va_runV (As := [.int t]) (rest := []) ⟨hx, hb, hml, hown, hts⟩ (m_fourB l G cy sK sV ad H.size st_9 hB_st_9.1 t (by have hb0 : (0 : Int) ≤ (st_9 0 0 9).toInt ∧ (st_9 0 0 9).toInt ≤ (800 : Int) := hB_st_9.1 0 0 9; omega)) ⟨(gz_cb (n := 1) hts gm_1088 gm_12 gm_1091 ⟨by decide +kernel, by decide +kernel, by decide +kernel⟩ ⟨Nat.le_of_ble_eq_true rfl, Nat.le_of_ble_eq_true rfl⟩), hts _ gm_1090, hts _ gs_31⟩ (gs_preV hK hov hE hI hM hm hS hA 0 0 (by decide) rfl rfl) rfl rfl hl.1 rfl (lv_room (Nat.le_of_ble_eq_true rfl)) dX10_feed_44 ⟨Nat.le_of_ble_eq_true rfl, Nat.le_of_ble_eq_true rfl⟩) hm hS hA (fun st_10 H locs hw_10 hM hS => ?_)
    obtain ⟨n_10, hw_10⟩ := hw_10
    have hB_st_10 : gBN bM kM [0, 9, 700] st st_10 := hB_st_9.call n_10 (by decide)
    have hbhw_100 : (0 : Int) ≤ (st_9 0 0 9).toInt ∧ (st_9 0 0 9).toInt ≤ (800 : Int) := hB_st_9.1 0 0 9
    obtain ⟨hw_10_0, hw_10_1⟩ := hw_10
    refine lv_aload_n hx hb dX10_feed_47 rfl (lv_at hl 0 rfl) ?_
    refine gs_get (C := RX10) (T := TX10) (N := 59) hx hb hts inX10 hown hK hM 0 0 9 (by decide) rfl rfl (by decide) (hts _ gm_910) (fun _ h9 => h9) rfl dX10_feed_48 ?_
    have bf_11 : (0 : Int) ≤ (st_10 0 0 9).toInt ∧ (st_10 0 0 9).toInt ≤ (800 : Int) := hB_st_10.1 0 0 9
    exact gs_iret hx hb hr hlocks hM hS rfl ⟨hB_st_10, (Or.inr ⟨by omega, by omega, by omega, (by have hc := gs_cl (x := st 0 0 9) (by omega); have hc0 := gs_cl (x := st_9 0 0 9) (by omega); have hc1 := gs_cl (x := st_8 0 0 9) (by omega); have hc2 := gs_cl (x := st_7 0 0 9) (by omega); have hc3 := gs_cl (x := st_6 0 0 9) (by omega); have hp4 : (st_1 0 0 9).toInt = (st 0 0 9).toInt := (congrArg Int32.toInt (((congrFun (congrFun (congrFun est_1 0) 0) 9).trans (gU_other (by decide))))); have hc4 := gs_cl (x := st_1 0 0 9) (by omega); unfold fd20; rw [hw_10_1, hw_9_1, hw_8_1, hw_7_1, hw_6_1, show st_1 7 0 = st 7 0 from ((congrFun (congrFun est_1 7) 0).trans ((congrFun (gU_k (by decide)) 0).trans rfl)), show (st_9 0 0 9).toNatClampNeg = (st 0 0 9).toNatClampNeg + 16 from (by omega), show (st_8 0 0 9).toNatClampNeg = (st 0 0 9).toNatClampNeg + 12 from (by omega), show (st_7 0 0 9).toNatClampNeg = (st 0 0 9).toNatClampNeg + 8 from (by omega), show (st_6 0 0 9).toNatClampNeg = (st 0 0 9).toNatClampNeg + 4 from (by omega), show (st_1 0 0 9).toNatClampNeg = (st 0 0 9).toNatClampNeg + 0 from (by omega)]; all_goals rfl)⟩)⟩ (by exact Nat.le_refl _) (by exact Nat.le_refl _) dX10_feed_51
  · have ic_5 := gz_nle (rfl : x_4.toInt = x_4.toInt) (by decide : (800 : Int32).toInt = 800) c_5
    refine lv_iconst (v := (-1)) hx hb dX10_feed_18 (by decide) ?_
    exact gs_iret hx hb hr hlocks hM hS rfl ⟨hB_st_1, (Or.inl ⟨by decide, by omega, (by have hl0 : ((-1) : Int32).toInt = -1 := (by decide); have hq1 : (st_1 0 0 9).toInt = ((st 0 0 9) : Int32).toInt := congrArg Int32.toInt (((congrFun (congrFun (congrFun est_1 0) 0) 9).trans (gU_other (by decide)))); have hb2 : (0 : Int) ≤ (st_1 0 0 9).toInt ∧ (st_1 0 0 9).toInt ≤ (800 : Int) := hB_st_1.1 0 0 9; have hb3 : (0 : Int) ≤ (st 0 0 9).toInt ∧ (st 0 0 9).toInt ≤ (800 : Int) := hB_st.1 0 0 9; omega), ((congrFun (congrFun est_1 7) 0).trans ((congrFun (gU_k (by decide)) 0).trans rfl))⟩)⟩ (by exact Nat.le_refl _) (by exact Nat.le_refl _) dX10_feed_19
