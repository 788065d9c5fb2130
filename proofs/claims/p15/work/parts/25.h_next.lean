theorem dX10_next_0 : decode cX10_next 0 = .ok (.aload_n 0, 1) := by decide +kernel
theorem dX10_next_1 : decode cX10_next 1 = .ok (.iconst 0, 1) := by decide +kernel
theorem dX10_next_2 : decode cX10_next 2 = .ok (.putfield 1, 3) := by decide +kernel
theorem dX10_next_5 : decode cX10_next 5 = .ok (.aload_n 0, 1) := by decide +kernel
theorem dX10_next_6 : decode cX10_next 6 = .ok (.getfield 213, 3) := by decide +kernel
theorem dX10_next_9 : decode cX10_next 9 = .ok (.sipush 199, 3) := by decide +kernel
theorem dX10_next_12 : decode cX10_next 12 = .ok (.if_icmp .ne 5, 3) := by decide +kernel
theorem dX10_next_15 : decode cX10_next 15 = .ok (.iconst 0, 1) := by decide +kernel
theorem dX10_next_16 : decode cX10_next 16 = .ok (.ireturn, 1) := by decide +kernel
theorem dX10_next_17 : decode cX10_next 17 = .ok (.aload_n 0, 1) := by decide +kernel
theorem dX10_next_18 : decode cX10_next 18 = .ok (.dup, 1) := by decide +kernel
theorem dX10_next_19 : decode cX10_next 19 = .ok (.getfield 213, 3) := by decide +kernel
theorem dX10_next_22 : decode cX10_next 22 = .ok (.iconst 1, 1) := by decide +kernel
theorem dX10_next_23 : decode cX10_next 23 = .ok (.iadd, 1) := by decide +kernel
theorem dX10_next_24 : decode cX10_next 24 = .ok (.putfield 213, 3) := by decide +kernel
theorem dX10_next_27 : decode cX10_next 27 = .ok (.iconst 0, 1) := by decide +kernel
theorem dX10_next_28 : decode cX10_next 28 = .ok (.istore_n 1, 1) := by decide +kernel
theorem dX10_next_29 : decode cX10_next 29 = .ok (.iload_n 1, 1) := by decide +kernel
theorem dX10_next_30 : decode cX10_next 30 = .ok (.bipush 6, 2) := by decide +kernel
theorem dX10_next_32 : decode cX10_next 32 = .ok (.if_icmp .ge 83, 3) := by decide +kernel
theorem dX10_next_35 : decode cX10_next 35 = .ok (.aload_n 0, 1) := by decide +kernel
theorem dX10_next_36 : decode cX10_next 36 = .ok (.getfield 13, 3) := by decide +kernel
theorem dX10_next_39 : decode cX10_next 39 = .ok (.iload_n 1, 1) := by decide +kernel
theorem dX10_next_40 : decode cX10_next 40 = .ok (.baload, 1) := by decide +kernel
theorem dX10_next_41 : decode cX10_next 41 = .ok (.ifCond .ne 6, 3) := by decide +kernel
theorem dX10_next_44 : decode cX10_next 44 = .ok (.goto 65, 3) := by decide +kernel
theorem dX10_next_47 : decode cX10_next 47 = .ok (.aload_n 0, 1) := by decide +kernel
theorem dX10_next_48 : decode cX10_next 48 = .ok (.getfield 24, 3) := by decide +kernel
theorem dX10_next_51 : decode cX10_next 51 = .ok (.iload_n 1, 1) := by decide +kernel
theorem dX10_next_52 : decode cX10_next 52 = .ok (.aload_n 0, 1) := by decide +kernel
theorem dX10_next_53 : decode cX10_next 53 = .ok (.getfield 24, 3) := by decide +kernel
theorem dX10_next_56 : decode cX10_next 56 = .ok (.iload_n 1, 1) := by decide +kernel
theorem dX10_next_57 : decode cX10_next 57 = .ok (.iaload, 1) := by decide +kernel
theorem dX10_next_58 : decode cX10_next 58 = .ok (.aload_n 0, 1) := by decide +kernel
theorem dX10_next_59 : decode cX10_next 59 = .ok (.getfield 21, 3) := by decide +kernel
theorem dX10_next_62 : decode cX10_next 62 = .ok (.iload_n 1, 1) := by decide +kernel
theorem dX10_next_63 : decode cX10_next 63 = .ok (.iaload, 1) := by decide +kernel
theorem dX10_next_64 : decode cX10_next 64 = .ok (.iadd, 1) := by decide +kernel
theorem dX10_next_65 : decode cX10_next 65 = .ok (.aload_n 0, 1) := by decide +kernel
theorem dX10_next_66 : decode cX10_next 66 = .ok (.getfield 17, 3) := by decide +kernel
theorem dX10_next_69 : decode cX10_next 69 = .ok (.iload_n 1, 1) := by decide +kernel
theorem dX10_next_70 : decode cX10_next 70 = .ok (.iaload, 1) := by decide +kernel
theorem dX10_next_71 : decode cX10_next 71 = .ok (.if_icmp .le 12, 3) := by decide +kernel
theorem dX10_next_74 : decode cX10_next 74 = .ok (.aload_n 0, 1) := by decide +kernel
theorem dX10_next_75 : decode cX10_next 75 = .ok (.getfield 17, 3) := by decide +kernel
theorem dX10_next_78 : decode cX10_next 78 = .ok (.iload_n 1, 1) := by decide +kernel
theorem dX10_next_79 : decode cX10_next 79 = .ok (.iaload, 1) := by decide +kernel
theorem dX10_next_80 : decode cX10_next 80 = .ok (.goto 16, 3) := by decide +kernel
theorem dX10_next_83 : decode cX10_next 83 = .ok (.aload_n 0, 1) := by decide +kernel
theorem dX10_next_84 : decode cX10_next 84 = .ok (.getfield 24, 3) := by decide +kernel
theorem dX10_next_87 : decode cX10_next 87 = .ok (.iload_n 1, 1) := by decide +kernel
theorem dX10_next_88 : decode cX10_next 88 = .ok (.iaload, 1) := by decide +kernel
theorem dX10_next_89 : decode cX10_next 89 = .ok (.aload_n 0, 1) := by decide +kernel
theorem dX10_next_90 : decode cX10_next 90 = .ok (.getfield 21, 3) := by decide +kernel
theorem dX10_next_93 : decode cX10_next 93 = .ok (.iload_n 1, 1) := by decide +kernel
theorem dX10_next_94 : decode cX10_next 94 = .ok (.iaload, 1) := by decide +kernel
theorem dX10_next_95 : decode cX10_next 95 = .ok (.iadd, 1) := by decide +kernel
theorem dX10_next_96 : decode cX10_next 96 = .ok (.iastore, 1) := by decide +kernel
theorem dX10_next_97 : decode cX10_next 97 = .ok (.aload_n 0, 1) := by decide +kernel
theorem dX10_next_98 : decode cX10_next 98 = .ok (.getfield 27, 3) := by decide +kernel
theorem dX10_next_101 : decode cX10_next 101 = .ok (.iload_n 1, 1) := by decide +kernel
theorem dX10_next_102 : decode cX10_next 102 = .ok (.aload_n 0, 1) := by decide +kernel
theorem dX10_next_103 : decode cX10_next 103 = .ok (.getfield 24, 3) := by decide +kernel
theorem dX10_next_106 : decode cX10_next 106 = .ok (.iload_n 1, 1) := by decide +kernel
theorem dX10_next_107 : decode cX10_next 107 = .ok (.iaload, 1) := by decide +kernel
theorem dX10_next_108 : decode cX10_next 108 = .ok (.iastore, 1) := by decide +kernel
theorem dX10_next_109 : decode cX10_next 109 = .ok (.iinc 1 1, 3) := by decide +kernel
theorem dX10_next_112 : decode cX10_next 112 = .ok (.goto (-83), 3) := by decide +kernel
theorem dX10_next_115 : decode cX10_next 115 = .ok (.aload_n 0, 1) := by decide +kernel
theorem dX10_next_116 : decode cX10_next 116 = .ok (.invokevirtual 220, 3) := by decide +kernel
theorem dX10_next_119 : decode cX10_next 119 = .ok (.iconst 1, 1) := by decide +kernel
theorem dX10_next_120 : decode cX10_next 120 = .ok (.ireturn, 1) := by decide +kernel
set_option maxHeartbeats 4000000 in
set_option maxRecDepth 100000 in
/-- WellCourtModel.next -/
theorem m_next (l : Launch) (G : va_G) (cy : Nat → ClassId) (sK sV : Nat → Nat) (ad : Nat → Nat → Nat) (sz : Nat) (st : gS) (hB : gBd bM st) (rs : List Rl) (bk : Nat) (hbk : (st 0 0 28).toInt = (bk : Int)) (hru : (st 0 0 29).toInt = (rs.length : Int)) (hLM : LM rs st bk) : gsMi l yX10_next cX10_next 2 (some .boolean) ({ frames := 2, cells := 0, slots := 0, locals := 45 } : Room) G cy sK sV (shM cy ad) cnM ad sz [.ref (ad 0 0)] st (fun (r : Int32) (u : gS) => gBN bM kM [0, 7, 400, 500, 600] st u ∧ ((r = 1 ∧ ((st 0 0 7).toInt < 199) ∧ ((u 0 0 7).toInt = (st 0 0 7).toInt + 1) ∧ (gwI (fun a9 => ¬ (st 1 0 a9).toInt = 0) (st 4 0) (st 3 0) (st 2 0) (st 4 0) (u 4 0) 6) ∧ (gwI (fun a9 => ¬ (st 1 0 a9).toInt = 0) (st 4 0) (st 3 0) (st 2 0) (st 5 0) (u 5 0) 6) ∧ (drL rs (st 6 0) (u 6 0) (st 1 0) (u 5 0) (u 0 0 7).toInt 6)) ∨ (r = 0 ∧ ((st 0 0 7).toInt = 199) ∧ (frM st u)))) := by
  refine gs_start (fun A => gsQi G (shM cy ad) cnM ad _ A) (by decide) (Nat.le_of_ble_eq_true rfl) ?_
  intro p e s m below meth c A ls H hx hb hr hml hlocks hown hts hK hov hE hI hM hm hS hA hl
  have hl : lv_has ls 2 [(0, .ref (ad 0 0))] := hl
  have hB_st : gBN bM kM [0, 7, 400, 500, 600] st st := gBN.rf hB
  have bb1 : (0 : Int) ≤ (st 0 0 28).toInt ∧ (st 0 0 28).toInt ≤ (1 : Int) := hB 0 0 28
  have bb3 : (0 : Int) ≤ (st 0 0 30).toInt ∧ (st 0 0 30).toInt ≤ (20 : Int) := hB 0 0 30
  have bb2 : (0 : Int) ≤ (st 0 0 29).toInt ∧ (st 0 0 29).toInt ≤ (20 : Int) := hB 0 0 29
  have b7 : (0 : Int) ≤ (st 0 0 7).toInt ∧ (st 0 0 7).toInt ≤ (199 : Int) := hB 0 0 7
  generalize hQe : MQ below _ _ s _ _ A = Q
  refine lv_aload_n hx hb dX10_next_0 rfl (lv_at hl 0 rfl) ?_
  refine lv_iconst (v := 0) hx hb dX10_next_1 (by decide) ?_
  refine gs_put (C := RX10) (T := TX10) (N := 59) (ty := .int) (val := .int 0) hx hb hts inX10 tyX10 tyX10_ok nmX10 hown hK hI hm hM hS 0 0 0 (by decide) rfl rfl (by decide) (hts _ gm_901) (fun _ h9 => h9) rfl (0 : Int32) rfl (by decide +kernel) rfl rfl (Nat.le_of_ble_eq_true rfl) dX10_next_2 (fun st_1 H locs est_1 hM hS => ?_)
  have hB_st_1 : gBN bM kM [0, 7, 400, 500, 600] st st_1 := by rw [est_1]; exact hB_st.up (show (0 : Nat) ∈ _ from by decide) (gi_lo _) (gi_hi _)
  refine lv_aload_n hx hb dX10_next_5 rfl (lv_at hl 0 rfl) ?_
  refine gs_get (C := RX10) (T := TX10) (N := 59) hx hb hts inX10 hown hK hM 0 0 7 (by decide) rfl rfl (by decide) (hts _ gm_908) (fun _ h9 => h9) rfl dX10_next_6 ?_
  refine lv_topi (fun x_2 ex_2 => ?_)
  have ex_2 : (st 0 0 7) = x_2 := Eq.symm (ex_2.trans ((congrFun (congrFun (congrFun est_1 0) 0) 7).trans (gU_other (by decide))))
  subst ex_2
  have bf_3 : (0 : Int) ≤ (st 0 0 7).toInt ∧ (st 0 0 7).toInt ≤ (199 : Int) := hB_st.1 0 0 7
  refine lv_sipush (v := 199) hx hb dX10_next_9 (by decide) ?_
  refine lv_icmp_ne (tgt := 17) hx hb dX10_next_12 (by decide) (fun c_4 => ?_) (fun c_4 => ?_)
  · have ic_4 := gz_ne (rfl : (st 0 0 7).toInt = (st 0 0 7).toInt) (by decide : (199 : Int32).toInt = 199) c_4
    refine lv_aload_n hx hb dX10_next_17 rfl (lv_at hl 0 rfl) ?_
    refine lv_dup hx hb dX10_next_18 rfl ?_
    refine gs_get (C := RX10) (T := TX10) (N := 59) hx hb hts inX10 hown hK hM 0 0 7 (by decide) rfl rfl (by decide) (hts _ gm_908) (fun _ h9 => h9) rfl dX10_next_19 ?_
    refine lv_topi (fun x_5 ex_5 => ?_)
    have ex_5 : (st 0 0 7) = x_5 := Eq.symm (ex_5.trans ((congrFun (congrFun (congrFun est_1 0) 0) 7).trans (gU_other (by decide))))
    subst ex_5
    have bf_6 : (0 : Int) ≤ (st 0 0 7).toInt ∧ (st 0 0 7).toInt ≤ (199 : Int) := hB_st.1 0 0 7
    refine lv_iconst (v := 1) hx hb dX10_next_22 (by decide) ?_
    refine lv_iadd hx hb dX10_next_23 ?_
    refine lv_topi (fun x_7 ex_7 => ?_)
    try have tx_7 : x_7.toInt = (st 0 0 7).toInt + 1 := by rw [ex_7]; exact gz_addP (x := (st 0 0 7).toInt) (y := 1) rfl (by decide) (by omega) (by omega)
    refine gs_put (C := RX10) (T := TX10) (N := 59) (ty := .int) (val := .int x_7) hx hb hts inX10 tyX10 tyX10_ok nmX10 hown hK hI hm hM hS 0 0 7 (by decide) rfl rfl (by decide) (hts _ gm_908) (fun _ h9 => h9) rfl (x_7 : Int32) rfl (by decide +kernel) rfl rfl (Nat.le_of_ble_eq_true rfl) dX10_next_24 (fun st_8 H locs est_8 hM hS => ?_)
    have hB_st_8 : gBN bM kM [0, 7, 400, 500, 600] st st_8 := by rw [est_8]; exact hB_st_1.up (show (7 : Nat) ∈ _ from by decide) (show (0 : Int) ≤ x_7.toInt from by omega) (show x_7.toInt ≤ (199 : Int) from by omega)
    refine lv_iconst (v := 0) hx hb dX10_next_27 (by decide) ?_
    refine lv_istore_n (lv' := [(1, .int 0), (0, .ref (ad 0 0))]) hx hb dX10_next_28 rfl hl (by decide) rfl (fun ls hl => ?_)
    have lp9 : ∀ (n9 : Nat) (sv9 : gS) (y9_0 : Int32) (H : Heap) (locs : List Loc) (ls : Array Slot), (6 - y9_0.toInt).toNat < n9 → gBN bM kM [0, 7, 400, 500, 600] st sv9 → (0 ≤ y9_0.toInt) → ((sv9 0 0 7).toInt = (st 0 0 7).toInt + 1) → ((st 0 0 7).toInt < 199) → (y9_0.toInt ≤ 6) → (gwI (fun a9 => ¬ (st 1 0 a9).toInt = 0) (st 4 0) (st 3 0) (st 2 0) (st 4 0) (sv9 4 0) y9_0.toInt) → (gwI (fun a9 => ¬ (st 1 0 a9).toInt = 0) (st 4 0) (st 3 0) (st 2 0) (st 5 0) (sv9 5 0) y9_0.toInt) → (sv9 6 0 = st 6 0) → gM G (shM cy ad) cnM ad sv9 H → va_S A s.heap H locs → lv_has ls 2 [(1, .int y9_0), (0, .ref (ad 0 0))] → W p l e ({ frames := 2, cells := 0, slots := 0, locals := 45 } : Room) s m [.ref (ad 0 0)].toArray below meth c H locs 0 0 Q (F0 m 29 ls []) := by
      intro n9
      induction n9 with
      | zero => intro sv9 y9_0 H locs ls h9; exact absurd h9 (Nat.not_lt_zero _)
      | succ n9 ih_9 =>
        intro sv9 y9_0 H locs ls hme9 hB_sv9 hv9_0 hv9_1 hv9_2 hv9_3 hv9_4 hv9_5 hv9_6 hM hS hl
        have hb9_0 : (0 : Int) ≤ (sv9 0 0 7).toInt ∧ (sv9 0 0 7).toInt ≤ (199 : Int) := hB_sv9.1 0 0 7
        have hb9_1 : (0 : Int) ≤ (st 0 0 7).toInt ∧ (st 0 0 7).toInt ≤ (199 : Int) := hB_st.1 0 0 7
        refine lv_iload_n hx hb dX10_next_29 rfl (lv_at hl 0 rfl) ?_
        refine lv_bipush (v := 6) hx hb dX10_next_30 (by decide) ?_
        refine lv_icmp_ge (tgt := 115) hx hb dX10_next_32 (by decide) (fun c_10 => ?_) (fun c_10 => ?_)
        · have ic_10 := gz_le (by decide : (6 : Int32).toInt = 6) (rfl : y9_0.toInt = y9_0.toInt) c_10
          refine lv_aload_n hx hb dX10_next_115 rfl (lv_at hl 1 rfl) ?_
          refine gs_callv (va_runV (As := []) (rest := []) ⟨hx, hb, hml, hown, hts⟩ (m_droughts l G cy sK sV ad H.size sv9 hB_sv9.1  rs bk ((congrArg Int32.toInt ((hB_sv9.2 0 0 28 (show (28 : Nat) ∉ _ from by decide)))).trans hbk) ((congrArg Int32.toInt ((hB_sv9.2 0 0 29 (show (29 : Nat) ∉ _ from by decide)))).trans hru) (LM.all hLM (mA.trans mA.rf (mA.frame hB_sv9.2 (by decide))))) ⟨(gz_cb (n := 0) hts gm_1181 gm_12 gm_1184 ⟨by decide +kernel, by decide +kernel, by decide +kernel⟩ ⟨Nat.le_of_ble_eq_true rfl, Nat.le_of_ble_eq_true rfl⟩), hts _ gm_1183, hts _ gs_48⟩ (gs_preV hK hov hE hI hM hm hS hA 0 0 (by decide) rfl rfl) rfl rfl hl.1 rfl (lv_room (Nat.le_of_ble_eq_true rfl)) dX10_next_116 ⟨Nat.le_of_ble_eq_true rfl, Nat.le_of_ble_eq_true rfl⟩) hm hS hA (fun st_11 H locs hw_11 hM hS => ?_)
          obtain ⟨n_11, hw_11⟩ := hw_11
          have hB_st_11 : gBN bM kM [0, 7, 400, 500, 600] st st_11 := hB_sv9.call n_11 (by decide)
          have hbhw_110 : (0 : Int) ≤ (sv9 0 0 7).toInt ∧ (sv9 0 0 7).toInt ≤ (199 : Int) := hB_sv9.1 0 0 7
          have hw_11_0 := hw_11
          refine lv_iconst (v := 1) hx hb dX10_next_119 (by decide) ?_
          rw [← hQe]
          exact gs_iret hx hb hr hlocks hM hS (by decide) ⟨hB_st_11, (Or.inl ⟨rfl, by omega, (by have hl0 : (1 : Int32).toInt = 1 := (by decide); have hq1 : (st_11 0 0 7).toInt = ((sv9 0 0 7) : Int32).toInt := congrArg Int32.toInt ((n_11.2 0 0 7 (show (7 : Nat) ∉ _ from by decide))); have hb2 : (0 : Int) ≤ (st_11 0 0 7).toInt ∧ (st_11 0 0 7).toInt ≤ (199 : Int) := hB_st_11.1 0 0 7; have hb3 : (0 : Int) ≤ (st 0 0 7).toInt ∧ (st 0 0 7).toInt ≤ (199 : Int) := hB_st.1 0 0 7; omega), (by rw [show st_11 4 0 = sv9 4 0 from (funext (fun j9 => n_11.2 4 0 j9 (show (400 : Nat) ∉ _ from by decide))), show (6 : Int) = y9_0.toInt by omega]; exact hv9_4), (by rw [show st_11 5 0 = sv9 5 0 from (funext (fun j9 => n_11.2 5 0 j9 (show (500 : Nat) ∉ _ from by decide))), show (6 : Int) = y9_0.toInt by omega]; exact hv9_5), (by have h9 := hw_11_0; rw [hv9_6, show sv9 1 0 = st 1 0 from (funext (fun j9 => hB_sv9.2 1 0 j9 (show (100 : Nat) ∉ _ from by decide)))] at h9; rw [show st_11 5 0 = sv9 5 0 from (funext (fun j9 => n_11.2 5 0 j9 (show (500 : Nat) ∉ _ from by decide))), show (st_11 0 0 7).toInt = (sv9 0 0 7).toInt from (congrArg Int32.toInt ((n_11.2 0 0 7 (show (7 : Nat) ∉ _ from by decide))))]; exact h9)⟩)⟩ (by exact Nat.le_refl _) (by exact Nat.le_refl _) dX10_next_120
        · have ic_10 := gz_nle (by decide : (6 : Int32).toInt = 6) (rfl : y9_0.toInt = y9_0.toInt) c_10
          refine lv_aload_n hx hb dX10_next_35 rfl (lv_at hl 1 rfl) ?_
          refine gs_get (C := RX10) (T := TX10) (N := 59) hx hb hts inX10 hown hK hM 0 0 1 (by decide) rfl rfl (by decide) (hts _ gm_902) (fun _ h9 => h9) rfl dX10_next_36 ?_
          refine lv_iload_n hx hb dX10_next_39 rfl (lv_at hl 0 rfl) ?_
          refine gs_zald hx hb hK hM 1 0 (by decide) rfl (vp_in_iff.mpr ⟨by omega, by omega⟩) dX10_next_40 ?_
          refine lv_topi (fun x_12 ex_12 => ?_)
          have qx_12 : x_12.toInt = (sv9 1 0 (y9_0.toNatClampNeg)).toInt := congrArg Int32.toInt ex_12
          have rx_12 : x_12.toInt = ((st 1 0 (y9_0.toNatClampNeg)) : Int32).toInt := by rw [ex_12]; exact congrArg Int32.toInt ((hB_sv9.2 1 0 (y9_0.toNatClampNeg) (show (100 : Nat) ∉ _ from by decide)))
          refine lv_if_ne (tgt := 47) hx hb dX10_next_41 (by decide) (fun c_13 => ?_) (fun c_13 => ?_)
          · have ic_13 := gz_ne (rfl : x_12.toInt = x_12.toInt) (by decide : (0 : Int32).toInt = 0) c_13
            refine lv_aload_n hx hb dX10_next_47 rfl (lv_at hl 1 rfl) ?_
            refine gs_get (C := RX10) (T := TX10) (N := 59) hx hb hts inX10 hown hK hM 0 0 4 (by decide) rfl rfl (by decide) (hts _ gm_905) (fun _ h9 => h9) rfl dX10_next_48 ?_
            refine lv_iload_n hx hb dX10_next_51 rfl (lv_at hl 0 rfl) ?_
            refine lv_aload_n hx hb dX10_next_52 rfl (lv_at hl 1 rfl) ?_
            refine gs_get (C := RX10) (T := TX10) (N := 59) hx hb hts inX10 hown hK hM 0 0 4 (by decide) rfl rfl (by decide) (hts _ gm_905) (fun _ h9 => h9) rfl dX10_next_53 ?_
            refine lv_iload_n hx hb dX10_next_56 rfl (lv_at hl 0 rfl) ?_
            refine gs_iald hx hb hK hM 4 0 (by decide) rfl (vp_in_iff.mpr ⟨by omega, by omega⟩) dX10_next_57 ?_
            refine lv_topi (fun x_14 ex_14 => ?_)
            have qx_14 : x_14.toInt = (sv9 4 0 (y9_0.toNatClampNeg)).toInt := congrArg Int32.toInt ex_14
            refine lv_aload_n hx hb dX10_next_58 rfl (lv_at hl 1 rfl) ?_
            refine gs_get (C := RX10) (T := TX10) (N := 59) hx hb hts inX10 hown hK hM 0 0 3 (by decide) rfl rfl (by decide) (hts _ gm_904) (fun _ h9 => h9) rfl dX10_next_59 ?_
            refine lv_iload_n hx hb dX10_next_62 rfl (lv_at hl 0 rfl) ?_
            refine gs_iald hx hb hK hM 3 0 (by decide) rfl (vp_in_iff.mpr ⟨by omega, by omega⟩) dX10_next_63 ?_
            refine lv_topi (fun x_15 ex_15 => ?_)
            have qx_15 : x_15.toInt = (sv9 3 0 (y9_0.toNatClampNeg)).toInt := congrArg Int32.toInt ex_15
            have rx_15 : x_15.toInt = ((st 3 0 (y9_0.toNatClampNeg)) : Int32).toInt := by rw [ex_15]; exact congrArg Int32.toInt ((hB_sv9.2 3 0 (y9_0.toNatClampNeg) (show (300 : Nat) ∉ _ from by decide)))
            refine lv_iadd hx hb dX10_next_64 ?_
            refine lv_topi (fun x_16 ex_16 => ?_)
            refine lv_aload_n hx hb dX10_next_65 rfl (lv_at hl 1 rfl) ?_
            refine gs_get (C := RX10) (T := TX10) (N := 59) hx hb hts inX10 hown hK hM 0 0 2 (by decide) rfl rfl (by decide) (hts _ gm_903) (fun _ h9 => h9) rfl dX10_next_66 ?_
            refine lv_iload_n hx hb dX10_next_69 rfl (lv_at hl 0 rfl) ?_
            refine gs_iald hx hb hK hM 2 0 (by decide) rfl (vp_in_iff.mpr ⟨by omega, by omega⟩) dX10_next_70 ?_
            refine lv_topi (fun x_17 ex_17 => ?_)
            have qx_17 : x_17.toInt = (sv9 2 0 (y9_0.toNatClampNeg)).toInt := congrArg Int32.toInt ex_17
            have rx_17 : x_17.toInt = ((st 2 0 (y9_0.toNatClampNeg)) : Int32).toInt := by rw [ex_17]; exact congrArg Int32.toInt ((hB_sv9.2 2 0 (y9_0.toNatClampNeg) (show (200 : Nat) ∉ _ from by decide)))
            refine lv_icmp_le (tgt := 83) hx hb dX10_next_71 (by decide) (fun c_18 => ?_) (fun c_18 => ?_)
            · have ic_18 := gz_le (rfl : x_16.toInt = x_16.toInt) (rfl : x_17.toInt = x_17.toInt) c_18
              refine lv_aload_n hx hb dX10_next_83 rfl (lv_at hl 1 rfl) ?_
              refine gs_get (C := RX10) (T := TX10) (N := 59) hx hb hts inX10 hown hK hM 0 0 4 (by decide) rfl rfl (by decide) (hts _ gm_905) (fun _ h9 => h9) rfl dX10_next_84 ?_
              refine lv_iload_n hx hb dX10_next_87 rfl (lv_at hl 0 rfl) ?_
              refine gs_iald hx hb hK hM 4 0 (by decide) rfl (vp_in_iff.mpr ⟨by omega, by omega⟩) dX10_next_88 ?_
              refine lv_topi (fun x_19 ex_19 => ?_)
              have qx_19 : x_19.toInt = (sv9 4 0 (y9_0.toNatClampNeg)).toInt := congrArg Int32.toInt ex_19
              refine lv_aload_n hx hb dX10_next_89 rfl (lv_at hl 1 rfl) ?_
              refine gs_get (C := RX10) (T := TX10) (N := 59) hx hb hts inX10 hown hK hM 0 0 3 (by decide) rfl rfl (by decide) (hts _ gm_904) (fun _ h9 => h9) rfl dX10_next_90 ?_
              refine lv_iload_n hx hb dX10_next_93 rfl (lv_at hl 0 rfl) ?_
              refine gs_iald hx hb hK hM 3 0 (by decide) rfl (vp_in_iff.mpr ⟨by omega, by omega⟩) dX10_next_94 ?_
              refine lv_topi (fun x_20 ex_20 => ?_)
              have qx_20 : x_20.toInt = (sv9 3 0 (y9_0.toNatClampNeg)).toInt := congrArg Int32.toInt ex_20
              have rx_20 : x_20.toInt = ((st 3 0 (y9_0.toNatClampNeg)) : Int32).toInt := by rw [ex_20]; exact congrArg Int32.toInt ((hB_sv9.2 3 0 (y9_0.toNatClampNeg) (show (300 : Nat) ∉ _ from by decide)))
              refine lv_iadd hx hb dX10_next_95 ?_
              refine lv_topi (fun x_21 ex_21 => ?_)
              refine gs_iast hx hb hK hI hm hM hS 4 0 (by decide) (fun _ => rfl) (vp_in_iff.mpr ⟨by omega, by omega⟩) dX10_next_96 (fun st_22 H locs est_22 hM hS => ?_)
              have hB_st_22 : gBN bM kM [0, 7, 400, 500, 600] st st_22 := by rw [est_22]; exact hB_sv9.up (show (400 : Nat) ∈ _ from by decide) (gi_lo _) (gi_hi _)
              refine lv_aload_n hx hb dX10_next_97 rfl (lv_at hl 1 rfl) ?_
              refine gs_get (C := RX10) (T := TX10) (N := 59) hx hb hts inX10 hown hK hM 0 0 5 (by decide) rfl rfl (by decide) (hts _ gm_906) (fun _ h9 => h9) rfl dX10_next_98 ?_
              refine lv_iload_n hx hb dX10_next_101 rfl (lv_at hl 0 rfl) ?_
              refine lv_aload_n hx hb dX10_next_102 rfl (lv_at hl 1 rfl) ?_
              refine gs_get (C := RX10) (T := TX10) (N := 59) hx hb hts inX10 hown hK hM 0 0 4 (by decide) rfl rfl (by decide) (hts _ gm_905) (fun _ h9 => h9) rfl dX10_next_103 ?_
              refine lv_iload_n hx hb dX10_next_106 rfl (lv_at hl 0 rfl) ?_
              refine gs_iald hx hb hK hM 4 0 (by decide) rfl (vp_in_iff.mpr ⟨by omega, by omega⟩) dX10_next_107 ?_
              refine lv_topi (fun x_23 ex_23 => ?_)
              have qx_23 : x_23.toInt = (st_22 4 0 (y9_0.toNatClampNeg)).toInt := congrArg Int32.toInt ex_23
              have rx_23 : x_23.toInt = (x_21 : Int32).toInt := by rw [ex_23]; exact congrArg Int32.toInt (((congrFun (congrFun (congrFun est_22 4) 0) (y9_0.toNatClampNeg)).trans (gU_same _ _ _ _ _)))
              refine gs_iast hx hb hK hI hm hM hS 5 0 (by decide) (fun _ => rfl) (vp_in_iff.mpr ⟨by omega, by omega⟩) dX10_next_108 (fun st_24 H locs est_24 hM hS => ?_)
              have hB_st_24 : gBN bM kM [0, 7, 400, 500, 600] st st_24 := by rw [est_24]; exact hB_st_22.up (show (500 : Nat) ∈ _ from by decide) (gi_lo _) (gi_hi _)
              obtain ⟨x_25, ex_25⟩ : ∃ y : Int32, y = y9_0 + 1 := ⟨_, rfl⟩
              try have tx_25 : x_25.toInt = y9_0.toInt + 1 := by rw [ex_25]; exact gz_addP (x := y9_0.toInt) (y := 1) rfl (by decide) (by omega) (by omega)
              refine lv_iinc (v := (x_25)) (lv' := [(1, .int x_25), (0, .ref (ad 0 0))]) hx hb dX10_next_109 hl (k := 0) rfl (by rw [ex_25]; rfl) (by decide) rfl (fun ls hl => ?_)
              refine lv_goto (tgt := 29) hx hb dX10_next_112 (by decide) ?_
              exact ih_9 st_24 (x_25 : Int32) H _ ls (by omega) hB_st_24 (by omega) (by have hq0 : (st_24 0 0 7).toInt = ((sv9 0 0 7) : Int32).toInt := congrArg Int32.toInt ((((congrFun (congrFun (congrFun est_24 0) 0) 7).trans (congrFun (congrFun (gU_k (by decide)) 0) 7)).trans ((congrFun (congrFun (congrFun est_22 0) 0) 7).trans (congrFun (congrFun (gU_k (by decide)) 0) 7)))); have hb1 : (0 : Int) ≤ (st_24 0 0 7).toInt ∧ (st_24 0 0 7).toInt ≤ (199 : Int) := hB_st_24.1 0 0 7; have hb2 : (0 : Int) ≤ (st 0 0 7).toInt ∧ (st 0 0 7).toInt ≤ (199 : Int) := hB_st.1 0 0 7; omega) (by have hb0 : (0 : Int) ≤ (st 0 0 7).toInt ∧ (st 0 0 7).toInt ≤ (199 : Int) := hB_st.1 0 0 7; omega) (by omega) (by rw [show st_24 4 0 = (upd (sv9 4 0) (y9_0.toNatClampNeg) (x_21 : Int32)) from ((congrFun (congrFun est_24 4) 0).trans ((congrFun (gU_k (by decide)) 0).trans ((congrFun (congrFun est_22 4) 0).trans ((gU_at _ _ _ _ _).trans (congrArg (fun f9 => upd f9 (y9_0.toNatClampNeg) (x_21 : Int32)) rfl)))))]; exact gwI.put hv9_4 (by omega) (by omega) (show ¬ (st 1 0 y9_0.toNatClampNeg).toInt = 0 by omega) (gw_lo (s := x_16) (by rw [ex_16, show x_14 = _ from (ex_14.trans (gwI.old hv9_4 (by omega))), show x_15 = _ from (ex_15.trans (hB_sv9.2 3 0 (y9_0.toNatClampNeg) (show (300 : Nat) ∉ _ from by decide)))]) (by have h9 := congrArg Int32.toInt (ex_17.trans (hB_sv9.2 2 0 (y9_0.toNatClampNeg) (show (200 : Nat) ∉ _ from by decide))); omega) (by rw [ex_21, show x_19 = _ from (ex_19.trans (gwI.old hv9_4 (by omega))), show x_20 = _ from (ex_20.trans (hB_sv9.2 3 0 (y9_0.toNatClampNeg) (show (300 : Nat) ∉ _ from by decide)))]))) (by rw [show st_24 5 0 = (upd (sv9 5 0) (y9_0.toNatClampNeg) (x_23 : Int32)) from ((congrFun (congrFun est_24 5) 0).trans ((gU_at _ _ _ _ _).trans (congrArg (fun f9 => upd f9 (y9_0.toNatClampNeg) (x_23 : Int32)) ((congrFun (congrFun est_22 5) 0).trans ((congrFun (gU_k (by decide)) 0).trans rfl)))))]; exact gwI.put hv9_5 (by omega) (by omega) (show ¬ (st 1 0 y9_0.toNatClampNeg).toInt = 0 by omega) ((Int32.toInt_inj.mp rx_23 : x_23 = x_21).trans (gw_lo (s := x_16) (by rw [ex_16, show x_14 = _ from (ex_14.trans (gwI.old hv9_4 (by omega))), show x_15 = _ from (ex_15.trans (hB_sv9.2 3 0 (y9_0.toNatClampNeg) (show (300 : Nat) ∉ _ from by decide)))]) (by have h9 := congrArg Int32.toInt (ex_17.trans (hB_sv9.2 2 0 (y9_0.toNatClampNeg) (show (200 : Nat) ∉ _ from by decide))); omega) (by rw [ex_21, show x_19 = _ from (ex_19.trans (gwI.old hv9_4 (by omega))), show x_20 = _ from (ex_20.trans (hB_sv9.2 3 0 (y9_0.toNatClampNeg) (show (300 : Nat) ∉ _ from by decide)))])))) (((congrFun (congrFun est_24 6) 0).trans ((congrFun (gU_k (by decide)) 0).trans ((congrFun (congrFun est_22 6) 0).trans ((congrFun (gU_k (by decide)) 0).trans rfl)))).trans hv9_6) hM hS (lv_sub hl [0, 1] rfl)
            · have ic_18 := gz_nle (rfl : x_16.toInt = x_16.toInt) (rfl : x_17.toInt = x_17.toInt) c_18
              have lc_18 := gi_hi x_16
              refine lv_aload_n hx hb dX10_next_74 rfl (lv_at hl 1 rfl) ?_
              refine gs_get (C := RX10) (T := TX10) (N := 59) hx hb hts inX10 hown hK hM 0 0 2 (by decide) rfl rfl (by decide) (hts _ gm_903) (fun _ h9 => h9) rfl dX10_next_75 ?_
              refine lv_iload_n hx hb dX10_next_78 rfl (lv_at hl 0 rfl) ?_
              refine gs_iald hx hb hK hM 2 0 (by decide) rfl (vp_in_iff.mpr ⟨by omega, by omega⟩) dX10_next_79 ?_
              refine lv_topi (fun x_26 ex_26 => ?_)
              have qx_26 : x_26.toInt = (sv9 2 0 (y9_0.toNatClampNeg)).toInt := congrArg Int32.toInt ex_26
              have rx_26 : x_26.toInt = ((st 2 0 (y9_0.toNatClampNeg)) : Int32).toInt := by rw [ex_26]; exact congrArg Int32.toInt ((hB_sv9.2 2 0 (y9_0.toNatClampNeg) (show (200 : Nat) ∉ _ from by decide)))
              refine lv_goto (tgt := 96) hx hb dX10_next_80 (by decide) ?_
              refine gs_iast hx hb hK hI hm hM hS 4 0 (by decide) (fun _ => rfl) (vp_in_iff.mpr ⟨by omega, by omega⟩) dX10_next_96 (fun st_27 H locs est_27 hM hS => ?_)
              have hB_st_27 : gBN bM kM [0, 7, 400, 500, 600] st st_27 := by rw [est_27]; exact hB_sv9.up (show (400 : Nat) ∈ _ from by decide) (gi_lo _) (gi_hi _)
              refine lv_aload_n hx hb dX10_next_97 rfl (lv_at hl 1 rfl) ?_
              refine gs_get (C := RX10) (T := TX10) (N := 59) hx hb hts inX10 hown hK hM 0 0 5 (by decide) rfl rfl (by decide) (hts _ gm_906) (fun _ h9 => h9) rfl dX10_next_98 ?_
              refine lv_iload_n hx hb dX10_next_101 rfl (lv_at hl 0 rfl) ?_
              refine lv_aload_n hx hb dX10_next_102 rfl (lv_at hl 1 rfl) ?_
              refine gs_get (C := RX10) (T := TX10) (N := 59) hx hb hts inX10 hown hK hM 0 0 4 (by decide) rfl rfl (by decide) (hts _ gm_905) (fun _ h9 => h9) rfl dX10_next_103 ?_
              refine lv_iload_n hx hb dX10_next_106 rfl (lv_at hl 0 rfl) ?_
              refine gs_iald hx hb hK hM 4 0 (by decide) rfl (vp_in_iff.mpr ⟨by omega, by omega⟩) dX10_next_107 ?_
              refine lv_topi (fun x_28 ex_28 => ?_)
              have qx_28 : x_28.toInt = (st_27 4 0 (y9_0.toNatClampNeg)).toInt := congrArg Int32.toInt ex_28
              have rx_28 : x_28.toInt = (x_26 : Int32).toInt := by rw [ex_28]; exact congrArg Int32.toInt (((congrFun (congrFun (congrFun est_27 4) 0) (y9_0.toNatClampNeg)).trans (gU_same _ _ _ _ _)))
              refine gs_iast hx hb hK hI hm hM hS 5 0 (by decide) (fun _ => rfl) (vp_in_iff.mpr ⟨by omega, by omega⟩) dX10_next_108 (fun st_29 H locs est_29 hM hS => ?_)
              have hB_st_29 : gBN bM kM [0, 7, 400, 500, 600] st st_29 := by rw [est_29]; exact hB_st_27.up (show (500 : Nat) ∈ _ from by decide) (gi_lo _) (gi_hi _)
              obtain ⟨x_30, ex_30⟩ : ∃ y : Int32, y = y9_0 + 1 := ⟨_, rfl⟩
              try have tx_30 : x_30.toInt = y9_0.toInt + 1 := by rw [ex_30]; exact gz_addP (x := y9_0.toInt) (y := 1) rfl (by decide) (by omega) (by omega)
              refine lv_iinc (v := (x_30)) (lv' := [(1, .int x_30), (0, .ref (ad 0 0))]) hx hb dX10_next_109 hl (k := 0) rfl (by rw [ex_30]; rfl) (by decide) rfl (fun ls hl => ?_)
              refine lv_goto (tgt := 29) hx hb dX10_next_112 (by decide) ?_
              exact ih_9 st_29 (x_30 : Int32) H _ ls (by omega) hB_st_29 (by omega) (by have hq0 : (st_29 0 0 7).toInt = ((sv9 0 0 7) : Int32).toInt := congrArg Int32.toInt ((((congrFun (congrFun (congrFun est_29 0) 0) 7).trans (congrFun (congrFun (gU_k (by decide)) 0) 7)).trans ((congrFun (congrFun (congrFun est_27 0) 0) 7).trans (congrFun (congrFun (gU_k (by decide)) 0) 7)))); have hb1 : (0 : Int) ≤ (st_29 0 0 7).toInt ∧ (st_29 0 0 7).toInt ≤ (199 : Int) := hB_st_29.1 0 0 7; have hb2 : (0 : Int) ≤ (st 0 0 7).toInt ∧ (st 0 0 7).toInt ≤ (199 : Int) := hB_st.1 0 0 7; omega) (by have hb0 : (0 : Int) ≤ (st 0 0 7).toInt ∧ (st 0 0 7).toInt ≤ (199 : Int) := hB_st.1 0 0 7; omega) (by omega) (by rw [show st_29 4 0 = (upd (sv9 4 0) (y9_0.toNatClampNeg) (x_26 : Int32)) from ((congrFun (congrFun est_29 4) 0).trans ((congrFun (gU_k (by decide)) 0).trans ((congrFun (congrFun est_27 4) 0).trans ((gU_at _ _ _ _ _).trans (congrArg (fun f9 => upd f9 (y9_0.toNatClampNeg) (x_26 : Int32)) rfl)))))]; exact gwI.put hv9_4 (by omega) (by omega) (show ¬ (st 1 0 y9_0.toNatClampNeg).toInt = 0 by omega) (gw_hi (s := x_16) (by rw [ex_16, show x_14 = _ from (ex_14.trans (gwI.old hv9_4 (by omega))), show x_15 = _ from (ex_15.trans (hB_sv9.2 3 0 (y9_0.toNatClampNeg) (show (300 : Nat) ∉ _ from by decide)))]) (by have h9 := congrArg Int32.toInt (ex_17.trans (hB_sv9.2 2 0 (y9_0.toNatClampNeg) (show (200 : Nat) ∉ _ from by decide))); omega) (ex_26.trans (hB_sv9.2 2 0 (y9_0.toNatClampNeg) (show (200 : Nat) ∉ _ from by decide))))) (by rw [show st_29 5 0 = (upd (sv9 5 0) (y9_0.toNatClampNeg) (x_28 : Int32)) from ((congrFun (congrFun est_29 5) 0).trans ((gU_at _ _ _ _ _).trans (congrArg (fun f9 => upd f9 (y9_0.toNatClampNeg) (x_28 : Int32)) ((congrFun (congrFun est_27 5) 0).trans ((congrFun (gU_k (by decide)) 0).trans rfl)))))]; exact gwI.put hv9_5 (by omega) (by omega) (show ¬ (st 1 0 y9_0.toNatClampNeg).toInt = 0 by omega) ((Int32.toInt_inj.mp rx_28 : x_28 = x_26).trans (gw_hi (s := x_16) (by rw [ex_16, show x_14 = _ from (ex_14.trans (gwI.old hv9_4 (by omega))), show x_15 = _ from (ex_15.trans (hB_sv9.2 3 0 (y9_0.toNatClampNeg) (show (300 : Nat) ∉ _ from by decide)))]) (by have h9 := congrArg Int32.toInt (ex_17.trans (hB_sv9.2 2 0 (y9_0.toNatClampNeg) (show (200 : Nat) ∉ _ from by decide))); omega) (ex_26.trans (hB_sv9.2 2 0 (y9_0.toNatClampNeg) (show (200 : Nat) ∉ _ from by decide)))))) (((congrFun (congrFun est_29 6) 0).trans ((congrFun (gU_k (by decide)) 0).trans ((congrFun (congrFun est_27 6) 0).trans ((congrFun (gU_k (by decide)) 0).trans rfl)))).trans hv9_6) hM hS (lv_sub hl [0, 1] rfl)
          · have ic_13 := gz_eqn (rfl : x_12.toInt = x_12.toInt) (by decide : (0 : Int32).toInt = 0) c_13
            refine lv_goto (tgt := 109) hx hb dX10_next_44 (by decide) ?_
            obtain ⟨x_31, ex_31⟩ : ∃ y : Int32, y = y9_0 + 1 := ⟨_, rfl⟩
            try have tx_31 : x_31.toInt = y9_0.toInt + 1 := by rw [ex_31]; exact gz_addP (x := y9_0.toInt) (y := 1) rfl (by decide) (by omega) (by omega)
            refine lv_iinc (v := (x_31)) (lv' := [(1, .int x_31), (0, .ref (ad 0 0))]) hx hb dX10_next_109 hl (k := 0) rfl (by rw [ex_31]; rfl) (by decide) rfl (fun ls hl => ?_)
            refine lv_goto (tgt := 29) hx hb dX10_next_112 (by decide) ?_
            exact ih_9 sv9 (x_31 : Int32) H _ ls (by omega) hB_sv9 (by omega) (by have hb0 : (0 : Int) ≤ (sv9 0 0 7).toInt ∧ (sv9 0 0 7).toInt ≤ (199 : Int) := hB_sv9.1 0 0 7; have hb1 : (0 : Int) ≤ (st 0 0 7).toInt ∧ (st 0 0 7).toInt ≤ (199 : Int) := hB_st.1 0 0 7; omega) (by have hb0 : (0 : Int) ≤ (st 0 0 7).toInt ∧ (st 0 0 7).toInt ≤ (199 : Int) := hB_st.1 0 0 7; omega) (by omega) (gwI.skip hv9_4 (by omega) (by omega) (fun h9 => h9 (by omega))) (gwI.skip hv9_5 (by omega) (by omega) (fun h9 => h9 (by omega))) hv9_6 hM hS (lv_sub hl [0, 1] rfl)
    exact lp9 ((6 - ((0 : Int32) : Int32).toInt).toNat + 1) st_8 ((0 : Int32) : Int32) H _ ls (Nat.lt_succ_self _) hB_st_8 (by have hl0 : (0 : Int32).toInt = 0 := (by decide); omega) (by have hl0 : (0 : Int32).toInt = 0 := (by decide); have hq1 : (st_8 0 0 7).toInt = (x_7 : Int32).toInt := congrArg Int32.toInt (((congrFun (congrFun (congrFun est_8 0) 0) 7).trans (gU_same _ _ _ _ _))); have hb2 : (0 : Int) ≤ (st_8 0 0 7).toInt ∧ (st_8 0 0 7).toInt ≤ (199 : Int) := hB_st_8.1 0 0 7; have hb3 : (0 : Int) ≤ (st 0 0 7).toInt ∧ (st 0 0 7).toInt ≤ (199 : Int) := hB_st.1 0 0 7; omega) (by have hl0 : (0 : Int32).toInt = 0 := (by decide); have hb1 : (0 : Int) ≤ (st 0 0 7).toInt ∧ (st 0 0 7).toInt ≤ (199 : Int) := hB_st.1 0 0 7; omega) (by have hl0 : (0 : Int32).toInt = 0 := (by decide); omega) (by rw [show st_8 4 0 = st 4 0 from ((congrFun (congrFun est_8 4) 0).trans ((congrFun (gU_k (by decide)) 0).trans ((congrFun (congrFun est_1 4) 0).trans ((congrFun (gU_k (by decide)) 0).trans rfl))))]; exact gwI.new (by decide)) (by rw [show st_8 5 0 = st 5 0 from ((congrFun (congrFun est_8 5) 0).trans ((congrFun (gU_k (by decide)) 0).trans ((congrFun (congrFun est_1 5) 0).trans ((congrFun (gU_k (by decide)) 0).trans rfl))))]; exact gwI.new (by decide)) ((congrFun (congrFun est_8 6) 0).trans ((congrFun (gU_k (by decide)) 0).trans ((congrFun (congrFun est_1 6) 0).trans ((congrFun (gU_k (by decide)) 0).trans rfl)))) hM hS (lv_sub hl [0, 1] rfl)
  · have ic_4 := gz_eqn (rfl : (st 0 0 7).toInt = (st 0 0 7).toInt) (by decide : (199 : Int32).toInt = 199) c_4
    refine lv_iconst (v := 0) hx hb dX10_next_15 (by decide) ?_
    rw [← hQe]
    exact gs_iret hx hb hr hlocks hM hS (by decide) ⟨hB_st_1, (Or.inr ⟨rfl, by omega, (frM.up est_1)⟩)⟩ (by exact Nat.le_refl _) (by exact Nat.le_refl _) dX10_next_16
