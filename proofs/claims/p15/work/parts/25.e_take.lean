theorem dX10_drawn__0 : decode cX10_drawn_ 0 = .ok (.aload_n 0, 1) := by decide +kernel
theorem dX10_drawn__1 : decode cX10_drawn_ 1 = .ok (.iload_n 1, 1) := by decide +kernel
theorem dX10_drawn__2 : decode cX10_drawn_ 2 = .ok (.ifCond .lt 20, 3) := by decide +kernel
theorem dX10_drawn__5 : decode cX10_drawn_ 5 = .ok (.iload_n 1, 1) := by decide +kernel
theorem dX10_drawn__6 : decode cX10_drawn_ 6 = .ok (.aload_n 0, 1) := by decide +kernel
theorem dX10_drawn__7 : decode cX10_drawn_ 7 = .ok (.getfield 287, 3) := by decide +kernel
theorem dX10_drawn__10 : decode cX10_drawn_ 10 = .ok (.if_icmp .ge 12, 3) := by decide +kernel
theorem dX10_drawn__13 : decode cX10_drawn_ 13 = .ok (.iload_n 2, 1) := by decide +kernel
theorem dX10_drawn__14 : decode cX10_drawn_ 14 = .ok (.ifCond .lt 8, 3) := by decide +kernel
theorem dX10_drawn__17 : decode cX10_drawn_ 17 = .ok (.iload_n 2, 1) := by decide +kernel
theorem dX10_drawn__18 : decode cX10_drawn_ 18 = .ok (.iconst 5, 1) := by decide +kernel
theorem dX10_drawn__19 : decode cX10_drawn_ 19 = .ok (.if_icmp .le 7, 3) := by decide +kernel
theorem dX10_drawn__22 : decode cX10_drawn_ 22 = .ok (.iconst 1, 1) := by decide +kernel
theorem dX10_drawn__23 : decode cX10_drawn_ 23 = .ok (.goto 4, 3) := by decide +kernel
theorem dX10_drawn__26 : decode cX10_drawn_ 26 = .ok (.iconst 0, 1) := by decide +kernel
theorem dX10_drawn__27 : decode cX10_drawn_ 27 = .ok (.putfield 1, 3) := by decide +kernel
theorem dX10_drawn__30 : decode cX10_drawn_ 30 = .ok (.aload_n 0, 1) := by decide +kernel
theorem dX10_drawn__31 : decode cX10_drawn_ 31 = .ok (.getfield 1, 3) := by decide +kernel
theorem dX10_drawn__34 : decode cX10_drawn_ 34 = .ok (.iconst 1, 1) := by decide +kernel
theorem dX10_drawn__35 : decode cX10_drawn_ 35 = .ok (.if_icmp .ne 5, 3) := by decide +kernel
theorem dX10_drawn__38 : decode cX10_drawn_ 38 = .ok (.iconst 0, 1) := by decide +kernel
theorem dX10_drawn__39 : decode cX10_drawn_ 39 = .ok (.ireturn, 1) := by decide +kernel
theorem dX10_drawn__40 : decode cX10_drawn_ 40 = .ok (.iload_n 2, 1) := by decide +kernel
theorem dX10_drawn__41 : decode cX10_drawn_ 41 = .ok (.ifCond .ne 12, 3) := by decide +kernel
theorem dX10_drawn__44 : decode cX10_drawn_ 44 = .ok (.aload_n 0, 1) := by decide +kernel
theorem dX10_drawn__45 : decode cX10_drawn_ 45 = .ok (.getfield 61, 3) := by decide +kernel
theorem dX10_drawn__48 : decode cX10_drawn_ 48 = .ok (.iload_n 1, 1) := by decide +kernel
theorem dX10_drawn__49 : decode cX10_drawn_ 49 = .ok (.iaload, 1) := by decide +kernel
theorem dX10_drawn__50 : decode cX10_drawn_ 50 = .ok (.goto 65, 3) := by decide +kernel
theorem dX10_drawn__53 : decode cX10_drawn_ 53 = .ok (.iload_n 2, 1) := by decide +kernel
theorem dX10_drawn__54 : decode cX10_drawn_ 54 = .ok (.iconst 1, 1) := by decide +kernel
theorem dX10_drawn__55 : decode cX10_drawn_ 55 = .ok (.if_icmp .ne 12, 3) := by decide +kernel
theorem dX10_drawn__58 : decode cX10_drawn_ 58 = .ok (.aload_n 0, 1) := by decide +kernel
theorem dX10_drawn__59 : decode cX10_drawn_ 59 = .ok (.getfield 64, 3) := by decide +kernel
theorem dX10_drawn__62 : decode cX10_drawn_ 62 = .ok (.iload_n 1, 1) := by decide +kernel
theorem dX10_drawn__63 : decode cX10_drawn_ 63 = .ok (.iaload, 1) := by decide +kernel
theorem dX10_drawn__64 : decode cX10_drawn_ 64 = .ok (.goto 51, 3) := by decide +kernel
theorem dX10_drawn__67 : decode cX10_drawn_ 67 = .ok (.iload_n 2, 1) := by decide +kernel
theorem dX10_drawn__68 : decode cX10_drawn_ 68 = .ok (.iconst 2, 1) := by decide +kernel
theorem dX10_drawn__69 : decode cX10_drawn_ 69 = .ok (.if_icmp .ne 12, 3) := by decide +kernel
theorem dX10_drawn__72 : decode cX10_drawn_ 72 = .ok (.aload_n 0, 1) := by decide +kernel
theorem dX10_drawn__73 : decode cX10_drawn_ 73 = .ok (.getfield 67, 3) := by decide +kernel
theorem dX10_drawn__76 : decode cX10_drawn_ 76 = .ok (.iload_n 1, 1) := by decide +kernel
theorem dX10_drawn__77 : decode cX10_drawn_ 77 = .ok (.iaload, 1) := by decide +kernel
theorem dX10_drawn__78 : decode cX10_drawn_ 78 = .ok (.goto 37, 3) := by decide +kernel
theorem dX10_drawn__81 : decode cX10_drawn_ 81 = .ok (.iload_n 2, 1) := by decide +kernel
theorem dX10_drawn__82 : decode cX10_drawn_ 82 = .ok (.iconst 3, 1) := by decide +kernel
theorem dX10_drawn__83 : decode cX10_drawn_ 83 = .ok (.if_icmp .ne 12, 3) := by decide +kernel
theorem dX10_drawn__86 : decode cX10_drawn_ 86 = .ok (.aload_n 0, 1) := by decide +kernel
theorem dX10_drawn__87 : decode cX10_drawn_ 87 = .ok (.getfield 70, 3) := by decide +kernel
theorem dX10_drawn__90 : decode cX10_drawn_ 90 = .ok (.iload_n 1, 1) := by decide +kernel
theorem dX10_drawn__91 : decode cX10_drawn_ 91 = .ok (.iaload, 1) := by decide +kernel
theorem dX10_drawn__92 : decode cX10_drawn_ 92 = .ok (.goto 23, 3) := by decide +kernel
theorem dX10_drawn__95 : decode cX10_drawn_ 95 = .ok (.iload_n 2, 1) := by decide +kernel
theorem dX10_drawn__96 : decode cX10_drawn_ 96 = .ok (.iconst 4, 1) := by decide +kernel
theorem dX10_drawn__97 : decode cX10_drawn_ 97 = .ok (.if_icmp .ne 12, 3) := by decide +kernel
theorem dX10_drawn__100 : decode cX10_drawn_ 100 = .ok (.aload_n 0, 1) := by decide +kernel
theorem dX10_drawn__101 : decode cX10_drawn_ 101 = .ok (.getfield 73, 3) := by decide +kernel
theorem dX10_drawn__104 : decode cX10_drawn_ 104 = .ok (.iload_n 1, 1) := by decide +kernel
theorem dX10_drawn__105 : decode cX10_drawn_ 105 = .ok (.iaload, 1) := by decide +kernel
theorem dX10_drawn__106 : decode cX10_drawn_ 106 = .ok (.goto 9, 3) := by decide +kernel
theorem dX10_drawn__109 : decode cX10_drawn_ 109 = .ok (.aload_n 0, 1) := by decide +kernel
theorem dX10_drawn__110 : decode cX10_drawn_ 110 = .ok (.getfield 76, 3) := by decide +kernel
theorem dX10_drawn__113 : decode cX10_drawn_ 113 = .ok (.iload_n 1, 1) := by decide +kernel
theorem dX10_drawn__114 : decode cX10_drawn_ 114 = .ok (.iaload, 1) := by decide +kernel
theorem dX10_drawn__115 : decode cX10_drawn_ 115 = .ok (.ireturn, 1) := by decide +kernel
theorem dX10_report_0 : decode cX10_report 0 = .ok (.aload_n 0, 1) := by decide +kernel
theorem dX10_report_1 : decode cX10_report 1 = .ok (.iconst 0, 1) := by decide +kernel
theorem dX10_report_2 : decode cX10_report 2 = .ok (.putfield 1, 3) := by decide +kernel
theorem dX10_report_5 : decode cX10_report 5 = .ok (.iload_n 1, 1) := by decide +kernel
theorem dX10_report_6 : decode cX10_report 6 = .ok (.ifCond .lt 20, 3) := by decide +kernel
theorem dX10_report_9 : decode cX10_report 9 = .ok (.iload_n 1, 1) := by decide +kernel
theorem dX10_report_10 : decode cX10_report 10 = .ok (.aload_n 0, 1) := by decide +kernel
theorem dX10_report_11 : decode cX10_report 11 = .ok (.getfield 287, 3) := by decide +kernel
theorem dX10_report_14 : decode cX10_report 14 = .ok (.if_icmp .ge 12, 3) := by decide +kernel
theorem dX10_report_17 : decode cX10_report 17 = .ok (.aload_n 0, 1) := by decide +kernel
theorem dX10_report_18 : decode cX10_report 18 = .ok (.getfield 76, 3) := by decide +kernel
theorem dX10_report_21 : decode cX10_report 21 = .ok (.iload_n 1, 1) := by decide +kernel
theorem dX10_report_22 : decode cX10_report 22 = .ok (.iaload, 1) := by decide +kernel
theorem dX10_report_23 : decode cX10_report 23 = .ok (.ifCond .lt 5, 3) := by decide +kernel
theorem dX10_report_26 : decode cX10_report 26 = .ok (.iconst 0, 1) := by decide +kernel
theorem dX10_report_27 : decode cX10_report 27 = .ok (.ireturn, 1) := by decide +kernel
theorem dX10_report_28 : decode cX10_report 28 = .ok (.aload_n 0, 1) := by decide +kernel
theorem dX10_report_29 : decode cX10_report 29 = .ok (.getfield 76, 3) := by decide +kernel
theorem dX10_report_32 : decode cX10_report 32 = .ok (.iload_n 1, 1) := by decide +kernel
theorem dX10_report_33 : decode cX10_report 33 = .ok (.aload_n 0, 1) := by decide +kernel
theorem dX10_report_34 : decode cX10_report 34 = .ok (.getfield 213, 3) := by decide +kernel
theorem dX10_report_37 : decode cX10_report 37 = .ok (.iastore, 1) := by decide +kernel
theorem dX10_report_38 : decode cX10_report 38 = .ok (.iconst 1, 1) := by decide +kernel
theorem dX10_report_39 : decode cX10_report 39 = .ok (.ireturn, 1) := by decide +kernel
theorem dX10_take_0 : decode cX10_take 0 = .ok (.aload_n 0, 1) := by decide +kernel
theorem dX10_take_1 : decode cX10_take 1 = .ok (.iconst 0, 1) := by decide +kernel
theorem dX10_take_2 : decode cX10_take 2 = .ok (.putfield 1, 3) := by decide +kernel
theorem dX10_take_5 : decode cX10_take 5 = .ok (.aload_n 0, 1) := by decide +kernel
theorem dX10_take_6 : decode cX10_take 6 = .ok (.iload_n 1, 1) := by decide +kernel
theorem dX10_take_7 : decode cX10_take 7 = .ok (.iload_n 2, 1) := by decide +kernel
theorem dX10_take_8 : decode cX10_take 8 = .ok (.iload_n 3, 1) := by decide +kernel
theorem dX10_take_9 : decode cX10_take 9 = .ok (.invokevirtual 290, 3) := by decide +kernel
theorem dX10_take_12 : decode cX10_take 12 = .ok (.ifCond .eq 5, 3) := by decide +kernel
theorem dX10_take_15 : decode cX10_take 15 = .ok (.iconst 1, 1) := by decide +kernel
theorem dX10_take_16 : decode cX10_take 16 = .ok (.ireturn, 1) := by decide +kernel
theorem dX10_take_17 : decode cX10_take 17 = .ok (.aload_n 0, 1) := by decide +kernel
theorem dX10_take_18 : decode cX10_take 18 = .ok (.iload_n 1, 1) := by decide +kernel
theorem dX10_take_19 : decode cX10_take 19 = .ok (.iload_n 2, 1) := by decide +kernel
theorem dX10_take_20 : decode cX10_take 20 = .ok (.invokevirtual 281, 3) := by decide +kernel
theorem dX10_take_23 : decode cX10_take 23 = .ok (.ifCond .eq 7, 3) := by decide +kernel
theorem dX10_take_26 : decode cX10_take 26 = .ok (.iconst 5, 1) := by decide +kernel
theorem dX10_take_27 : decode cX10_take 27 = .ok (.goto 11, 3) := by decide +kernel
theorem dX10_take_30 : decode cX10_take 30 = .ok (.aload_n 0, 1) := by decide +kernel
theorem dX10_take_31 : decode cX10_take 31 = .ok (.iload_n 1, 1) := by decide +kernel
theorem dX10_take_32 : decode cX10_take 32 = .ok (.iload_n 2, 1) := by decide +kernel
theorem dX10_take_33 : decode cX10_take 33 = .ok (.iload_n 3, 1) := by decide +kernel
theorem dX10_take_34 : decode cX10_take 34 = .ok (.iconst 0, 1) := by decide +kernel
theorem dX10_take_35 : decode cX10_take 35 = .ok (.invokevirtual 294, 3) := by decide +kernel
theorem dX10_take_38 : decode cX10_take 38 = .ok (.ireturn, 1) := by decide +kernel
set_option maxHeartbeats 4000000 in
set_option maxRecDepth 100000 in
/-- WellCourtModel.take -/
theorem m_take (l : Launch) (G : va_G) (cy : Nat → ClassId) (sK sV : Nat → Nat) (ad : Nat → Nat → Nat) (sz : Nat) (st : gS) (hB : gBd bM st) (x : Int32) (y : Int32) (w : Int32) (Xx : Int) (Xy : Int) (Xw : Int) (kx : x.toInt = Xx) (ky : y.toInt = Xy) (kw : w.toInt = Xw) (rs : List Rl) (bk : Nat) (hbk : (st 0 0 28).toInt = (bk : Int)) (hru : (st 0 0 29).toInt = (rs.length : Int)) (hLM : LM rs st bk) (hwf : ∀ r ∈ rs, wfR r) : gsMi l yX10_take cX10_take 4 (some .int) ({ frames := 2, cells := 0, slots := 0, locals := 51 } : Room) G cy sK sV (shM cy ad) cnM ad sz [.ref (ad 0 0), .int x, .int y, .int w] st (fun (r : Int32) (u : gS) => gBN bM kM [0, 37, 400, 1600, 1700, 1800, 1900, 2000, 2100] st u ∧ (((¬ (0 ≤ Xx ∧ Xx ≤ 5 ∧ ¬ (st 1 0 x.toNatClampNeg).toInt = 0 ∧ 0 ≤ Xy ∧ Xy ≤ 5 ∧ 1 ≤ Xw ∧ Xw ≤ 1000 ∧ (st 0 0 37).toInt < 300) ∧ r.toInt = 1 ∧ frM st u) ∨ ((0 ≤ Xx ∧ Xx ≤ 5 ∧ ¬ (st 1 0 x.toNatClampNeg).toInt = 0 ∧ 0 ≤ Xy ∧ Xy ≤ 5 ∧ 1 ≤ Xw ∧ Xw ≤ 1000 ∧ (st 0 0 37).toInt < 300) ∧ (rtM rs (fun a9 => (st 6 0 (200 * a9 + (st 0 0 7).toNatClampNeg)).toInt) (fun a9 => (st 1 0 a9).toInt) (fun a9 => (st 5 0 a9).toInt) x.toNatClampNeg Xy) ∧ r.toInt = 5 ∧ frM st u) ∨ ((0 ≤ Xx ∧ Xx ≤ 5 ∧ ¬ (st 1 0 x.toNatClampNeg).toInt = 0 ∧ 0 ≤ Xy ∧ Xy ≤ 5 ∧ 1 ≤ Xw ∧ Xw ≤ 1000 ∧ (st 0 0 37).toInt < 300) ∧ ¬ (rtM rs (fun a9 => (st 6 0 (200 * a9 + (st 0 0 7).toNatClampNeg)).toInt) (fun a9 => (st 1 0 a9).toInt) (fun a9 => (st 5 0 a9).toInt) x.toNatClampNeg Xy) ∧ (st 4 0 x.toNatClampNeg).toInt < Xw ∧ r.toInt = 4 ∧ frM st u) ∨ ((0 ≤ Xx ∧ Xx ≤ 5 ∧ ¬ (st 1 0 x.toNatClampNeg).toInt = 0 ∧ 0 ≤ Xy ∧ Xy ≤ 5 ∧ 1 ≤ Xw ∧ Xw ≤ 1000 ∧ (st 0 0 37).toInt < 300) ∧ ¬ (rtM rs (fun a9 => (st 6 0 (200 * a9 + (st 0 0 7).toNatClampNeg)).toInt) (fun a9 => (st 1 0 a9).toInt) (fun a9 => (st 5 0 a9).toInt) x.toNatClampNeg Xy) ∧ Xw ≤ (st 4 0 x.toNatClampNeg).toInt ∧ r.toInt = 0 ∧ enM st u x y w 0 (-1))))) := by
  refine gs_start (fun A => gsQi G (shM cy ad) cnM ad _ A) (by decide) (Nat.le_of_ble_eq_true rfl) ?_
  intro p e s m below meth c A ls H hx hb hr hml hlocks hown hts hK hov hE hI hM hm hS hA hl
  have hl : lv_has ls 4 [(0, .ref (ad 0 0)), (1, .int x), (2, .int y), (3, .int w)] := hl
  have hB_st : gBN bM kM [0, 37, 400, 1600, 1700, 1800, 1900, 2000, 2100] st st := gBN.rf hB
  have b37 : (0 : Int) ≤ (st 0 0 37).toInt ∧ (st 0 0 37).toInt ≤ (300 : Int) := hB 0 0 37
  refine lv_aload_n hx hb dX10_take_0 rfl (lv_at hl 0 rfl) ?_
  refine lv_iconst (v := 0) hx hb dX10_take_1 (by decide) ?_
  refine gs_put (C := RX10) (T := TX10) (N := 59) (ty := .int) (val := .int 0) hx hb hts inX10 tyX10 tyX10_ok nmX10 hown hK hI hm hM hS 0 0 0 (by decide) rfl rfl (by decide) (hts _ gm_901) (fun _ h9 => h9) rfl (0 : Int32) rfl (by decide +kernel) rfl rfl (Nat.le_of_ble_eq_true rfl) dX10_take_2 (fun st_1 H locs est_1 hM hS => ?_)
  have hB_st_1 : gBN bM kM [0, 37, 400, 1600, 1700, 1800, 1900, 2000, 2100] st st_1 := by rw [est_1]; exact hB_st.up (show (0 : Nat) ∈ _ from by decide) (gi_lo _) (gi_hi _)
  refine lv_aload_n hx hb dX10_take_5 rfl (lv_at hl 0 rfl) ?_
  refine lv_iload_n hx hb dX10_take_6 rfl (lv_at hl 1 rfl) ?_
  refine lv_iload_n hx hb dX10_take_7 rfl (lv_at hl 2 rfl) ?_
  refine lv_iload_n hx hb dX10_take_8 rfl (lv_at hl 3 rfl) ?_
  refine gs_calli (va_runV (As := [.int x, .int y, .int w]) (rest := []) ⟨hx, hb, hml, hown, hts⟩ (m_cantDraw l G cy sK sV ad H.size st_1 hB_st_1.1 x y w x.toInt y.toInt w.toInt rfl rfl rfl ) ⟨(gz_cb (n := 3) hts gm_1236 gm_12 gm_1239 ⟨by decide +kernel, by decide +kernel, by decide +kernel⟩ ⟨Nat.le_of_ble_eq_true rfl, Nat.le_of_ble_eq_true rfl⟩), hts _ gm_1238, hts _ gs_54⟩ (gs_preV hK hov hE hI hM hm hS hA 0 0 (by decide) rfl rfl) rfl rfl hl.1 rfl (lv_room (Nat.le_of_ble_eq_true rfl)) dX10_take_9 ⟨Nat.le_of_ble_eq_true rfl, Nat.le_of_ble_eq_true rfl⟩) hm hS hA (fun r_2 st_2 H locs hw_2 hM hS => ?_)
  obtain ⟨n_2, hw_2⟩ := hw_2
  have n_2 := gBN.nil n_2
  subst n_2
  have hqhw_20 : (st_1 0 0 37).toInt = ((st 0 0 37) : Int32).toInt := congrArg Int32.toInt (((congrFun (congrFun (congrFun est_1 0) 0) 37).trans (gU_other (by decide))))
  have hbhw_21 : (0 : Int) ≤ (st_1 0 0 37).toInt ∧ (st_1 0 0 37).toInt ≤ (300 : Int) := hB_st_1.1 0 0 37
  have hqhw_22 : (st_1 1 0 x.toNatClampNeg).toInt = ((st 1 0 x.toNatClampNeg) : Int32).toInt := congrArg Int32.toInt (((congrFun (congrFun (congrFun est_1 1) 0) x.toNatClampNeg).trans (congrFun (congrFun (gU_k (by decide)) 0) x.toNatClampNeg)))
  rcases hw_2 with ⟨rfl, hw_2_0⟩ | ⟨rfl, hw_2_0, hw_2_1, hw_2_2, hw_2_3, hw_2_4, hw_2_5, hw_2_6, hw_2_7⟩
  · skip
    refine lv_if_eq (tgt := 17) hx hb dX10_take_12 (by decide) (fun h9 => absurd h9 (by decide)) (fun _ => ?_)
    refine lv_iconst (v := 1) hx hb dX10_take_15 (by decide) ?_
    exact gs_iret hx hb hr hlocks hM hS rfl ⟨hB_st_1, (Or.inl (⟨by first | omega | (intro h9; omega), by decide, (frM.up est_1)⟩))⟩ (by exact Nat.le_refl _) (by exact Nat.le_refl _) dX10_take_16
  · skip
    refine lv_if_eq (tgt := 17) hx hb dX10_take_12 (by decide) (fun _ => ?_) (fun h9 => absurd (by decide) h9)
    refine lv_aload_n hx hb dX10_take_17 rfl (lv_at hl 0 rfl) ?_
    refine lv_iload_n hx hb dX10_take_18 rfl (lv_at hl 1 rfl) ?_
    refine lv_iload_n hx hb dX10_take_19 rfl (lv_at hl 2 rfl) ?_
    refine gs_calli (va_runV (As := [.int x, .int y]) (rest := []) ⟨hx, hb, hml, hown, hts⟩ (m_isRightNow l G cy sK sV ad H.size st_1 hB_st_1.1 x y x.toInt y.toInt rfl rfl (by first | decide | omega) (by first | decide | omega) rs bk ((congrArg Int32.toInt (((congrFun (congrFun (congrFun est_1 0) 0) 28).trans (gU_other (by decide))))).trans hbk) ((congrArg Int32.toInt (((congrFun (congrFun (congrFun est_1 0) 0) 29).trans (gU_other (by decide))))).trans hru) (LM.all hLM (mA.trans mA.rf (mA.upk est_1 (by decide)))) hwf) ⟨(gz_cb (n := 2) hts gm_1216 gm_12 gm_1219 ⟨by decide +kernel, by decide +kernel, by decide +kernel⟩ ⟨Nat.le_of_ble_eq_true rfl, Nat.le_of_ble_eq_true rfl⟩), hts _ gm_1218, hts _ gs_51⟩ (gs_preV hK hov hE hI hM hm hS hA 0 0 (by decide) rfl rfl) rfl rfl hl.1 rfl (lv_room (Nat.le_of_ble_eq_true rfl)) dX10_take_20 ⟨Nat.le_of_ble_eq_true rfl, Nat.le_of_ble_eq_true rfl⟩) hm hS hA (fun r_3 st_3 H locs hw_3 hM hS => ?_)
    obtain ⟨n_3, hw_3⟩ := hw_3
    have n_3 := gBN.nil n_3
    subst n_3
    have hqhw_30 : (st_1 0 0 7).toInt = ((st 0 0 7) : Int32).toInt := congrArg Int32.toInt (((congrFun (congrFun (congrFun est_1 0) 0) 7).trans (gU_other (by decide))))
    have hbhw_31 : (0 : Int) ≤ (st_1 0 0 7).toInt ∧ (st_1 0 0 7).toInt ≤ (199 : Int) := hB_st_1.1 0 0 7
    rcases hw_3 with ⟨rfl, hw_3_0⟩ | ⟨rfl, hw_3_0⟩
    · skip
      refine lv_if_eq (tgt := 30) hx hb dX10_take_23 (by decide) (fun h9 => absurd h9 (by decide)) (fun _ => ?_)
      refine lv_iconst (v := 5) hx hb dX10_take_26 (by decide) ?_
      refine lv_goto (tgt := 38) hx hb dX10_take_27 (by decide) ?_
      exact gs_iret hx hb hr hlocks hM hS rfl ⟨hB_st_1, (Or.inr (Or.inl (⟨⟨by omega, by omega, by omega, by omega, by omega, by omega, by omega, by omega⟩, ((rtM.fr (frM.up est_1)).mp (by have h9 := hw_3_0; rw [ky] at h9; exact h9)), by decide, (frM.up est_1)⟩)))⟩ (by exact Nat.le_refl _) (by exact Nat.le_refl _) dX10_take_38
    · skip
      refine lv_if_eq (tgt := 30) hx hb dX10_take_23 (by decide) (fun _ => ?_) (fun h9 => absurd (by decide) h9)
      refine lv_aload_n hx hb dX10_take_30 rfl (lv_at hl 0 rfl) ?_
      refine lv_iload_n hx hb dX10_take_31 rfl (lv_at hl 1 rfl) ?_
      refine lv_iload_n hx hb dX10_take_32 rfl (lv_at hl 2 rfl) ?_
      refine lv_iload_n hx hb dX10_take_33 rfl (lv_at hl 3 rfl) ?_
      refine lv_iconst (v := 0) hx hb dX10_take_34 (by decide) ?_
      refine gs_calli (va_runV (As := [.int x, .int y, .int w, .int 0]) (rest := []) ⟨hx, hb, hml, hown, hts⟩ (m_enter0 l G cy sK sV ad H.size st_1 hB_st_1.1 x y w x.toInt y.toInt w.toInt rfl rfl rfl (by first | decide | omega) (by first | decide | omega) (by have hq0 : (st_1 0 0 37).toInt = ((st 0 0 37) : Int32).toInt := congrArg Int32.toInt (((congrFun (congrFun (congrFun est_1 0) 0) 37).trans (gU_other (by decide)))); have hb1 : (0 : Int) ≤ (st_1 0 0 37).toInt ∧ (st_1 0 0 37).toInt ≤ (300 : Int) := hB_st_1.1 0 0 37; omega)) ⟨(gz_cb (n := 4) hts gm_1240 gm_12 gm_1243 ⟨by decide +kernel, by decide +kernel, by decide +kernel⟩ ⟨Nat.le_of_ble_eq_true rfl, Nat.le_of_ble_eq_true rfl⟩), hts _ gm_1242, hts _ gs_55⟩ (gs_preV hK hov hE hI hM hm hS hA 0 0 (by decide) rfl rfl) rfl rfl hl.1 rfl (lv_room (Nat.le_of_ble_eq_true rfl)) dX10_take_35 ⟨Nat.le_of_ble_eq_true rfl, Nat.le_of_ble_eq_true rfl⟩) hm hS hA (fun r_4 st_4 H locs hw_4 hM hS => ?_)
      obtain ⟨n_4, hw_4⟩ := hw_4
      have hB_st_4 : gBN bM kM [0, 37, 400, 1600, 1700, 1800, 1900, 2000, 2100] st st_4 := hB_st_1.call n_4 (by decide)
      have hqhw_40 : (st_1 4 0 x.toNatClampNeg).toInt = ((st 4 0 x.toNatClampNeg) : Int32).toInt := congrArg Int32.toInt (((congrFun (congrFun (congrFun est_1 4) 0) x.toNatClampNeg).trans (congrFun (congrFun (gU_k (by decide)) 0) x.toNatClampNeg)))
      rcases hw_4 with ⟨rfl, hw_4_0, hw_4_1⟩ | ⟨rfl, hw_4_0, hw_4_1⟩
      · skip
        exact gs_iret hx hb hr hlocks hM hS rfl ⟨hB_st_4, (Or.inr (Or.inr (Or.inl (⟨⟨by omega, by omega, by omega, by omega, by omega, by omega, by omega, by omega⟩, (fun h7 => absurd ((rtM.fr (frM.up est_1)).mpr h7) (by have h9 := hw_3_0; rw [ky] at h9; exact h9)), (by have h9 := hw_4_0; rw [((frM.up est_1)).row (k := 4) (i := 0) (by decide)] at h9; omega), by decide, (by rw [hw_4_1]; exact (frM.up est_1))⟩))))⟩ (by exact Nat.le_refl _) (by exact Nat.le_refl _) dX10_take_38
      · skip
        exact gs_iret hx hb hr hlocks hM hS rfl ⟨hB_st_4, (Or.inr (Or.inr (Or.inr (⟨⟨by omega, by omega, by omega, by omega, by omega, by omega, by omega, by omega⟩, (fun h7 => absurd ((rtM.fr (frM.up est_1)).mpr h7) (by have h9 := hw_3_0; rw [ky] at h9; exact h9)), (by have h9 := hw_4_0; rw [((frM.up est_1)).row (k := 4) (i := 0) (by decide)] at h9; omega), by decide, enM.fr hw_4_1 (frM.up est_1)⟩))))⟩ (by exact Nat.le_refl _) (by exact Nat.le_refl _) dX10_take_38

set_option maxHeartbeats 4000000 in
set_option maxRecDepth 100000 in
/-- WellCourtModel.report -/
theorem m_report (l : Launch) (G : va_G) (cy : Nat → ClassId) (sK sV : Nat → Nat) (ad : Nat → Nat → Nat) (sz : Nat) (st : gS) (hB : gBd bM st) (x : Int32) (Xx : Int) (kx : x.toInt = Xx) : gsMi l yX10_report cX10_report 2 (some .boolean) ({ frames := 0, cells := 0, slots := 0, locals := 0 } : Room) G cy sK sV (shM cy ad) cnM ad sz [.ref (ad 0 0), .int x] st (fun (r : Int32) (u : gS) => gBN bM kM [0, 2100] st u ∧ ((r = 1 ∧ (0 ≤ Xx) ∧ (Xx < (st 0 0 37).toInt) ∧ ((st 21 0 x.toNatClampNeg).toInt < 0) ∧ (u 21 0 = upd (st 21 0) x.toNatClampNeg (st 0 0 7))) ∨ (r = 0 ∧ (Xx < 0 ∨ (st 0 0 37).toInt ≤ Xx ∨ 0 ≤ (st 21 0 x.toNatClampNeg).toInt) ∧ (frM st u)))) := by
  refine gs_start (fun A => gsQi G (shM cy ad) cnM ad _ A) (by decide) (Nat.le_of_ble_eq_true rfl) ?_
  intro p e s m below meth c A ls H hx hb hr hml hlocks hown hts hK hov hE hI hM hm hS hA hl
  have hl : lv_has ls 2 [(0, .ref (ad 0 0)), (1, .int x)] := hl
  have hB_st : gBN bM kM [0, 2100] st st := gBN.rf hB
  have b37 : (0 : Int) ≤ (st 0 0 37).toInt ∧ (st 0 0 37).toInt ≤ (300 : Int) := hB 0 0 37
  refine lv_aload_n hx hb dX10_report_0 rfl (lv_at hl 0 rfl) ?_
  refine lv_iconst (v := 0) hx hb dX10_report_1 (by decide) ?_
  refine gs_put (C := RX10) (T := TX10) (N := 59) (ty := .int) (val := .int 0) hx hb hts inX10 tyX10 tyX10_ok nmX10 hown hK hI hm hM hS 0 0 0 (by decide) rfl rfl (by decide) (hts _ gm_901) (fun _ h9 => h9) rfl (0 : Int32) rfl (by decide +kernel) rfl rfl (Nat.le_of_ble_eq_true rfl) dX10_report_2 (fun st_1 H locs est_1 hM hS => ?_)
  have hB_st_1 : gBN bM kM [0, 2100] st st_1 := by rw [est_1]; exact hB_st.up (show (0 : Nat) ∈ _ from by decide) (gi_lo _) (gi_hi _)
  refine lv_iload_n hx hb dX10_report_5 rfl (lv_at hl 1 rfl) ?_
  refine lv_if_lt (tgt := 26) hx hb dX10_report_6 (by decide) (fun c_2 => ?_) (fun c_2 => ?_)
  · have ic_2 := gz_lt (rfl : x.toInt = x.toInt) (by decide : (0 : Int32).toInt = 0) c_2
    refine lv_iconst (v := 0) hx hb dX10_report_26 (by decide) ?_
    exact gs_iret hx hb hr hlocks hM hS (by decide) ⟨hB_st_1, (Or.inr ⟨rfl, by omega, (frM.up est_1)⟩)⟩ (by exact Nat.le_refl _) (by exact Nat.le_refl _) dX10_report_27
  · have ic_2 := gz_nlt (rfl : x.toInt = x.toInt) (by decide : (0 : Int32).toInt = 0) c_2
    refine lv_iload_n hx hb dX10_report_9 rfl (lv_at hl 1 rfl) ?_
    refine lv_aload_n hx hb dX10_report_10 rfl (lv_at hl 0 rfl) ?_
    refine gs_get (C := RX10) (T := TX10) (N := 59) hx hb hts inX10 hown hK hM 0 0 37 (by decide) rfl rfl (by decide) (hts _ gm_938) (fun _ h9 => h9) rfl dX10_report_11 ?_
    refine lv_topi (fun x_3 ex_3 => ?_)
    have ex_3 : (st 0 0 37) = x_3 := Eq.symm (ex_3.trans ((congrFun (congrFun (congrFun est_1 0) 0) 37).trans (gU_other (by decide))))
    subst ex_3
    have bf_4 : (0 : Int) ≤ (st 0 0 37).toInt ∧ (st 0 0 37).toInt ≤ (300 : Int) := hB_st.1 0 0 37
    refine lv_icmp_ge (tgt := 26) hx hb dX10_report_14 (by decide) (fun c_5 => ?_) (fun c_5 => ?_)
    · have ic_5 := gz_le (rfl : (st 0 0 37).toInt = (st 0 0 37).toInt) (rfl : x.toInt = x.toInt) c_5
      refine lv_iconst (v := 0) hx hb dX10_report_26 (by decide) ?_
      exact gs_iret hx hb hr hlocks hM hS (by decide) ⟨hB_st_1, (Or.inr ⟨rfl, by omega, (frM.up est_1)⟩)⟩ (by exact Nat.le_refl _) (by exact Nat.le_refl _) dX10_report_27
    · have ic_5 := gz_nle (rfl : (st 0 0 37).toInt = (st 0 0 37).toInt) (rfl : x.toInt = x.toInt) c_5
      have lc_5 := gi_hi (st 0 0 37)
      refine lv_aload_n hx hb dX10_report_17 rfl (lv_at hl 0 rfl) ?_
      refine gs_get (C := RX10) (T := TX10) (N := 59) hx hb hts inX10 hown hK hM 0 0 36 (by decide) rfl rfl (by decide) (hts _ gm_937) (fun _ h9 => h9) rfl dX10_report_18 ?_
      refine lv_iload_n hx hb dX10_report_21 rfl (lv_at hl 1 rfl) ?_
      refine gs_iald hx hb hK hM 21 0 (by decide) rfl (vp_in_iff.mpr ⟨by omega, by omega⟩) dX10_report_22 ?_
      refine lv_topi (fun x_6 ex_6 => ?_)
      have qx_6 : x_6.toInt = (st_1 21 0 (x.toNatClampNeg)).toInt := congrArg Int32.toInt ex_6
      have rx_6 : x_6.toInt = ((st 21 0 (x.toNatClampNeg)) : Int32).toInt := by rw [ex_6]; exact congrArg Int32.toInt (((congrFun (congrFun (congrFun est_1 21) 0) (x.toNatClampNeg)).trans (congrFun (congrFun (gU_k (by decide)) 0) (x.toNatClampNeg))))
      refine lv_if_lt (tgt := 28) hx hb dX10_report_23 (by decide) (fun c_7 => ?_) (fun c_7 => ?_)
      · have ic_7 := gz_lt (rfl : x_6.toInt = x_6.toInt) (by decide : (0 : Int32).toInt = 0) c_7
        refine lv_aload_n hx hb dX10_report_28 rfl (lv_at hl 0 rfl) ?_
        refine gs_get (C := RX10) (T := TX10) (N := 59) hx hb hts inX10 hown hK hM 0 0 36 (by decide) rfl rfl (by decide) (hts _ gm_937) (fun _ h9 => h9) rfl dX10_report_29 ?_
        refine lv_iload_n hx hb dX10_report_32 rfl (lv_at hl 1 rfl) ?_
        refine lv_aload_n hx hb dX10_report_33 rfl (lv_at hl 0 rfl) ?_
        refine gs_get (C := RX10) (T := TX10) (N := 59) hx hb hts inX10 hown hK hM 0 0 7 (by decide) rfl rfl (by decide) (hts _ gm_908) (fun _ h9 => h9) rfl dX10_report_34 ?_
        refine lv_topi (fun x_8 ex_8 => ?_)
        have ex_8 : (st 0 0 7) = x_8 := Eq.symm (ex_8.trans ((congrFun (congrFun (congrFun est_1 0) 0) 7).trans (gU_other (by decide))))
        subst ex_8
        have bf_9 : (0 : Int) ≤ (st 0 0 7).toInt ∧ (st 0 0 7).toInt ≤ (199 : Int) := hB_st.1 0 0 7
        refine gs_iast hx hb hK hI hm hM hS 21 0 (by decide) (fun _ => rfl) (vp_in_iff.mpr ⟨by omega, by omega⟩) dX10_report_37 (fun st_10 H locs est_10 hM hS => ?_)
        have hB_st_10 : gBN bM kM [0, 2100] st st_10 := by rw [est_10]; exact hB_st_1.up (show (2100 : Nat) ∈ _ from by decide) (gi_lo _) (gi_hi _)
        refine lv_iconst (v := 1) hx hb dX10_report_38 (by decide) ?_
        exact gs_iret hx hb hr hlocks hM hS (by decide) ⟨hB_st_10, (Or.inl ⟨rfl, by omega, by omega, by omega, ((congrFun (congrFun est_10 21) 0).trans ((gU_at _ _ _ _ _).trans (congrArg (fun f9 => upd f9 (x.toNatClampNeg) ((st 0 0 7) : Int32)) ((congrFun (congrFun est_1 21) 0).trans ((congrFun (gU_k (by decide)) 0).trans rfl)))))⟩)⟩ (by exact Nat.le_refl _) (by exact Nat.le_refl _) dX10_report_39
      · have ic_7 := gz_nlt (rfl : x_6.toInt = x_6.toInt) (by decide : (0 : Int32).toInt = 0) c_7
        refine lv_iconst (v := 0) hx hb dX10_report_26 (by decide) ?_
        exact gs_iret hx hb hr hlocks hM hS (by decide) ⟨hB_st_1, (Or.inr ⟨rfl, by omega, (frM.up est_1)⟩)⟩ (by exact Nat.le_refl _) (by exact Nat.le_refl _) dX10_report_27

set_option maxHeartbeats 4000000 in
set_option maxRecDepth 100000 in
/-- WellCourtModel.drawn -/
theorem m_drawn (l : Launch) (G : va_G) (cy : Nat → ClassId) (sK sV : Nat → Nat) (ad : Nat → Nat → Nat) (sz : Nat) (st : gS) (hB : gBd bM st) (x : Int32) (y : Int32) (Xx : Int) (Xy : Int) (kx : x.toInt = Xx) (ky : y.toInt = Xy) : gsMi l yX10_drawn_ cX10_drawn_ 3 (some .int) ({ frames := 0, cells := 0, slots := 0, locals := 0 } : Room) G cy sK sV (shM cy ad) cnM ad sz [.ref (ad 0 0), .int x, .int y] st (fun (r : Int32) (u : gS) => gBN bM kM [0] st u ∧ ((((0 ≤ Xx ∧ Xx < (st 0 0 37).toInt ∧ 0 ≤ Xy ∧ Xy ≤ 5) ∧ (u 0 0 0).toInt = 0 ∧ r = st (16 + Xy.toNat) 0 x.toNatClampNeg) ∨ (¬ (0 ≤ Xx ∧ Xx < (st 0 0 37).toInt ∧ 0 ≤ Xy ∧ Xy ≤ 5) ∧ (u 0 0 0).toInt = 1)))) := by
  refine gs_start (fun A => gsQi G (shM cy ad) cnM ad _ A) (by decide) (Nat.le_of_ble_eq_true rfl) ?_
  intro p e s m below meth c A ls H hx hb hr hml hlocks hown hts hK hov hE hI hM hm hS hA hl
  have hl : lv_has ls 3 [(0, .ref (ad 0 0)), (1, .int x), (2, .int y)] := hl
  have hB_st : gBN bM kM [0] st st := gBN.rf hB
  have b37 : (0 : Int) ≤ (st 0 0 37).toInt ∧ (st 0 0 37).toInt ≤ (300 : Int) := hB 0 0 37
  refine lv_aload_n hx hb dX10_drawn__0 rfl (lv_at hl 0 rfl) ?_
  refine lv_iload_n hx hb dX10_drawn__1 rfl (lv_at hl 1 rfl) ?_
  refine lv_if_lt (tgt := 22) hx hb dX10_drawn__2 (by decide) (fun c_1 => ?_) (fun c_1 => ?_)
  · have ic_1 := gz_lt (rfl : x.toInt = x.toInt) (by decide : (0 : Int32).toInt = 0) c_1
    refine lv_iconst (v := 1) hx hb dX10_drawn__22 (by decide) ?_
    refine lv_goto (tgt := 27) hx hb dX10_drawn__23 (by decide) ?_
    refine gs_put (C := RX10) (T := TX10) (N := 59) (ty := .int) (val := .int 1) hx hb hts inX10 tyX10 tyX10_ok nmX10 hown hK hI hm hM hS 0 0 0 (by decide) rfl rfl (by decide) (hts _ gm_901) (fun _ h9 => h9) rfl (1 : Int32) rfl (by decide +kernel) rfl rfl (Nat.le_of_ble_eq_true rfl) dX10_drawn__27 (fun st_2 H locs est_2 hM hS => ?_)
    have hB_st_2 : gBN bM kM [0] st st_2 := by rw [est_2]; exact hB_st.up (show (0 : Nat) ∈ _ from by decide) (gi_lo _) (gi_hi _)
    refine lv_aload_n hx hb dX10_drawn__30 rfl (lv_at hl 0 rfl) ?_
    refine gs_get (C := RX10) (T := TX10) (N := 59) hx hb hts inX10 hown hK hM 0 0 0 (by decide) rfl rfl (by decide) (hts _ gm_901) (fun _ h9 => h9) rfl dX10_drawn__31 ?_
    refine lv_topi (fun x_3 ex_3 => ?_)
    have ex_3 : (1 : Int32) = x_3 := Eq.symm (ex_3.trans ((congrFun (congrFun (congrFun est_2 0) 0) 0).trans (gU_same _ _ _ _ _)))
    subst ex_3
    refine lv_iconst (v := 1) hx hb dX10_drawn__34 (by decide) ?_
    refine lv_icmp_ne (tgt := 40) hx hb dX10_drawn__35 (by decide) (fun h9 => absurd (by decide) h9) (fun _ => ?_)
    refine lv_iconst (v := 0) hx hb dX10_drawn__38 (by decide) ?_
    exact gs_iret hx hb hr hlocks hM hS rfl ⟨hB_st_2, (Or.inr ⟨by omega, (by have hl0 : (0 : Int32).toInt = 0 := (by decide); have hq1 : (st_2 0 0 0).toInt = 1 := (congrArg Int32.toInt (((congrFun (congrFun (congrFun est_2 0) 0) 0).trans (gU_same _ _ _ _ _)))).trans (by decide); omega)⟩)⟩ (by exact Nat.le_refl _) (by exact Nat.le_refl _) dX10_drawn__39
  · have ic_1 := gz_nlt (rfl : x.toInt = x.toInt) (by decide : (0 : Int32).toInt = 0) c_1
    refine lv_iload_n hx hb dX10_drawn__5 rfl (lv_at hl 1 rfl) ?_
    refine lv_aload_n hx hb dX10_drawn__6 rfl (lv_at hl 0 rfl) ?_
    refine gs_get (C := RX10) (T := TX10) (N := 59) hx hb hts inX10 hown hK hM 0 0 37 (by decide) rfl rfl (by decide) (hts _ gm_938) (fun _ h9 => h9) rfl dX10_drawn__7 ?_
    have bf_4 : (0 : Int) ≤ (st 0 0 37).toInt ∧ (st 0 0 37).toInt ≤ (300 : Int) := hB_st.1 0 0 37
    refine lv_icmp_ge (tgt := 22) hx hb dX10_drawn__10 (by decide) (fun c_5 => ?_) (fun c_5 => ?_)
    · have ic_5 := gz_le (rfl : (st 0 0 37).toInt = (st 0 0 37).toInt) (rfl : x.toInt = x.toInt) c_5
      refine lv_iconst (v := 1) hx hb dX10_drawn__22 (by decide) ?_
      refine lv_goto (tgt := 27) hx hb dX10_drawn__23 (by decide) ?_
      refine gs_put (C := RX10) (T := TX10) (N := 59) (ty := .int) (val := .int 1) hx hb hts inX10 tyX10 tyX10_ok nmX10 hown hK hI hm hM hS 0 0 0 (by decide) rfl rfl (by decide) (hts _ gm_901) (fun _ h9 => h9) rfl (1 : Int32) rfl (by decide +kernel) rfl rfl (Nat.le_of_ble_eq_true rfl) dX10_drawn__27 (fun st_6 H locs est_6 hM hS => ?_)
      have hB_st_6 : gBN bM kM [0] st st_6 := by rw [est_6]; exact hB_st.up (show (0 : Nat) ∈ _ from by decide) (gi_lo _) (gi_hi _)
      refine lv_aload_n hx hb dX10_drawn__30 rfl (lv_at hl 0 rfl) ?_
      refine gs_get (C := RX10) (T := TX10) (N := 59) hx hb hts inX10 hown hK hM 0 0 0 (by decide) rfl rfl (by decide) (hts _ gm_901) (fun _ h9 => h9) rfl dX10_drawn__31 ?_
      refine lv_topi (fun x_7 ex_7 => ?_)
      have ex_7 : (1 : Int32) = x_7 := Eq.symm (ex_7.trans ((congrFun (congrFun (congrFun est_6 0) 0) 0).trans (gU_same _ _ _ _ _)))
      subst ex_7
      refine lv_iconst (v := 1) hx hb dX10_drawn__34 (by decide) ?_
      refine lv_icmp_ne (tgt := 40) hx hb dX10_drawn__35 (by decide) (fun h9 => absurd (by decide) h9) (fun _ => ?_)
      refine lv_iconst (v := 0) hx hb dX10_drawn__38 (by decide) ?_
      exact gs_iret hx hb hr hlocks hM hS rfl ⟨hB_st_6, (Or.inr ⟨by omega, (by have hl0 : (0 : Int32).toInt = 0 := (by decide); have hq1 : (st_6 0 0 0).toInt = 1 := (congrArg Int32.toInt (((congrFun (congrFun (congrFun est_6 0) 0) 0).trans (gU_same _ _ _ _ _)))).trans (by decide); omega)⟩)⟩ (by exact Nat.le_refl _) (by exact Nat.le_refl _) dX10_drawn__39
    · have ic_5 := gz_nle (rfl : (st 0 0 37).toInt = (st 0 0 37).toInt) (rfl : x.toInt = x.toInt) c_5
      have lc_5 := gi_hi (st 0 0 37)
      refine lv_iload_n hx hb dX10_drawn__13 rfl (lv_at hl 2 rfl) ?_
      refine lv_if_lt (tgt := 22) hx hb dX10_drawn__14 (by decide) (fun c_8 => ?_) (fun c_8 => ?_)
      · have ic_8 := gz_lt (rfl : y.toInt = y.toInt) (by decide : (0 : Int32).toInt = 0) c_8
        refine lv_iconst (v := 1) hx hb dX10_drawn__22 (by decide) ?_
        refine lv_goto (tgt := 27) hx hb dX10_drawn__23 (by decide) ?_
        refine gs_put (C := RX10) (T := TX10) (N := 59) (ty := .int) (val := .int 1) hx hb hts inX10 tyX10 tyX10_ok nmX10 hown hK hI hm hM hS 0 0 0 (by decide) rfl rfl (by decide) (hts _ gm_901) (fun _ h9 => h9) rfl (1 : Int32) rfl (by decide +kernel) rfl rfl (Nat.le_of_ble_eq_true rfl) dX10_drawn__27 (fun st_9 H locs est_9 hM hS => ?_)
        have hB_st_9 : gBN bM kM [0] st st_9 := by rw [est_9]; exact hB_st.up (show (0 : Nat) ∈ _ from by decide) (gi_lo _) (gi_hi _)
        refine lv_aload_n hx hb dX10_drawn__30 rfl (lv_at hl 0 rfl) ?_
        refine gs_get (C := RX10) (T := TX10) (N := 59) hx hb hts inX10 hown hK hM 0 0 0 (by decide) rfl rfl (by decide) (hts _ gm_901) (fun _ h9 => h9) rfl dX10_drawn__31 ?_
        refine lv_topi (fun x_10 ex_10 => ?_)
        have ex_10 : (1 : Int32) = x_10 := Eq.symm (ex_10.trans ((congrFun (congrFun (congrFun est_9 0) 0) 0).trans (gU_same _ _ _ _ _)))
        subst ex_10
        refine lv_iconst (v := 1) hx hb dX10_drawn__34 (by decide) ?_
        refine lv_icmp_ne (tgt := 40) hx hb dX10_drawn__35 (by decide) (fun h9 => absurd (by decide) h9) (fun _ => ?_)
        refine lv_iconst (v := 0) hx hb dX10_drawn__38 (by decide) ?_
        exact gs_iret hx hb hr hlocks hM hS rfl ⟨hB_st_9, (Or.inr ⟨by omega, (by have hl0 : (0 : Int32).toInt = 0 := (by decide); have hq1 : (st_9 0 0 0).toInt = 1 := (congrArg Int32.toInt (((congrFun (congrFun (congrFun est_9 0) 0) 0).trans (gU_same _ _ _ _ _)))).trans (by decide); omega)⟩)⟩ (by exact Nat.le_refl _) (by exact Nat.le_refl _) dX10_drawn__39
      · have ic_8 := gz_nlt (rfl : y.toInt = y.toInt) (by decide : (0 : Int32).toInt = 0) c_8
        refine lv_iload_n hx hb dX10_drawn__17 rfl (lv_at hl 2 rfl) ?_
        refine lv_iconst (v := 5) hx hb dX10_drawn__18 (by decide) ?_
        refine lv_icmp_le (tgt := 26) hx hb dX10_drawn__19 (by decide) (fun c_11 => ?_) (fun c_11 => ?_)
        · have ic_11 := gz_le (rfl : y.toInt = y.toInt) (by decide : (5 : Int32).toInt = 5) c_11
          refine lv_iconst (v := 0) hx hb dX10_drawn__26 (by decide) ?_
          refine gs_put (C := RX10) (T := TX10) (N := 59) (ty := .int) (val := .int 0) hx hb hts inX10 tyX10 tyX10_ok nmX10 hown hK hI hm hM hS 0 0 0 (by decide) rfl rfl (by decide) (hts _ gm_901) (fun _ h9 => h9) rfl (0 : Int32) rfl (by decide +kernel) rfl rfl (Nat.le_of_ble_eq_true rfl) dX10_drawn__27 (fun st_12 H locs est_12 hM hS => ?_)
          have hB_st_12 : gBN bM kM [0] st st_12 := by rw [est_12]; exact hB_st.up (show (0 : Nat) ∈ _ from by decide) (gi_lo _) (gi_hi _)
          refine lv_aload_n hx hb dX10_drawn__30 rfl (lv_at hl 0 rfl) ?_
          refine gs_get (C := RX10) (T := TX10) (N := 59) hx hb hts inX10 hown hK hM 0 0 0 (by decide) rfl rfl (by decide) (hts _ gm_901) (fun _ h9 => h9) rfl dX10_drawn__31 ?_
          refine lv_topi (fun x_13 ex_13 => ?_)
          have ex_13 : (0 : Int32) = x_13 := Eq.symm (ex_13.trans ((congrFun (congrFun (congrFun est_12 0) 0) 0).trans (gU_same _ _ _ _ _)))
          subst ex_13
          refine lv_iconst (v := 1) hx hb dX10_drawn__34 (by decide) ?_
          refine lv_icmp_ne (tgt := 40) hx hb dX10_drawn__35 (by decide) (fun _ => ?_) (fun h9 => absurd h9 (by decide))
          refine lv_iload_n hx hb dX10_drawn__40 rfl (lv_at hl 2 rfl) ?_
          refine lv_if_ne (tgt := 53) hx hb dX10_drawn__41 (by decide) (fun c_14 => ?_) (fun c_14 => ?_)
          · have ic_14 := gz_ne (rfl : y.toInt = y.toInt) (by decide : (0 : Int32).toInt = 0) c_14
            refine lv_iload_n hx hb dX10_drawn__53 rfl (lv_at hl 2 rfl) ?_
            refine lv_iconst (v := 1) hx hb dX10_drawn__54 (by decide) ?_
            refine lv_icmp_ne (tgt := 67) hx hb dX10_drawn__55 (by decide) (fun c_15 => ?_) (fun c_15 => ?_)
            · have ic_15 := gz_ne (rfl : y.toInt = y.toInt) (by decide : (1 : Int32).toInt = 1) c_15
              refine lv_iload_n hx hb dX10_drawn__67 rfl (lv_at hl 2 rfl) ?_
              refine lv_iconst (v := 2) hx hb dX10_drawn__68 (by decide) ?_
              refine lv_icmp_ne (tgt := 81) hx hb dX10_drawn__69 (by decide) (fun c_16 => ?_) (fun c_16 => ?_)
              · have ic_16 := gz_ne (rfl : y.toInt = y.toInt) (by decide : (2 : Int32).toInt = 2) c_16
                refine lv_iload_n hx hb dX10_drawn__81 rfl (lv_at hl 2 rfl) ?_
                refine lv_iconst (v := 3) hx hb dX10_drawn__82 (by decide) ?_
                refine lv_icmp_ne (tgt := 95) hx hb dX10_drawn__83 (by decide) (fun c_17 => ?_) (fun c_17 => ?_)
                · have ic_17 := gz_ne (rfl : y.toInt = y.toInt) (by decide : (3 : Int32).toInt = 3) c_17
                  refine lv_iload_n hx hb dX10_drawn__95 rfl (lv_at hl 2 rfl) ?_
                  refine lv_iconst (v := 4) hx hb dX10_drawn__96 (by decide) ?_
                  refine lv_icmp_ne (tgt := 109) hx hb dX10_drawn__97 (by decide) (fun c_18 => ?_) (fun c_18 => ?_)
                  · have ic_18 := gz_ne (rfl : y.toInt = y.toInt) (by decide : (4 : Int32).toInt = 4) c_18
                    refine lv_aload_n hx hb dX10_drawn__109 rfl (lv_at hl 0 rfl) ?_
                    refine gs_get (C := RX10) (T := TX10) (N := 59) hx hb hts inX10 hown hK hM 0 0 36 (by decide) rfl rfl (by decide) (hts _ gm_937) (fun _ h9 => h9) rfl dX10_drawn__110 ?_
                    refine lv_iload_n hx hb dX10_drawn__113 rfl (lv_at hl 1 rfl) ?_
                    refine gs_iald hx hb hK hM 21 0 (by decide) rfl (vp_in_iff.mpr ⟨by omega, by omega⟩) dX10_drawn__114 ?_
                    refine lv_topi (fun x_19 ex_19 => ?_)
                    have qx_19 : x_19.toInt = (st_12 21 0 (x.toNatClampNeg)).toInt := congrArg Int32.toInt ex_19
                    have rx_19 : x_19.toInt = ((st 21 0 (x.toNatClampNeg)) : Int32).toInt := by rw [ex_19]; exact congrArg Int32.toInt (((congrFun (congrFun (congrFun est_12 21) 0) (x.toNatClampNeg)).trans (congrFun (congrFun (gU_k (by decide)) 0) (x.toNatClampNeg))))
                    exact gs_iret hx hb hr hlocks hM hS rfl ⟨hB_st_12, (Or.inl ⟨⟨by omega, by omega, by omega, by omega⟩, (by have hq0 : (st_12 0 0 0).toInt = 0 := (congrArg Int32.toInt (((congrFun (congrFun (congrFun est_12 0) 0) 0).trans (gU_same _ _ _ _ _)))).trans (by decide); omega), (by rw [show Xy.toNat = 5 by omega]; exact (ex_19.trans (congrFun ((congrFun (congrFun est_12 21) 0).trans ((congrFun (gU_k (by decide)) 0).trans rfl)) _)))⟩)⟩ (by exact Nat.le_refl _) (by exact Nat.le_refl _) dX10_drawn__115
                  · have ic_18 := gz_eqn (rfl : y.toInt = y.toInt) (by decide : (4 : Int32).toInt = 4) c_18
                    refine lv_aload_n hx hb dX10_drawn__100 rfl (lv_at hl 0 rfl) ?_
                    refine gs_get (C := RX10) (T := TX10) (N := 59) hx hb hts inX10 hown hK hM 0 0 35 (by decide) rfl rfl (by decide) (hts _ gm_936) (fun _ h9 => h9) rfl dX10_drawn__101 ?_
                    refine lv_iload_n hx hb dX10_drawn__104 rfl (lv_at hl 1 rfl) ?_
                    refine gs_iald hx hb hK hM 20 0 (by decide) rfl (vp_in_iff.mpr ⟨by omega, by omega⟩) dX10_drawn__105 ?_
                    refine lv_topi (fun x_20 ex_20 => ?_)
                    have qx_20 : x_20.toInt = (st_12 20 0 (x.toNatClampNeg)).toInt := congrArg Int32.toInt ex_20
                    have rx_20 : x_20.toInt = ((st 20 0 (x.toNatClampNeg)) : Int32).toInt := by rw [ex_20]; exact congrArg Int32.toInt (((congrFun (congrFun (congrFun est_12 20) 0) (x.toNatClampNeg)).trans (congrFun (congrFun (gU_k (by decide)) 0) (x.toNatClampNeg))))
                    refine lv_goto (tgt := 115) hx hb dX10_drawn__106 (by decide) ?_
                    exact gs_iret hx hb hr hlocks hM hS rfl ⟨hB_st_12, (Or.inl ⟨⟨by omega, by omega, by omega, by omega⟩, (by have hq0 : (st_12 0 0 0).toInt = 0 := (congrArg Int32.toInt (((congrFun (congrFun (congrFun est_12 0) 0) 0).trans (gU_same _ _ _ _ _)))).trans (by decide); omega), (by rw [show Xy.toNat = 4 by omega]; exact (ex_20.trans (congrFun ((congrFun (congrFun est_12 20) 0).trans ((congrFun (gU_k (by decide)) 0).trans rfl)) _)))⟩)⟩ (by exact Nat.le_refl _) (by exact Nat.le_refl _) dX10_drawn__115
                · have ic_17 := gz_eqn (rfl : y.toInt = y.toInt) (by decide : (3 : Int32).toInt = 3) c_17
                  refine lv_aload_n hx hb dX10_drawn__86 rfl (lv_at hl 0 rfl) ?_
                  refine gs_get (C := RX10) (T := TX10) (N := 59) hx hb hts inX10 hown hK hM 0 0 34 (by decide) rfl rfl (by decide) (hts _ gm_935) (fun _ h9 => h9) rfl dX10_drawn__87 ?_
                  refine lv_iload_n hx hb dX10_drawn__90 rfl (lv_at hl 1 rfl) ?_
                  refine gs_iald hx hb hK hM 19 0 (by decide) rfl (vp_in_iff.mpr ⟨by omega, by omega⟩) dX10_drawn__91 ?_
                  refine lv_topi (fun x_21 ex_21 => ?_)
                  have qx_21 : x_21.toInt = (st_12 19 0 (x.toNatClampNeg)).toInt := congrArg Int32.toInt ex_21
                  have rx_21 : x_21.toInt = ((st 19 0 (x.toNatClampNeg)) : Int32).toInt := by rw [ex_21]; exact congrArg Int32.toInt (((congrFun (congrFun (congrFun est_12 19) 0) (x.toNatClampNeg)).trans (congrFun (congrFun (gU_k (by decide)) 0) (x.toNatClampNeg))))
                  refine lv_goto (tgt := 115) hx hb dX10_drawn__92 (by decide) ?_
                  exact gs_iret hx hb hr hlocks hM hS rfl ⟨hB_st_12, (Or.inl ⟨⟨by omega, by omega, by omega, by omega⟩, (by have hq0 : (st_12 0 0 0).toInt = 0 := (congrArg Int32.toInt (((congrFun (congrFun (congrFun est_12 0) 0) 0).trans (gU_same _ _ _ _ _)))).trans (by decide); omega), (by rw [show Xy.toNat = 3 by omega]; exact (ex_21.trans (congrFun ((congrFun (congrFun est_12 19) 0).trans ((congrFun (gU_k (by decide)) 0).trans rfl)) _)))⟩)⟩ (by exact Nat.le_refl _) (by exact Nat.le_refl _) dX10_drawn__115
              · have ic_16 := gz_eqn (rfl : y.toInt = y.toInt) (by decide : (2 : Int32).toInt = 2) c_16
                refine lv_aload_n hx hb dX10_drawn__72 rfl (lv_at hl 0 rfl) ?_
                refine gs_get (C := RX10) (T := TX10) (N := 59) hx hb hts inX10 hown hK hM 0 0 33 (by decide) rfl rfl (by decide) (hts _ gm_934) (fun _ h9 => h9) rfl dX10_drawn__73 ?_
                refine lv_iload_n hx hb dX10_drawn__76 rfl (lv_at hl 1 rfl) ?_
                refine gs_iald hx hb hK hM 18 0 (by decide) rfl (vp_in_iff.mpr ⟨by omega, by omega⟩) dX10_drawn__77 ?_
                refine lv_topi (fun x_22 ex_22 => ?_)
                have qx_22 : x_22.toInt = (st_12 18 0 (x.toNatClampNeg)).toInt := congrArg Int32.toInt ex_22
                have rx_22 : x_22.toInt = ((st 18 0 (x.toNatClampNeg)) : Int32).toInt := by rw [ex_22]; exact congrArg Int32.toInt (((congrFun (congrFun (congrFun est_12 18) 0) (x.toNatClampNeg)).trans (congrFun (congrFun (gU_k (by decide)) 0) (x.toNatClampNeg))))
                refine lv_goto (tgt := 115) hx hb dX10_drawn__78 (by decide) ?_
                exact gs_iret hx hb hr hlocks hM hS rfl ⟨hB_st_12, (Or.inl ⟨⟨by omega, by omega, by omega, by omega⟩, (by have hq0 : (st_12 0 0 0).toInt = 0 := (congrArg Int32.toInt (((congrFun (congrFun (congrFun est_12 0) 0) 0).trans (gU_same _ _ _ _ _)))).trans (by decide); omega), (by rw [show Xy.toNat = 2 by omega]; exact (ex_22.trans (congrFun ((congrFun (congrFun est_12 18) 0).trans ((congrFun (gU_k (by decide)) 0).trans rfl)) _)))⟩)⟩ (by exact Nat.le_refl _) (by exact Nat.le_refl _) dX10_drawn__115
            · have ic_15 := gz_eqn (rfl : y.toInt = y.toInt) (by decide : (1 : Int32).toInt = 1) c_15
              refine lv_aload_n hx hb dX10_drawn__58 rfl (lv_at hl 0 rfl) ?_
              refine gs_get (C := RX10) (T := TX10) (N := 59) hx hb hts inX10 hown hK hM 0 0 32 (by decide) rfl rfl (by decide) (hts _ gm_933) (fun _ h9 => h9) rfl dX10_drawn__59 ?_
              refine lv_iload_n hx hb dX10_drawn__62 rfl (lv_at hl 1 rfl) ?_
              refine gs_iald hx hb hK hM 17 0 (by decide) rfl (vp_in_iff.mpr ⟨by omega, by omega⟩) dX10_drawn__63 ?_
              refine lv_topi (fun x_23 ex_23 => ?_)
              have qx_23 : x_23.toInt = (st_12 17 0 (x.toNatClampNeg)).toInt := congrArg Int32.toInt ex_23
              have rx_23 : x_23.toInt = ((st 17 0 (x.toNatClampNeg)) : Int32).toInt := by rw [ex_23]; exact congrArg Int32.toInt (((congrFun (congrFun (congrFun est_12 17) 0) (x.toNatClampNeg)).trans (congrFun (congrFun (gU_k (by decide)) 0) (x.toNatClampNeg))))
              refine lv_goto (tgt := 115) hx hb dX10_drawn__64 (by decide) ?_
              exact gs_iret hx hb hr hlocks hM hS rfl ⟨hB_st_12, (Or.inl ⟨⟨by omega, by omega, by omega, by omega⟩, (by have hq0 : (st_12 0 0 0).toInt = 0 := (congrArg Int32.toInt (((congrFun (congrFun (congrFun est_12 0) 0) 0).trans (gU_same _ _ _ _ _)))).trans (by decide); omega), (by rw [show Xy.toNat = 1 by omega]; exact (ex_23.trans (congrFun ((congrFun (congrFun est_12 17) 0).trans ((congrFun (gU_k (by decide)) 0).trans rfl)) _)))⟩)⟩ (by exact Nat.le_refl _) (by exact Nat.le_refl _) dX10_drawn__115
          · have ic_14 := gz_eqn (rfl : y.toInt = y.toInt) (by decide : (0 : Int32).toInt = 0) c_14
            refine lv_aload_n hx hb dX10_drawn__44 rfl (lv_at hl 0 rfl) ?_
            refine gs_get (C := RX10) (T := TX10) (N := 59) hx hb hts inX10 hown hK hM 0 0 31 (by decide) rfl rfl (by decide) (hts _ gm_932) (fun _ h9 => h9) rfl dX10_drawn__45 ?_
            refine lv_iload_n hx hb dX10_drawn__48 rfl (lv_at hl 1 rfl) ?_
            refine gs_iald hx hb hK hM 16 0 (by decide) rfl (vp_in_iff.mpr ⟨by omega, by omega⟩) dX10_drawn__49 ?_
            refine lv_topi (fun x_24 ex_24 => ?_)
            have qx_24 : x_24.toInt = (st_12 16 0 (x.toNatClampNeg)).toInt := congrArg Int32.toInt ex_24
            have rx_24 : x_24.toInt = ((st 16 0 (x.toNatClampNeg)) : Int32).toInt := by rw [ex_24]; exact congrArg Int32.toInt (((congrFun (congrFun (congrFun est_12 16) 0) (x.toNatClampNeg)).trans (congrFun (congrFun (gU_k (by decide)) 0) (x.toNatClampNeg))))
            refine lv_goto (tgt := 115) hx hb dX10_drawn__50 (by decide) ?_
            exact gs_iret hx hb hr hlocks hM hS rfl ⟨hB_st_12, (Or.inl ⟨⟨by omega, by omega, by omega, by omega⟩, (by have hq0 : (st_12 0 0 0).toInt = 0 := (congrArg Int32.toInt (((congrFun (congrFun (congrFun est_12 0) 0) 0).trans (gU_same _ _ _ _ _)))).trans (by decide); omega), (by rw [show Xy.toNat = 0 by omega]; exact (ex_24.trans (congrFun ((congrFun (congrFun est_12 16) 0).trans ((congrFun (gU_k (by decide)) 0).trans rfl)) _)))⟩)⟩ (by exact Nat.le_refl _) (by exact Nat.le_refl _) dX10_drawn__115
        · have ic_11 := gz_nle (rfl : y.toInt = y.toInt) (by decide : (5 : Int32).toInt = 5) c_11
          refine lv_iconst (v := 1) hx hb dX10_drawn__22 (by decide) ?_
          refine lv_goto (tgt := 27) hx hb dX10_drawn__23 (by decide) ?_
          refine gs_put (C := RX10) (T := TX10) (N := 59) (ty := .int) (val := .int 1) hx hb hts inX10 tyX10 tyX10_ok nmX10 hown hK hI hm hM hS 0 0 0 (by decide) rfl rfl (by decide) (hts _ gm_901) (fun _ h9 => h9) rfl (1 : Int32) rfl (by decide +kernel) rfl rfl (Nat.le_of_ble_eq_true rfl) dX10_drawn__27 (fun st_25 H locs est_25 hM hS => ?_)
          have hB_st_25 : gBN bM kM [0] st st_25 := by rw [est_25]; exact hB_st.up (show (0 : Nat) ∈ _ from by decide) (gi_lo _) (gi_hi _)
          refine lv_aload_n hx hb dX10_drawn__30 rfl (lv_at hl 0 rfl) ?_
          refine gs_get (C := RX10) (T := TX10) (N := 59) hx hb hts inX10 hown hK hM 0 0 0 (by decide) rfl rfl (by decide) (hts _ gm_901) (fun _ h9 => h9) rfl dX10_drawn__31 ?_
          refine lv_topi (fun x_26 ex_26 => ?_)
          have ex_26 : (1 : Int32) = x_26 := Eq.symm (ex_26.trans ((congrFun (congrFun (congrFun est_25 0) 0) 0).trans (gU_same _ _ _ _ _)))
          subst ex_26
          refine lv_iconst (v := 1) hx hb dX10_drawn__34 (by decide) ?_
          refine lv_icmp_ne (tgt := 40) hx hb dX10_drawn__35 (by decide) (fun h9 => absurd (by decide) h9) (fun _ => ?_)
          refine lv_iconst (v := 0) hx hb dX10_drawn__38 (by decide) ?_
          exact gs_iret hx hb hr hlocks hM hS rfl ⟨hB_st_25, (Or.inr ⟨by omega, (by have hl0 : (0 : Int32).toInt = 0 := (by decide); have hq1 : (st_25 0 0 0).toInt = 1 := (congrArg Int32.toInt (((congrFun (congrFun (congrFun est_25 0) 0) 0).trans (gU_same _ _ _ _ _)))).trans (by decide); omega)⟩)⟩ (by exact Nat.le_refl _) (by exact Nat.le_refl _) dX10_drawn__39
