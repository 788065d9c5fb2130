theorem gm_9 : (Jvm.Cond.initialized "WellCourt$Flock") ∈ gz_T := gz_at 9 (by decide +kernel) rfl
theorem gm_38 : (Jvm.Cond.fieldLink "WellCourt$Tape" (9 : Nat) "WellCourt$Tape" "bytes" "[B") ∈ gz_T := gz_at 38 (by decide +kernel) rfl
theorem gm_39 : (Jvm.Cond.fieldLink "WellCourt$Tape" (15 : Nat) "WellCourt$Tape" "size" "I") ∈ gz_T := gz_at 39 (by decide +kernel) rfl
theorem gm_705 : (Jvm.Cond.instanceMethod ({ cls := "WellCourt$Flock", name := "isThere", desc := "(I)Z" } : Jvm.MethodName)) ∈ gz_T := gz_at 705 (by decide +kernel) rfl
theorem gm_706 : (Jvm.Cond.selects "WellCourt$Flock" ({ cls := "WellCourt$Flock", name := "isThere", desc := "(I)Z" } : Jvm.MethodName) ({ cls := "WellCourt$Flock", name := "isThere", desc := "(I)Z" } : Jvm.MethodName)) ∈ gz_T := gz_at 706 (by decide +kernel) rfl
theorem gm_707 : (Jvm.Cond.code ({ cls := "WellCourt$Flock", name := "isThere", desc := "(I)Z" } : Jvm.MethodName) prog_4_method_3_code (2 : Nat) (Option.some Jvm.ClassFile.FieldType.boolean)) ∈ gz_T := gz_at 707 (by decide +kernel) rfl
theorem gm_733 : (Jvm.Cond.methodLink "WellCourt$Land" (23 : Nat) ({ cls := "WellCourt$Land", name := "isThere", desc := "(I)Z" } : Jvm.MethodName)) ∈ gz_T := gz_at 733 (by decide +kernel) rfl
theorem gm_738 : (Jvm.Cond.methodLink "WellCourt$Flock" (33 : Nat) ({ cls := "WellCourt$Flock", name := "isThere", desc := "(I)Z" } : Jvm.MethodName)) ∈ gz_T := gz_at 738 (by decide +kernel) rfl
theorem inX8 : ∀ w ∈ u_ws RX8 TX8 2, w ∈ gz_T := gz_inX [41, 43] (by decide +kernel) (by decide +kernel)
theorem dX2_size_0 : decode cX2_size 0 = .ok (.iconst 0, 1) := by decide +kernel
theorem dX2_size_1 : decode cX2_size 1 = .ok (.istore_n 1, 1) := by decide +kernel
theorem dX2_size_2 : decode cX2_size 2 = .ok (.iconst 0, 1) := by decide +kernel
theorem dX2_size_3 : decode cX2_size 3 = .ok (.istore_n 2, 1) := by decide +kernel
theorem dX2_size_4 : decode cX2_size 4 = .ok (.iload_n 2, 1) := by decide +kernel
theorem dX2_size_5 : decode cX2_size 5 = .ok (.iconst 4, 1) := by decide +kernel
theorem dX2_size_6 : decode cX2_size 6 = .ok (.if_icmp .ge 25, 3) := by decide +kernel
theorem dX2_size_9 : decode cX2_size 9 = .ok (.iload_n 1, 1) := by decide +kernel
theorem dX2_size_10 : decode cX2_size 10 = .ok (.aload_n 0, 1) := by decide +kernel
theorem dX2_size_11 : decode cX2_size 11 = .ok (.iload_n 2, 1) := by decide +kernel
theorem dX2_size_12 : decode cX2_size 12 = .ok (.invokevirtual 33, 3) := by decide +kernel
theorem dX2_size_15 : decode cX2_size 15 = .ok (.ifCond .eq 7, 3) := by decide +kernel
theorem dX2_size_18 : decode cX2_size 18 = .ok (.iconst 1, 1) := by decide +kernel
theorem dX2_size_19 : decode cX2_size 19 = .ok (.goto 4, 3) := by decide +kernel
theorem dX2_size_22 : decode cX2_size 22 = .ok (.iconst 0, 1) := by decide +kernel
theorem dX2_size_23 : decode cX2_size 23 = .ok (.iadd, 1) := by decide +kernel
theorem dX2_size_24 : decode cX2_size 24 = .ok (.istore_n 1, 1) := by decide +kernel
theorem dX2_size_25 : decode cX2_size 25 = .ok (.iinc 2 1, 3) := by decide +kernel
theorem dX2_size_28 : decode cX2_size 28 = .ok (.goto (-24), 3) := by decide +kernel
theorem dX2_size_31 : decode cX2_size 31 = .ok (.iload_n 1, 1) := by decide +kernel
theorem dX2_size_32 : decode cX2_size 32 = .ok (.ireturn, 1) := by decide +kernel
theorem dX3_size_0 : decode cX3_size 0 = .ok (.iconst 0, 1) := by decide +kernel
theorem dX3_size_1 : decode cX3_size 1 = .ok (.istore_n 1, 1) := by decide +kernel
theorem dX3_size_2 : decode cX3_size 2 = .ok (.iconst 0, 1) := by decide +kernel
theorem dX3_size_3 : decode cX3_size 3 = .ok (.istore_n 2, 1) := by decide +kernel
theorem dX3_size_4 : decode cX3_size 4 = .ok (.iload_n 2, 1) := by decide +kernel
theorem dX3_size_5 : decode cX3_size 5 = .ok (.bipush 6, 2) := by decide +kernel
theorem dX3_size_7 : decode cX3_size 7 = .ok (.if_icmp .ge 25, 3) := by decide +kernel
theorem dX3_size_10 : decode cX3_size 10 = .ok (.iload_n 1, 1) := by decide +kernel
theorem dX3_size_11 : decode cX3_size 11 = .ok (.aload_n 0, 1) := by decide +kernel
theorem dX3_size_12 : decode cX3_size 12 = .ok (.iload_n 2, 1) := by decide +kernel
theorem dX3_size_13 : decode cX3_size 13 = .ok (.invokevirtual 23, 3) := by decide +kernel
theorem dX3_size_16 : decode cX3_size 16 = .ok (.ifCond .eq 7, 3) := by decide +kernel
theorem dX3_size_19 : decode cX3_size 19 = .ok (.iconst 1, 1) := by decide +kernel
theorem dX3_size_20 : decode cX3_size 20 = .ok (.goto 4, 3) := by decide +kernel
theorem dX3_size_23 : decode cX3_size 23 = .ok (.iconst 0, 1) := by decide +kernel
theorem dX3_size_24 : decode cX3_size 24 = .ok (.iadd, 1) := by decide +kernel
theorem dX3_size_25 : decode cX3_size 25 = .ok (.istore_n 1, 1) := by decide +kernel
theorem dX3_size_26 : decode cX3_size 26 = .ok (.iinc 2 1, 3) := by decide +kernel
theorem dX3_size_29 : decode cX3_size 29 = .ok (.goto (-25), 3) := by decide +kernel
theorem dX3_size_32 : decode cX3_size 32 = .ok (.iload_n 1, 1) := by decide +kernel
theorem dX3_size_33 : decode cX3_size 33 = .ok (.ireturn, 1) := by decide +kernel
theorem dX8_byteAt_0 : decode cX8_byteAt 0 = .ok (.iload_n 1, 1) := by decide +kernel
theorem dX8_byteAt_1 : decode cX8_byteAt 1 = .ok (.ifCond .lt 11, 3) := by decide +kernel
theorem dX8_byteAt_4 : decode cX8_byteAt 4 = .ok (.iload_n 1, 1) := by decide +kernel
theorem dX8_byteAt_5 : decode cX8_byteAt 5 = .ok (.aload_n 0, 1) := by decide +kernel
theorem dX8_byteAt_6 : decode cX8_byteAt 6 = .ok (.getfield 15, 3) := by decide +kernel
theorem dX8_byteAt_9 : decode cX8_byteAt 9 = .ok (.if_icmp .lt 7, 3) := by decide +kernel
theorem dX8_byteAt_12 : decode cX8_byteAt 12 = .ok (.iconst (-1), 1) := by decide +kernel
theorem dX8_byteAt_13 : decode cX8_byteAt 13 = .ok (.goto 13, 3) := by decide +kernel
theorem dX8_byteAt_16 : decode cX8_byteAt 16 = .ok (.aload_n 0, 1) := by decide +kernel
theorem dX8_byteAt_17 : decode cX8_byteAt 17 = .ok (.getfield 9, 3) := by decide +kernel
theorem dX8_byteAt_20 : decode cX8_byteAt 20 = .ok (.iload_n 1, 1) := by decide +kernel
theorem dX8_byteAt_21 : decode cX8_byteAt 21 = .ok (.baload, 1) := by decide +kernel
theorem dX8_byteAt_22 : decode cX8_byteAt 22 = .ok (.sipush 255, 3) := by decide +kernel
theorem dX8_byteAt_25 : decode cX8_byteAt 25 = .ok (.iand, 1) := by decide +kernel
theorem dX8_byteAt_26 : decode cX8_byteAt 26 = .ok (.ireturn, 1) := by decide +kernel
set_option maxHeartbeats 4000000 in
set_option maxRecDepth 100000 in
/-- WellCourt$Land.size -/
theorem s_X3_size (l : Launch) (G : va_G) (cy : Nat → ClassId) (sK sV : Nat → Nat) (ad : Nat → Nat → Nat) (sz : Nat) (st : gS)       : gsMi l yX3_size cX3_size 3 (some .int) ({ frames := 1, cells := 0, slots := 0, locals := 21 } : Room) G cy sK sV (shX cy ad) cnX ad sz [.ref (ad 4 0)] st (fun (r : Int32) (u : gS) => gN [] st u ∧ (True)) := by
  refine gs_start (fun A => gsQi G (shX cy ad) cnX ad _ A) (by decide) (Nat.le_of_ble_eq_true rfl) ?_
  intro p e s m below meth c A ls H hx hb hr hml hlocks hown hts hK hov hE hI hM hm hS hA hl
  have hl : lv_has ls 3 [(0, .ref (ad 4 0))] := hl
  refine lv_iconst (v := 0) hx hb dX3_size_0 (by decide) ?_
  refine lv_istore_n (lv' := [(1, .int 0), (0, .ref (ad 4 0))]) hx hb dX3_size_1 rfl hl (by decide) rfl (fun ls hl => ?_)
  refine lv_iconst (v := 0) hx hb dX3_size_2 (by decide) ?_
  refine lv_istore_n (lv' := [(2, .int 0), (1, .int 0), (0, .ref (ad 4 0))]) hx hb dX3_size_3 rfl hl (by decide) rfl (fun ls hl => ?_)
  refine lv_iload_n hx hb dX3_size_4 rfl (lv_at hl 0 rfl) ?_
  refine lv_bipush (v := 6) hx hb dX3_size_5 (by decide) ?_
  refine lv_icmp_ge (tgt := 32) hx hb dX3_size_7 (by decide) (fun h9 => absurd h9 (by decide)) (fun _ => ?_)
  refine lv_iload_n hx hb dX3_size_10 rfl (lv_at hl 1 rfl) ?_
  refine lv_aload_n hx hb dX3_size_11 rfl (lv_at hl 2 rfl) ?_
  refine lv_iload_n hx hb dX3_size_12 rfl (lv_at hl 0 rfl) ?_
  refine gs_calli (va_runV (As := [.int 0]) (rest := [.int 0]) ⟨hx, hb, hml, hown, hts⟩ (s_X3_isThere l G cy sK sV ad H.size st (0 : Int32) 0 (by decide) (by first | decide | omega) (by first | decide | omega)) ⟨(gz_cb (n := 1) hts gm_733 gm_4 gm_350 ⟨by decide +kernel, by decide +kernel, by decide +kernel⟩ ⟨Nat.le_of_ble_eq_true rfl, Nat.le_of_ble_eq_true rfl⟩), hts _ gm_348, hts _ gm_349⟩ (gs_preV hK hov hE hI hM hm hS hA 4 0 (by decide) rfl rfl) rfl rfl hl.1 rfl (lv_room (Nat.le_of_ble_eq_true rfl)) dX3_size_13 ⟨Nat.le_of_ble_eq_true rfl, Nat.le_of_ble_eq_true rfl⟩) hm hS hA (fun r_1 st_1 H locs hw_1 hM hS => ?_)
  obtain ⟨n_1, hw_1⟩ := hw_1
  have n_1 := gN0 n_1
  subst n_1
  rcases hw_1 with ⟨rfl, hw_1_0⟩ | ⟨rfl, hw_1_0⟩
  · skip
    refine lv_if_eq (tgt := 23) hx hb dX3_size_16 (by decide) (fun h9 => absurd h9 (by decide)) (fun _ => ?_)
    refine lv_iconst (v := 1) hx hb dX3_size_19 (by decide) ?_
    refine lv_goto (tgt := 24) hx hb dX3_size_20 (by decide) ?_
    refine lv_iadd hx hb dX3_size_24 ?_
    refine lv_topi (fun x_2 ex_2 => ?_)
    obtain rfl : x_2 = (1 : Int32) := ex_2.trans (by decide)
    refine lv_istore_n (lv' := [(1, .int 1), (2, .int 0), (0, .ref (ad 4 0))]) hx hb dX3_size_25 rfl hl (by decide) rfl (fun ls hl => ?_)
    refine lv_iinc (v := (1)) (lv' := [(2, .int 1), (1, .int 1), (0, .ref (ad 4 0))]) hx hb dX3_size_26 hl (k := 1) rfl (by decide) (by decide) rfl (fun ls hl => ?_)
    refine lv_goto (tgt := 4) hx hb dX3_size_29 (by decide) ?_
    refine lv_iload_n hx hb dX3_size_4 rfl (lv_at hl 0 rfl) ?_
    refine lv_bipush (v := 6) hx hb dX3_size_5 (by decide) ?_
    refine lv_icmp_ge (tgt := 32) hx hb dX3_size_7 (by decide) (fun h9 => absurd h9 (by decide)) (fun _ => ?_)
    refine lv_iload_n hx hb dX3_size_10 rfl (lv_at hl 1 rfl) ?_
    refine lv_aload_n hx hb dX3_size_11 rfl (lv_at hl 2 rfl) ?_
    refine lv_iload_n hx hb dX3_size_12 rfl (lv_at hl 0 rfl) ?_
    refine gs_calli (va_runV (As := [.int 1]) (rest := [.int 1]) ⟨hx, hb, hml, hown, hts⟩ (s_X3_isThere l G cy sK sV ad H.size st (1 : Int32) 1 (by decide) (by first | decide | omega) (by first | decide | omega)) ⟨(gz_cb (n := 1) hts gm_733 gm_4 gm_350 ⟨by decide +kernel, by decide +kernel, by decide +kernel⟩ ⟨Nat.le_of_ble_eq_true rfl, Nat.le_of_ble_eq_true rfl⟩), hts _ gm_348, hts _ gm_349⟩ (gs_preV hK hov hE hI hM hm hS hA 4 0 (by decide) rfl rfl) rfl rfl hl.1 rfl (lv_room (Nat.le_of_ble_eq_true rfl)) dX3_size_13 ⟨Nat.le_of_ble_eq_true rfl, Nat.le_of_ble_eq_true rfl⟩) hm hS hA (fun r_3 st_3 H locs hw_3 hM hS => ?_)
    obtain ⟨n_3, hw_3⟩ := hw_3
    have n_3 := gN0 n_3
    subst n_3
    rcases hw_3 with ⟨rfl, hw_3_0⟩ | ⟨rfl, hw_3_0⟩
    · skip
      refine lv_if_eq (tgt := 23) hx hb dX3_size_16 (by decide) (fun h9 => absurd h9 (by decide)) (fun _ => ?_)
      refine lv_iconst (v := 1) hx hb dX3_size_19 (by decide) ?_
      refine lv_goto (tgt := 24) hx hb dX3_size_20 (by decide) ?_
      refine lv_iadd hx hb dX3_size_24 ?_
      refine lv_topi (fun x_4 ex_4 => ?_)
      obtain rfl : x_4 = (2 : Int32) := ex_4.trans (by decide)
      refine lv_istore_n (lv' := [(1, .int 2), (2, .int 1), (0, .ref (ad 4 0))]) hx hb dX3_size_25 rfl hl (by decide) rfl (fun ls hl => ?_)
      refine lv_iinc (v := (2)) (lv' := [(2, .int 2), (1, .int 2), (0, .ref (ad 4 0))]) hx hb dX3_size_26 hl (k := 1) rfl (by decide) (by decide) rfl (fun ls hl => ?_)
      refine lv_goto (tgt := 4) hx hb dX3_size_29 (by decide) ?_
      refine lv_iload_n hx hb dX3_size_4 rfl (lv_at hl 0 rfl) ?_
      refine lv_bipush (v := 6) hx hb dX3_size_5 (by decide) ?_
      refine lv_icmp_ge (tgt := 32) hx hb dX3_size_7 (by decide) (fun h9 => absurd h9 (by decide)) (fun _ => ?_)
      refine lv_iload_n hx hb dX3_size_10 rfl (lv_at hl 1 rfl) ?_
      refine lv_aload_n hx hb dX3_size_11 rfl (lv_at hl 2 rfl) ?_
      refine lv_iload_n hx hb dX3_size_12 rfl (lv_at hl 0 rfl) ?_
      refine gs_calli (va_runV (As := [.int 2]) (rest := [.int 2]) ⟨hx, hb, hml, hown, hts⟩ (s_X3_isThere l G cy sK sV ad H.size st (2 : Int32) 2 (by decide) (by first | decide | omega) (by first | decide | omega)) ⟨(gz_cb (n := 1) hts gm_733 gm_4 gm_350 ⟨by decide +kernel, by decide +kernel, by decide +kernel⟩ ⟨Nat.le_of_ble_eq_true rfl, Nat.le_of_ble_eq_true rfl⟩), hts _ gm_348, hts _ gm_349⟩ (gs_preV hK hov hE hI hM hm hS hA 4 0 (by decide) rfl rfl) rfl rfl hl.1 rfl (lv_room (Nat.le_of_ble_eq_true rfl)) dX3_size_13 ⟨Nat.le_of_ble_eq_true rfl, Nat.le_of_ble_eq_true rfl⟩) hm hS hA (fun r_5 st_5 H locs hw_5 hM hS => ?_)
      obtain ⟨n_5, hw_5⟩ := hw_5
      have n_5 := gN0 n_5
      subst n_5
      rcases hw_5 with ⟨rfl, hw_5_0⟩ | ⟨rfl, hw_5_0⟩
      · skip
        refine lv_if_eq (tgt := 23) hx hb dX3_size_16 (by decide) (fun h9 => absurd h9 (by decide)) (fun _ => ?_)
        refine lv_iconst (v := 1) hx hb dX3_size_19 (by decide) ?_
        refine lv_goto (tgt := 24) hx hb dX3_size_20 (by decide) ?_
        refine lv_iadd hx hb dX3_size_24 ?_
        refine lv_topi (fun x_6 ex_6 => ?_)
        obtain rfl : x_6 = (3 : Int32) := ex_6.trans (by decide)
        refine lv_istore_n (lv' := [(1, .int 3), (2, .int 2), (0, .ref (ad 4 0))]) hx hb dX3_size_25 rfl hl (by decide) rfl (fun ls hl => ?_)
        refine lv_iinc (v := (3)) (lv' := [(2, .int 3), (1, .int 3), (0, .ref (ad 4 0))]) hx hb dX3_size_26 hl (k := 1) rfl (by decide) (by decide) rfl (fun ls hl => ?_)
        refine lv_goto (tgt := 4) hx hb dX3_size_29 (by decide) ?_
        refine lv_iload_n hx hb dX3_size_4 rfl (lv_at hl 0 rfl) ?_
        refine lv_bipush (v := 6) hx hb dX3_size_5 (by decide) ?_
        refine lv_icmp_ge (tgt := 32) hx hb dX3_size_7 (by decide) (fun h9 => absurd h9 (by decide)) (fun _ => ?_)
        refine lv_iload_n hx hb dX3_size_10 rfl (lv_at hl 1 rfl) ?_
        refine lv_aload_n hx hb dX3_size_11 rfl (lv_at hl 2 rfl) ?_
        refine lv_iload_n hx hb dX3_size_12 rfl (lv_at hl 0 rfl) ?_
        refine gs_calli (va_runV (As := [.int 3]) (rest := [.int 3]) ⟨hx, hb, hml, hown, hts⟩ (s_X3_isThere l G cy sK sV ad H.size st (3 : Int32) 3 (by decide) (by first | decide | omega) (by first | decide | omega)) ⟨(gz_cb (n := 1) hts gm_733 gm_4 gm_350 ⟨by decide +kernel, by decide +kernel, by decide +kernel⟩ ⟨Nat.le_of_ble_eq_true rfl, Nat.le_of_ble_eq_true rfl⟩), hts _ gm_348, hts _ gm_349⟩ (gs_preV hK hov hE hI hM hm hS hA 4 0 (by decide) rfl rfl) rfl rfl hl.1 rfl (lv_room (Nat.le_of_ble_eq_true rfl)) dX3_size_13 ⟨Nat.le_of_ble_eq_true rfl, Nat.le_of_ble_eq_true rfl⟩) hm hS hA (fun r_7 st_7 H locs hw_7 hM hS => ?_)
        obtain ⟨n_7, hw_7⟩ := hw_7
        have n_7 := gN0 n_7
        subst n_7
        rcases hw_7 with ⟨rfl, hw_7_0⟩ | ⟨rfl, hw_7_0⟩
        · skip
          refine lv_if_eq (tgt := 23) hx hb dX3_size_16 (by decide) (fun h9 => absurd h9 (by decide)) (fun _ => ?_)
          refine lv_iconst (v := 1) hx hb dX3_size_19 (by decide) ?_
          refine lv_goto (tgt := 24) hx hb dX3_size_20 (by decide) ?_
          refine lv_iadd hx hb dX3_size_24 ?_
          refine lv_topi (fun x_8 ex_8 => ?_)
          obtain rfl : x_8 = (4 : Int32) := ex_8.trans (by decide)
          refine lv_istore_n (lv' := [(1, .int 4), (2, .int 3), (0, .ref (ad 4 0))]) hx hb dX3_size_25 rfl hl (by decide) rfl (fun ls hl => ?_)
          refine lv_iinc (v := (4)) (lv' := [(2, .int 4), (1, .int 4), (0, .ref (ad 4 0))]) hx hb dX3_size_26 hl (k := 1) rfl (by decide) (by decide) rfl (fun ls hl => ?_)
          refine lv_goto (tgt := 4) hx hb dX3_size_29 (by decide) ?_
          refine lv_iload_n hx hb dX3_size_4 rfl (lv_at hl 0 rfl) ?_
          refine lv_bipush (v := 6) hx hb dX3_size_5 (by decide) ?_
          refine lv_icmp_ge (tgt := 32) hx hb dX3_size_7 (by decide) (fun h9 => absurd h9 (by decide)) (fun _ => ?_)
          refine lv_iload_n hx hb dX3_size_10 rfl (lv_at hl 1 rfl) ?_
          refine lv_aload_n hx hb dX3_size_11 rfl (lv_at hl 2 rfl) ?_
          refine lv_iload_n hx hb dX3_size_12 rfl (lv_at hl 0 rfl) ?_
          refine gs_calli (va_runV (As := [.int 4]) (rest := [.int 4]) ⟨hx, hb, hml, hown, hts⟩ (s_X3_isThere l G cy sK sV ad H.size st (4 : Int32) 4 (by decide) (by first | decide | omega) (by first | decide | omega)) ⟨(gz_cb (n := 1) hts gm_733 gm_4 gm_350 ⟨by decide +kernel, by decide +kernel, by decide +kernel⟩ ⟨Nat.le_of_ble_eq_true rfl, Nat.le_of_ble_eq_true rfl⟩), hts _ gm_348, hts _ gm_349⟩ (gs_preV hK hov hE hI hM hm hS hA 4 0 (by decide) rfl rfl) rfl rfl hl.1 rfl (lv_room (Nat.le_of_ble_eq_true rfl)) dX3_size_13 ⟨Nat.le_of_ble_eq_true rfl, Nat.le_of_ble_eq_true rfl⟩) hm hS hA (fun r_9 st_9 H locs hw_9 hM hS => ?_)
          obtain ⟨n_9, hw_9⟩ := hw_9
          have n_9 := gN0 n_9
          subst n_9
          rcases hw_9 with ⟨rfl, hw_9_0⟩ | ⟨rfl, hw_9_0⟩
          · skip
            refine lv_if_eq (tgt := 23) hx hb dX3_size_16 (by decide) (fun h9 => absurd h9 (by decide)) (fun _ => ?_)
            refine lv_iconst (v := 1) hx hb dX3_size_19 (by decide) ?_
            refine lv_goto (tgt := 24) hx hb dX3_size_20 (by decide) ?_
            refine lv_iadd hx hb dX3_size_24 ?_
            refine lv_topi (fun x_10 ex_10 => ?_)
            obtain rfl : x_10 = (5 : Int32) := ex_10.trans (by decide)
            refine lv_istore_n (lv' := [(1, .int 5), (2, .int 4), (0, .ref (ad 4 0))]) hx hb dX3_size_25 rfl hl (by decide) rfl (fun ls hl => ?_)
            refine lv_iinc (v := (5)) (lv' := [(2, .int 5), (1, .int 5), (0, .ref (ad 4 0))]) hx hb dX3_size_26 hl (k := 1) rfl (by decide) (by decide) rfl (fun ls hl => ?_)
            refine lv_goto (tgt := 4) hx hb dX3_size_29 (by decide) ?_
            refine lv_iload_n hx hb dX3_size_4 rfl (lv_at hl 0 rfl) ?_
            refine lv_bipush (v := 6) hx hb dX3_size_5 (by decide) ?_
            refine lv_icmp_ge (tgt := 32) hx hb dX3_size_7 (by decide) (fun h9 => absurd h9 (by decide)) (fun _ => ?_)
            refine lv_iload_n hx hb dX3_size_10 rfl (lv_at hl 1 rfl) ?_
            refine lv_aload_n hx hb dX3_size_11 rfl (lv_at hl 2 rfl) ?_
            refine lv_iload_n hx hb dX3_size_12 rfl (lv_at hl 0 rfl) ?_
            refine gs_calli (va_runV (As := [.int 5]) (rest := [.int 5]) ⟨hx, hb, hml, hown, hts⟩ (s_X3_isThere l G cy sK sV ad H.size st (5 : Int32) 5 (by decide) (by first | decide | omega) (by first | decide | omega)) ⟨(gz_cb (n := 1) hts gm_733 gm_4 gm_350 ⟨by decide +kernel, by decide +kernel, by decide +kernel⟩ ⟨Nat.le_of_ble_eq_true rfl, Nat.le_of_ble_eq_true rfl⟩), hts _ gm_348, hts _ gm_349⟩ (gs_preV hK hov hE hI hM hm hS hA 4 0 (by decide) rfl rfl) rfl rfl hl.1 rfl (lv_room (Nat.le_of_ble_eq_true rfl)) dX3_size_13 ⟨Nat.le_of_ble_eq_true rfl, Nat.le_of_ble_eq_true rfl⟩) hm hS hA (fun r_11 st_11 H locs hw_11 hM hS => ?_)
            obtain ⟨n_11, hw_11⟩ := hw_11
            have n_11 := gN0 n_11
            subst n_11
            rcases hw_11 with ⟨rfl, hw_11_0⟩ | ⟨rfl, hw_11_0⟩
            · skip
              refine lv_if_eq (tgt := 23) hx hb dX3_size_16 (by decide) (fun h9 => absurd h9 (by decide)) (fun _ => ?_)
              refine lv_iconst (v := 1) hx hb dX3_size_19 (by decide) ?_
              refine lv_goto (tgt := 24) hx hb dX3_size_20 (by decide) ?_
              refine lv_iadd hx hb dX3_size_24 ?_
              refine lv_topi (fun x_12 ex_12 => ?_)
              obtain rfl : x_12 = (6 : Int32) := ex_12.trans (by decide)
              refine lv_istore_n (lv' := [(1, .int 6), (2, .int 5), (0, .ref (ad 4 0))]) hx hb dX3_size_25 rfl hl (by decide) rfl (fun ls hl => ?_)
              refine lv_iinc (v := (6)) (lv' := [(2, .int 6), (1, .int 6), (0, .ref (ad 4 0))]) hx hb dX3_size_26 hl (k := 1) rfl (by decide) (by decide) rfl (fun ls hl => ?_)
              refine lv_goto (tgt := 4) hx hb dX3_size_29 (by decide) ?_
              refine lv_iload_n hx hb dX3_size_4 rfl (lv_at hl 0 rfl) ?_
              refine lv_bipush (v := 6) hx hb dX3_size_5 (by decide) ?_
              refine lv_icmp_ge (tgt := 32) hx hb dX3_size_7 (by decide) (fun _ => ?_) (fun h9 => absurd (by decide) h9)
              refine lv_iload_n hx hb dX3_size_32 rfl (lv_at hl 1 rfl) ?_
              exact gs_iret hx hb hr hlocks hM hS rfl ⟨gN.rf, trivial⟩ (by exact Nat.le_refl _) (by exact Nat.le_refl _) dX3_size_33
            · skip
              refine lv_if_eq (tgt := 23) hx hb dX3_size_16 (by decide) (fun _ => ?_) (fun h9 => absurd (by decide) h9)
              refine lv_iconst (v := 0) hx hb dX3_size_23 (by decide) ?_
              refine lv_iadd hx hb dX3_size_24 ?_
              refine lv_topi (fun x_13 ex_13 => ?_)
              obtain rfl : x_13 = (5 : Int32) := ex_13.trans (by decide)
              refine lv_istore_n (lv' := [(1, .int 5), (2, .int 5), (0, .ref (ad 4 0))]) hx hb dX3_size_25 rfl hl (by decide) rfl (fun ls hl => ?_)
              refine lv_iinc (v := (6)) (lv' := [(2, .int 6), (1, .int 5), (0, .ref (ad 4 0))]) hx hb dX3_size_26 hl (k := 1) rfl (by decide) (by decide) rfl (fun ls hl => ?_)
              refine lv_goto (tgt := 4) hx hb dX3_size_29 (by decide) ?_
              refine lv_iload_n hx hb dX3_size_4 rfl (lv_at hl 0 rfl) ?_
              refine lv_bipush (v := 6) hx hb dX3_size_5 (by decide) ?_
              refine lv_icmp_ge (tgt := 32) hx hb dX3_size_7 (by decide) (fun _ => ?_) (fun h9 => absurd (by decide) h9)
              refine lv_iload_n hx hb dX3_size_32 rfl (lv_at hl 1 rfl) ?_
              exact gs_iret hx hb hr hlocks hM hS rfl ⟨gN.rf, trivial⟩ (by exact Nat.le_refl _) (by exact Nat.le_refl _) dX3_size_33
          · skip
            refine lv_if_eq (tgt := 23) hx hb dX3_size_16 (by decide) (fun _ => ?_) (fun h9 => absurd (by decide) h9)
            refine lv_iconst (v := 0) hx hb dX3_size_23 (by decide) ?_
            refine lv_iadd hx hb dX3_size_24 ?_
            refine lv_topi (fun x_14 ex_14 => ?_)
            obtain rfl : x_14 = (4 : Int32) := ex_14.trans (by decide)
            refine lv_istore_n (lv' := [(1, .int 4), (2, .int 4), (0, .ref (ad 4 0))]) hx hb dX3_size_25 rfl hl (by decide) rfl (fun ls hl => ?_)
            refine lv_iinc (v := (5)) (lv' := [(2, .int 5), (1, .int 4), (0, .ref (ad 4 0))]) hx hb dX3_size_26 hl (k := 1) rfl (by decide) (by decide) rfl (fun ls hl => ?_)
            refine lv_goto (tgt := 4) hx hb dX3_size_29 (by decide) ?_
            refine lv_iload_n hx hb dX3_size_4 rfl (lv_at hl 0 rfl) ?_
            refine lv_bipush (v := 6) hx hb dX3_size_5 (by decide) ?_
            refine lv_icmp_ge (tgt := 32) hx hb dX3_size_7 (by decide) (fun h9 => absurd h9 (by decide)) (fun _ => ?_)
            refine lv_iload_n hx hb dX3_size_10 rfl (lv_at hl 1 rfl) ?_
            refine lv_aload_n hx hb dX3_size_11 rfl (lv_at hl 2 rfl) ?_
            refine lv_iload_n hx hb dX3_size_12 rfl (lv_at hl 0 rfl) ?_
            refine gs_calli (va_runV (As := [.int 5]) (rest := [.int 4]) ⟨hx, hb, hml, hown, hts⟩ (s_X3_isThere l G cy sK sV ad H.size st (5 : Int32) 5 (by decide) (by first | decide | omega) (by first | decide | omega)) ⟨(gz_cb (n := 1) hts gm_733 gm_4 gm_350 ⟨by decide +kernel, by decide +kernel, by decide +kernel⟩ ⟨Nat.le_of_ble_eq_true rfl, Nat.le_of_ble_eq_true rfl⟩), hts _ gm_348, hts _ gm_349⟩ (gs_preV hK hov hE hI hM hm hS hA 4 0 (by decide) rfl rfl) rfl rfl hl.1 rfl (lv_room (Nat.le_of_ble_eq_true rfl)) dX3_size_13 ⟨Nat.le_of_ble_eq_true rfl, Nat.le_of_ble_eq_true rfl⟩) hm hS hA (fun r_15 st_15 H locs hw_15 hM hS => ?_)
            obtain ⟨n_15, hw_15⟩ := hw_15
            have n_15 := gN0 n_15
            subst n_15
            rcases hw_15 with ⟨rfl, hw_15_0⟩ | ⟨rfl, hw_15_0⟩
            · skip
              refine lv_if_eq (tgt := 23) hx hb dX3_size_16 (by decide) (fun h9 => absurd h9 (by decide)) (fun _ => ?_)
              refine lv_iconst (v := 1) hx hb dX3_size_19 (by decide) ?_
              refine lv_goto (tgt := 24) hx hb dX3_size_20 (by decide) ?_
              refine lv_iadd hx hb dX3_size_24 ?_
              refine lv_topi (fun x_16 ex_16 => ?_)
              obtain rfl : x_16 = (5 : Int32) := ex_16.trans (by decide)
              refine lv_istore_n (lv' := [(1, .int 5), (2, .int 5), (0, .ref (ad 4 0))]) hx hb dX3_size_25 rfl hl (by decide) rfl (fun ls hl => ?_)
              refine lv_iinc (v := (6)) (lv' := [(2, .int 6), (1, .int 5), (0, .ref (ad 4 0))]) hx hb dX3_size_26 hl (k := 1) rfl (by decide) (by decide) rfl (fun ls hl => ?_)
              refine lv_goto (tgt := 4) hx hb dX3_size_29 (by decide) ?_
              refine lv_iload_n hx hb dX3_size_4 rfl (lv_at hl 0 rfl) ?_
              refine lv_bipush (v := 6) hx hb dX3_size_5 (by decide) ?_
              refine lv_icmp_ge (tgt := 32) hx hb dX3_size_7 (by decide) (fun _ => ?_) (fun h9 => absurd (by decide) h9)
              refine lv_iload_n hx hb dX3_size_32 rfl (lv_at hl 1 rfl) ?_
              exact gs_iret hx hb hr hlocks hM hS rfl ⟨gN.rf, trivial⟩ (by exact Nat.le_refl _) (by exact Nat.le_refl _) dX3_size_33
            · skip
              refine lv_if_eq (tgt := 23) hx hb dX3_size_16 (by decide) (fun _ => ?_) (fun h9 => absurd (by decide) h9)
              refine lv_iconst (v := 0) hx hb dX3_size_23 (by decide) ?_
              refine lv_iadd hx hb dX3_size_24 ?_
              refine lv_topi (fun x_17 ex_17 => ?_)
              obtain rfl : x_17 = (4 : Int32) := ex_17.trans (by decide)
              refine lv_istore_n (lv' := [(1, .int 4), (2, .int 5), (0, .ref (ad 4 0))]) hx hb dX3_size_25 rfl hl (by decide) rfl (fun ls hl => ?_)
              refine lv_iinc (v := (6)) (lv' := [(2, .int 6), (1, .int 4), (0, .ref (ad 4 0))]) hx hb dX3_size_26 hl (k := 1) rfl (by decide) (by decide) rfl (fun ls hl => ?_)
              refine lv_goto (tgt := 4) hx hb dX3_size_29 (by decide) ?_
              refine lv_iload_n hx hb dX3_size_4 rfl (lv_at hl 0 rfl) ?_
              refine lv_bipush (v := 6) hx hb dX3_size_5 (by decide) ?_
              refine lv_icmp_ge (tgt := 32) hx hb dX3_size_7 (by decide) (fun _ => ?_) (fun h9 => absurd (by decide) h9)
              refine lv_iload_n hx hb dX3_size_32 rfl (lv_at hl 1 rfl) ?_
              exact gs_iret hx hb hr hlocks hM hS rfl ⟨gN.rf, trivial⟩ (by exact Nat.le_refl _) (by exact Nat.le_refl _) dX3_size_33
        · skip
          refine lv_if_eq (tgt := 23) hx hb dX3_size_16 (by decide) (fun _ => ?_) (fun h9 => absurd (by decide) h9)
          refine lv_iconst (v := 0) hx hb dX3_size_23 (by decide) ?_
          refine lv_iadd hx hb dX3_size_24 ?_
          refine lv_topi (fun x_18 ex_18 => ?_)
          obtain rfl : x_18 = (3 : Int32) := ex_18.trans (by decide)
          refine lv_istore_n (lv' := [(1, .int 3), (2, .int 3), (0, .ref (ad 4 0))]) hx hb dX3_size_25 rfl hl (by decide) rfl (fun ls hl => ?_)
          refine lv_iinc (v := (4)) (lv' := [(2, .int 4), (1, .int 3), (0, .ref (ad 4 0))]) hx hb dX3_size_26 hl (k := 1) rfl (by decide) (by decide) rfl (fun ls hl => ?_)
          refine lv_goto (tgt := 4) hx hb dX3_size_29 (by decide) ?_
          refine lv_iload_n hx hb dX3_size_4 rfl (lv_at hl 0 rfl) ?_
          refine lv_bipush (v := 6) hx hb dX3_size_5 (by decide) ?_
          refine lv_icmp_ge (tgt := 32) hx hb dX3_size_7 (by decide) (fun h9 => absurd h9 (by decide)) (fun _ => ?_)
          refine lv_iload_n hx hb dX3_size_10 rfl (lv_at hl 1 rfl) ?_
          refine lv_aload_n hx hb dX3_size_11 rfl (lv_at hl 2 rfl) ?_
          refine lv_iload_n hx hb dX3_size_12 rfl (lv_at hl 0 rfl) ?_
          refine gs_calli (va_runV (As := [.int 4]) (rest := [.int 3]) ⟨hx, hb, hml, hown, hts⟩ (s_X3_isThere l G cy sK sV ad H.size st (4 : Int32) 4 (by decide) (by first | decide | omega) (by first | decide | omega)) ⟨(gz_cb (n := 1) hts gm_733 gm_4 gm_350 ⟨by decide +kernel, by decide +kernel, by decide +kernel⟩ ⟨Nat.le_of_ble_eq_true rfl, Nat.le_of_ble_eq_true rfl⟩), hts _ gm_348, hts _ gm_349⟩ (gs_preV hK hov hE hI hM hm hS hA 4 0 (by decide) rfl rfl) rfl rfl hl.1 rfl (lv_room (Nat.le_of_ble_eq_true rfl)) dX3_size_13 ⟨Nat.le_of_ble_eq_true rfl, Nat.le_of_ble_eq_true rfl⟩) hm hS hA (fun r_19 st_19 H locs hw_19 hM hS => ?_)
          obtain ⟨n_19, hw_19⟩ := hw_19
          have n_19 := gN0 n_19
          subst n_19
          rcases hw_19 with ⟨rfl, hw_19_0⟩ | ⟨rfl, hw_19_0⟩
          · skip
            refine lv_if_eq (tgt := 23) hx hb dX3_size_16 (by decide) (fun h9 => absurd h9 (by decide)) (fun _ => ?_)
            refine lv_iconst (v := 1) hx hb dX3_size_19 (by decide) ?_
            refine lv_goto (tgt := 24) hx hb dX3_size_20 (by decide) ?_
            refine lv_iadd hx hb dX3_size_24 ?_
            refine lv_topi (fun x_20 ex_20 => ?_)
            obtain rfl : x_20 = (4 : Int32) := ex_20.trans (by decide)
            refine lv_istore_n (lv' := [(1, .int 4), (2, .int 4), (0, .ref (ad 4 0))]) hx hb dX3_size_25 rfl hl (by decide) rfl (fun ls hl => ?_)
            refine lv_iinc (v := (5)) (lv' := [(2, .int 5), (1, .int 4), (0, .ref (ad 4 0))]) hx hb dX3_size_26 hl (k := 1) rfl (by decide) (by decide) rfl (fun ls hl => ?_)
            refine lv_goto (tgt := 4) hx hb dX3_size_29 (by decide) ?_
            refine lv_iload_n hx hb dX3_size_4 rfl (lv_at hl 0 rfl) ?_
            refine lv_bipush (v := 6) hx hb dX3_size_5 (by decide) ?_
            refine lv_icmp_ge (tgt := 32) hx hb dX3_size_7 (by decide) (fun h9 => absurd h9 (by decide)) (fun _ => ?_)
            refine lv_iload_n hx hb dX3_size_10 rfl (lv_at hl 1 rfl) ?_
            refine lv_aload_n hx hb dX3_size_11 rfl (lv_at hl 2 rfl) ?_
            refine lv_iload_n hx hb dX3_size_12 rfl (lv_at hl 0 rfl) ?_
            refine gs_calli (va_runV (As := [.int 5]) (rest := [.int 4]) ⟨hx, hb, hml, hown, hts⟩ (s_X3_isThere l G cy sK sV ad H.size st (5 : Int32) 5 (by decide) (by first | decide | omega) (by first | decide | omega)) ⟨(gz_cb (n := 1) hts gm_733 gm_4 gm_350 ⟨by decide +kernel, by decide +kernel, by decide +kernel⟩ ⟨Nat.le_of_ble_eq_true rfl, Nat.le_of_ble_eq_true rfl⟩), hts _ gm_348, hts _ gm_349⟩ (gs_preV hK hov hE hI hM hm hS hA 4 0 (by decide) rfl rfl) rfl rfl hl.1 rfl (lv_room (Nat.le_of_ble_eq_true rfl)) dX3_size_13 ⟨Nat.le_of_ble_eq_true rfl, Nat.le_of_ble_eq_true rfl⟩) hm hS hA (fun r_21 st_21 H locs hw_21 hM hS => ?_)
            obtain ⟨n_21, hw_21⟩ := hw_21
            have n_21 := gN0 n_21
            subst n_21
            rcases hw_21 with ⟨rfl, hw_21_0⟩ | ⟨rfl, hw_21_0⟩
            · skip
              refine lv_if_eq (tgt := 23) hx hb dX3_size_16 (by decide) (fun h9 => absurd h9 (by decide)) (fun _ => ?_)
              refine lv_iconst (v := 1) hx hb dX3_size_19 (by decide) ?_
              refine lv_goto (tgt := 24) hx hb dX3_size_20 (by decide) ?_
              refine lv_iadd hx hb dX3_size_24 ?_
              refine lv_topi (fun x_22 ex_22 => ?_)
              obtain rfl : x_22 = (5 : Int32) := ex_22.trans (by decide)
              refine lv_istore_n (lv' := [(1, .int 5), (2, .int 5), (0, .ref (ad 4 0))]) hx hb dX3_size_25 rfl hl (by decide) rfl (fun ls hl => ?_)
              refine lv_iinc (v := (6)) (lv' := [(2, .int 6), (1, .int 5), (0, .ref (ad 4 0))]) hx hb dX3_size_26 hl (k := 1) rfl (by decide) (by decide) rfl (fun ls hl => ?_)
              refine lv_goto (tgt := 4) hx hb dX3_size_29 (by decide) ?_
              refine lv_iload_n hx hb dX3_size_4 rfl (lv_at hl 0 rfl) ?_
              refine lv_bipush (v := 6) hx hb dX3_size_5 (by decide) ?_
              refine lv_icmp_ge (tgt := 32) hx hb dX3_size_7 (by decide) (fun _ => ?_) (fun h9 => absurd (by decide) h9)
              refine lv_iload_n hx hb dX3_size_32 rfl (lv_at hl 1 rfl) ?_
              exact gs_iret hx hb hr hlocks hM hS rfl ⟨gN.rf, trivial⟩ (by exact Nat.le_refl _) (by exact Nat.le_refl _) dX3_size_33
            · skip
              refine lv_if_eq (tgt := 23) hx hb dX3_size_16 (by decide) (fun _ => ?_) (fun h9 => absurd (by decide) h9)
              refine lv_iconst (v := 0) hx hb dX3_size_23 (by decide) ?_
              refine lv_iadd hx hb dX3_size_24 ?_
              refine lv_topi (fun x_23 ex_23 => ?_)
              obtain rfl : x_23 = (4 : Int32) := ex_23.trans (by decide)
              refine lv_istore_n (lv' := [(1, .int 4), (2, .int 5), (0, .ref (ad 4 0))]) hx hb dX3_size_25 rfl hl (by decide) rfl (fun ls hl => ?_)
              refine lv_iinc (v := (6)) (lv' := [(2, .int 6), (1, .int 4), (0, .ref (ad 4 0))]) hx hb dX3_size_26 hl (k := 1) rfl (by decide) (by decide) rfl (fun ls hl => ?_)
              refine lv_goto (tgt := 4) hx hb dX3_size_29 (by decide) ?_
              refine lv_iload_n hx hb dX3_size_4 rfl (lv_at hl 0 rfl) ?_
              refine lv_bipush (v := 6) hx hb dX3_size_5 (by decide) ?_
              refine lv_icmp_ge (tgt := 32) hx hb dX3_size_7 (by decide) (fun _ => ?_) (fun h9 => absurd (by decide) h9)
              refine lv_iload_n hx hb dX3_size_32 rfl (lv_at hl 1 rfl) ?_
              exact gs_iret hx hb hr hlocks hM hS rfl ⟨gN.rf, trivial⟩ (by exact Nat.le_refl _) (by exact Nat.le_refl _) dX3_size_33
          · skip
            refine lv_if_eq (tgt := 23) hx hb dX3_size_16 (by decide) (fun _ => ?_) (fun h9 => absurd (by decide) h9)
            refine lv_iconst (v := 0) hx hb dX3_size_23 (by decide) ?_
            refine lv_iadd hx hb dX3_size_24 ?_
            refine lv_topi (fun x_24 ex_24 => ?_)
            obtain rfl : x_24 = (3 : Int32) := ex_24.trans (by decide)
            refine lv_istore_n (lv' := [(1, .int 3), (2, .int 4), (0, .ref (ad 4 0))]) hx hb dX3_size_25 rfl hl (by decide) rfl (fun ls hl => ?_)
            refine lv_iinc (v := (5)) (lv' := [(2, .int 5), (1, .int 3), (0, .ref (ad 4 0))]) hx hb dX3_size_26 hl (k := 1) rfl (by decide) (by decide) rfl (fun ls hl => ?_)
            refine lv_goto (tgt := 4) hx hb dX3_size_29 (by decide) ?_
            refine lv_iload_n hx hb dX3_size_4 rfl (lv_at hl 0 rfl) ?_
            refine lv_bipush (v := 6) hx hb dX3_size_5 (by decide) ?_
            refine lv_icmp_ge (tgt := 32) hx hb dX3_size_7 (by decide) (fun h9 => absurd h9 (by decide)) (fun _ => ?_)
            refine lv_iload_n hx hb dX3_size_10 rfl (lv_at hl 1 rfl) ?_
            refine lv_aload_n hx hb dX3_size_11 rfl (lv_at hl 2 rfl) ?_
            refine lv_iload_n hx hb dX3_size_12 rfl (lv_at hl 0 rfl) ?_
            refine gs_calli (va_runV (As := [.int 5]) (rest := [.int 3]) ⟨hx, hb, hml, hown, hts⟩ (s_X3_isThere l G cy sK sV ad H.size st (5 : Int32) 5 (by decide) (by first | decide | omega) (by first | decide | omega)) ⟨(gz_cb (n := 1) hts gm_733 gm_4 gm_350 ⟨by decide +kernel, by decide +kernel, by decide +kernel⟩ ⟨Nat.le_of_ble_eq_true rfl, Nat.le_of_ble_eq_true rfl⟩), hts _ gm_348, hts _ gm_349⟩ (gs_preV hK hov hE hI hM hm hS hA 4 0 (by decide) rfl rfl) rfl rfl hl.1 rfl (lv_room (Nat.le_of_ble_eq_true rfl)) dX3_size_13 ⟨Nat.le_of_ble_eq_true rfl, Nat.le_of_ble_eq_true rfl⟩) hm hS hA (fun r_25 st_25 H locs hw_25 hM hS => ?_)
            obtain ⟨n_25, hw_25⟩ := hw_25
            have n_25 := gN0 n_25
            subst n_25
            rcases hw_25 with ⟨rfl, hw_25_0⟩ | ⟨rfl, hw_25_0⟩
            · skip
              refine lv_if_eq (tgt := 23) hx hb dX3_size_16 (by decide) (fun h9 => absurd h9 (by decide)) (fun _ => ?_)
              refine lv_iconst (v := 1) hx hb dX3_size_19 (by decide) ?_
              refine lv_goto (tgt := 24) hx hb dX3_size_20 (by decide) ?_
              refine lv_iadd hx hb dX3_size_24 ?_
              refine lv_topi (fun x_26 ex_26 => ?_)
              obtain rfl : x_26 = (4 : Int32) := ex_26.trans (by decide)
              refine lv_istore_n (lv' := [(1, .int 4), (2, .int 5), (0, .ref (ad 4 0))]) hx hb dX3_size_25 rfl hl (by decide) rfl (fun ls hl => ?_)
              refine lv_iinc (v := (6)) (lv' := [(2, .int 6), (1, .int 4), (0, .ref (ad 4 0))]) hx hb dX3_size_26 hl (k := 1) rfl (by decide) (by decide) rfl (fun ls hl => ?_)
              refine lv_goto (tgt := 4) hx hb dX3_size_29 (by decide) ?_
              refine lv_iload_n hx hb dX3_size_4 rfl (lv_at hl 0 rfl) ?_
              refine lv_bipush (v := 6) hx hb dX3_size_5 (by decide) ?_
              refine lv_icmp_ge (tgt := 32) hx hb dX3_size_7 (by decide) (fun _ => ?_) (fun h9 => absurd (by decide) h9)
              refine lv_iload_n hx hb dX3_size_32 rfl (lv_at hl 1 rfl) ?_
              exact gs_iret hx hb hr hlocks hM hS rfl ⟨gN.rf, trivial⟩ (by exact Nat.le_refl _) (by exact Nat.le_refl _) dX3_size_33
            · skip
              refine lv_if_eq (tgt := 23) hx hb dX3_size_16 (by decide) (fun _ => ?_) (fun h9 => absurd (by decide) h9)
              refine lv_iconst (v := 0) hx hb dX3_size_23 (by decide) ?_
              refine lv_iadd hx hb dX3_size_24 ?_
              refine lv_topi (fun x_27 ex_27 => ?_)
              obtain rfl : x_27 = (3 : Int32) := ex_27.trans (by decide)
              refine lv_istore_n (lv' := [(1, .int 3), (2, .int 5), (0, .ref (ad 4 0))]) hx hb dX3_size_25 rfl hl (by decide) rfl (fun ls hl => ?_)
              refine lv_iinc (v := (6)) (lv' := [(2, .int 6), (1, .int 3), (0, .ref (ad 4 0))]) hx hb dX3_size_26 hl (k := 1) rfl (by decide) (by decide) rfl (fun ls hl => ?_)
              refine lv_goto (tgt := 4) hx hb dX3_size_29 (by decide) ?_
              refine lv_iload_n hx hb dX3_size_4 rfl (lv_at hl 0 rfl) ?_
              refine lv_bipush (v := 6) hx hb dX3_size_5 (by decide) ?_
              refine lv_icmp_ge (tgt := 32) hx hb dX3_size_7 (by decide) (fun _ => ?_) (fun h9 => absurd (by decide) h9)
              refine lv_iload_n hx hb dX3_size_32 rfl (lv_at hl 1 rfl) ?_
              exact gs_iret hx hb hr hlocks hM hS rfl ⟨gN.rf, trivial⟩ (by exact Nat.le_refl _) (by exact Nat.le_refl _) dX3_size_33
      · skip
        refine lv_if_eq (tgt := 23) hx hb dX3_size_16 (by decide) (fun _ => ?_) (fun h9 => absurd (by decide) h9)
        refine lv_iconst (v := 0) hx hb dX3_size_23 (by decide) ?_
        refine lv_iadd hx hb dX3_size_24 ?_
        refine lv_topi (fun x_28 ex_28 => ?_)
        obtain rfl : x_28 = (2 : Int32) := ex_28.trans (by decide)
        refine lv_istore_n (lv' := [(1, .int 2), (2, .int 2), (0, .ref (ad 4 0))]) hx hb dX3_size_25 rfl hl (by decide) rfl (fun ls hl => ?_)
        refine lv_iinc (v := (3)) (lv' := [(2, .int 3), (1, .int 2), (0, .ref (ad 4 0))]) hx hb dX3_size_26 hl (k := 1) rfl (by decide) (by decide) rfl (fun ls hl => ?_)
        refine lv_goto (tgt := 4) hx hb dX3_size_29 (by decide) ?_
        refine lv_iload_n hx hb dX3_size_4 rfl (lv_at hl 0 rfl) ?_
        refine lv_bipush (v := 6) hx hb dX3_size_5 (by decide) ?_
        refine lv_icmp_ge (tgt := 32) hx hb dX3_size_7 (by decide) (fun h9 => absurd h9 (by decide)) (fun _ => ?_)
        refine lv_iload_n hx hb dX3_size_10 rfl (lv_at hl 1 rfl) ?_
        refine lv_aload_n hx hb dX3_size_11 rfl (lv_at hl 2 rfl) ?_
        refine lv_iload_n hx hb dX3_size_12 rfl (lv_at hl 0 rfl) ?_
        refine gs_calli (va_runV (As := [.int 3]) (rest := [.int 2]) ⟨hx, hb, hml, hown, hts⟩ (s_X3_isThere l G cy sK sV ad H.size st (3 : Int32) 3 (by decide) (by first | decide | omega) (by first | decide | omega)) ⟨(gz_cb (n := 1) hts gm_733 gm_4 gm_350 ⟨by decide +kernel, by decide +kernel, by decide +kernel⟩ ⟨Nat.le_of_ble_eq_true rfl, Nat.le_of_ble_eq_true rfl⟩), hts _ gm_348, hts _ gm_349⟩ (gs_preV hK hov hE hI hM hm hS hA 4 0 (by decide) rfl rfl) rfl rfl hl.1 rfl (lv_room (Nat.le_of_ble_eq_true rfl)) dX3_size_13 ⟨Nat.le_of_ble_eq_true rfl, Nat.le_of_ble_eq_true rfl⟩) hm hS hA (fun r_29 st_29 H locs hw_29 hM hS => ?_)
        obtain ⟨n_29, hw_29⟩ := hw_29
        have n_29 := gN0 n_29
        subst n_29
        rcases hw_29 with ⟨rfl, hw_29_0⟩ | ⟨rfl, hw_29_0⟩
        · skip
          refine lv_if_eq (tgt := 23) hx hb dX3_size_16 (by decide) (fun h9 => absurd h9 (by decide)) (fun _ => ?_)
          refine lv_iconst (v := 1) hx hb dX3_size_19 (by decide) ?_
          refine lv_goto (tgt := 24) hx hb dX3_size_20 (by decide) ?_
          refine lv_iadd hx hb dX3_size_24 ?_
          refine lv_topi (fun x_30 ex_30 => ?_)
          obtain rfl : x_30 = (3 : Int32) := ex_30.trans (by decide)
          refine lv_istore_n (lv' := [(1, .int 3), (2, .int 3), (0, .ref (ad 4 0))]) hx hb dX3_size_25 rfl hl (by decide) rfl (fun ls hl => ?_)
          refine lv_iinc (v := (4)) (lv' := [(2, .int 4), (1, .int 3), (0, .ref (ad 4 0))]) hx hb dX3_size_26 hl (k := 1) rfl (by decide) (by decide) rfl (fun ls hl => ?_)
          refine lv_goto (tgt := 4) hx hb dX3_size_29 (by decide) ?_
          refine lv_iload_n hx hb dX3_size_4 rfl (lv_at hl 0 rfl) ?_
          refine lv_bipush (v := 6) hx hb dX3_size_5 (by decide) ?_
          refine lv_icmp_ge (tgt := 32) hx hb dX3_size_7 (by decide) (fun h9 => absurd h9 (by decide)) (fun _ => ?_)
          refine lv_iload_n hx hb dX3_size_10 rfl (lv_at hl 1 rfl) ?_
          refine lv_aload_n hx hb dX3_size_11 rfl (lv_at hl 2 rfl) ?_
          refine lv_iload_n hx hb dX3_size_12 rfl (lv_at hl 0 rfl) ?_
          refine gs_calli (va_runV (As := [.int 4]) (rest := [.int 3]) ⟨hx, hb, hml, hown, hts⟩ (s_X3_isThere l G cy sK sV ad H.size st (4 : Int32) 4 (by decide) (by first | decide | omega) (by first | decide | omega)) ⟨(gz_cb (n := 1) hts gm_733 gm_4 gm_350 ⟨by decide +kernel, by decide +kernel, by decide +kernel⟩ ⟨Nat.le_of_ble_eq_true rfl, Nat.le_of_ble_eq_true rfl⟩), hts _ gm_348, hts _ gm_349⟩ (gs_preV hK hov hE hI hM hm hS hA 4 0 (by decide) rfl rfl) rfl rfl hl.1 rfl (lv_room (Nat.le_of_ble_eq_true rfl)) dX3_size_13 ⟨Nat.le_of_ble_eq_true rfl, Nat.le_of_ble_eq_true rfl⟩) hm hS hA (fun r_31 st_31 H locs hw_31 hM hS => ?_)
          obtain ⟨n_31, hw_31⟩ := hw_31
          have n_31 := gN0 n_31
          subst n_31
          rcases hw_31 with ⟨rfl, hw_31_0⟩ | ⟨rfl, hw_31_0⟩
          · skip
            refine lv_if_eq (tgt := 23) hx hb dX3_size_16 (by decide) (fun h9 => absurd h9 (by decide)) (fun _ => ?_)
            refine lv_iconst (v := 1) hx hb dX3_size_19 (by decide) ?_
            refine lv_goto (tgt := 24) hx hb dX3_size_20 (by decide) ?_
            refine lv_iadd hx hb dX3_size_24 ?_
            refine lv_topi (fun x_32 ex_32 => ?_)
            obtain rfl : x_32 = (4 : Int32) := ex_32.trans (by decide)
            refine lv_istore_n (lv' := [(1, .int 4), (2, .int 4), (0, .ref (ad 4 0))]) hx hb dX3_size_25 rfl hl (by decide) rfl (fun ls hl => ?_)
            refine lv_iinc (v := (5)) (lv' := [(2, .int 5), (1, .int 4), (0, .ref (ad 4 0))]) hx hb dX3_size_26 hl (k := 1) rfl (by decide) (by decide) rfl (fun ls hl => ?_)
            refine lv_goto (tgt := 4) hx hb dX3_size_29 (by decide) ?_
            refine lv_iload_n hx hb dX3_size_4 rfl (lv_at hl 0 rfl) ?_
            refine lv_bipush (v := 6) hx hb dX3_size_5 (by decide) ?_
            refine lv_icmp_ge (tgt := 32) hx hb dX3_size_7 (by decide) (fun h9 => absurd h9 (by decide)) (fun _ => ?_)
            refine lv_iload_n hx hb dX3_size_10 rfl (lv_at hl 1 rfl) ?_
            refine lv_aload_n hx hb dX3_size_11 rfl (lv_at hl 2 rfl) ?_
            refine lv_iload_n hx hb dX3_size_12 rfl (lv_at hl 0 rfl) ?_
            refine gs_calli (va_runV (As := [.int 5]) (rest := [.int 4]) ⟨hx, hb, hml, hown, hts⟩ (s_X3_isThere l G cy sK sV ad H.size st (5 : Int32) 5 (by decide) (by first | decide | omega) (by first | decide | omega)) ⟨(gz_cb (n := 1) hts gm_733 gm_4 gm_350 ⟨by decide +kernel, by decide +kernel, by decide +kernel⟩ ⟨Nat.le_of_ble_eq_true rfl, Nat.le_of_ble_eq_true rfl⟩), hts _ gm_348, hts _ gm_349⟩ (gs_preV hK hov hE hI hM hm hS hA 4 0 (by decide) rfl rfl) rfl rfl hl.1 rfl (lv_room (Nat.le_of_ble_eq_true rfl)) dX3_size_13 ⟨Nat.le_of_ble_eq_true rfl, Nat.le_of_ble_eq_true rfl⟩) hm hS hA (fun r_33 st_33 H locs hw_33 hM hS => ?_)
            obtain ⟨n_33, hw_33⟩ := hw_33
            have n_33 := gN0 n_33
            subst n_33
            rcases hw_33 with ⟨rfl, hw_33_0⟩ | ⟨rfl, hw_33_0⟩
            · skip
              refine lv_if_eq (tgt := 23) hx hb dX3_size_16 (by decide) (fun h9 => absurd h9 (by decide)) (fun _ => ?_)
              refine lv_iconst (v := 1) hx hb dX3_size_19 (by decide) ?_
              refine lv_goto (tgt := 24) hx hb dX3_size_20 (by decide) ?_
              refine lv_iadd hx hb dX3_size_24 ?_
              refine lv_topi (fun x_34 ex_34 => ?_)
              obtain rfl : x_34 = (5 : Int32) := ex_34.trans (by decide)
              refine lv_istore_n (lv' := [(1, .int 5), (2, .int 5), (0, .ref (ad 4 0))]) hx hb dX3_size_25 rfl hl (by decide) rfl (fun ls hl => ?_)
              refine lv_iinc (v := (6)) (lv' := [(2, .int 6), (1, .int 5), (0, .ref (ad 4 0))]) hx hb dX3_size_26 hl (k := 1) rfl (by decide) (by decide) rfl (fun ls hl => ?_)
              refine lv_goto (tgt := 4) hx hb dX3_size_29 (by decide) ?_
              refine lv_iload_n hx hb dX3_size_4 rfl (lv_at hl 0 rfl) ?_
              refine lv_bipush (v := 6) hx hb dX3_size_5 (by decide) ?_
              refine lv_icmp_ge (tgt := 32) hx hb dX3_size_7 (by decide) (fun _ => ?_) (fun h9 => absurd (by decide) h9)
              refine lv_iload_n hx hb dX3_size_32 rfl (lv_at hl 1 rfl) ?_
              exact gs_iret hx hb hr hlocks hM hS rfl ⟨gN.rf, trivial⟩ (by exact Nat.le_refl _) (by exact Nat.le_refl _) dX3_size_33
            · skip
              refine lv_if_eq (tgt := 23) hx hb dX3_size_16 (by decide) (fun _ => ?_) (fun h9 => absurd (by decide) h9)
              refine lv_iconst (v := 0) hx hb dX3_size_23 (by decide) ?_
              refine lv_iadd hx hb dX3_size_24 ?_
              refine lv_topi (fun x_35 ex_35 => ?_)
              obtain rfl : x_35 = (4 : Int32) := ex_35.trans (by decide)
              refine lv_istore_n (lv' := [(1, .int 4), (2, .int 5), (0, .ref (ad 4 0))]) hx hb dX3_size_25 rfl hl (by decide) rfl (fun ls hl => ?_)
              refine lv_iinc (v := (6)) (lv' := [(2, .int 6), (1, .int 4), (0, .ref (ad 4 0))]) hx hb dX3_size_26 hl (k := 1) rfl (by decide) (by decide) rfl (fun ls hl => ?_)
              refine lv_goto (tgt := 4) hx hb dX3_size_29 (by decide) ?_
              refine lv_iload_n hx hb dX3_size_4 rfl (lv_at hl 0 rfl) ?_
              refine lv_bipush (v := 6) hx hb dX3_size_5 (by decide) ?_
              refine lv_icmp_ge (tgt := 32) hx hb dX3_size_7 (by decide) (fun _ => ?_) (fun h9 => absurd (by decide) h9)
              refine lv_iload_n hx hb dX3_size_32 rfl (lv_at hl 1 rfl) ?_
              exact gs_iret hx hb hr hlocks hM hS rfl ⟨gN.rf, trivial⟩ (by exact Nat.le_refl _) (by exact Nat.le_refl _) dX3_size_33
          · skip
            refine lv_if_eq (tgt := 23) hx hb dX3_size_16 (by decide) (fun _ => ?_) (fun h9 => absurd (by decide) h9)
            refine lv_iconst (v := 0) hx hb dX3_size_23 (by decide) ?_
            refine lv_iadd hx hb dX3_size_24 ?_
            refine lv_topi (fun x_36 ex_36 => ?_)
            obtain rfl : x_36 = (3 : Int32) := ex_36.trans (by decide)
            refine lv_istore_n (lv' := [(1, .int 3), (2, .int 4), (0, .ref (ad 4 0))]) hx hb dX3_size_25 rfl hl (by decide) rfl (fun ls hl => ?_)
            refine lv_iinc (v := (5)) (lv' := [(2, .int 5), (1, .int 3), (0, .ref (ad 4 0))]) hx hb dX3_size_26 hl (k := 1) rfl (by decide) (by decide) rfl (fun ls hl => ?_)
            refine lv_goto (tgt := 4) hx hb dX3_size_29 (by decide) ?_
            refine lv_iload_n hx hb dX3_size_4 rfl (lv_at hl 0 rfl) ?_
            refine lv_bipush (v := 6) hx hb dX3_size_5 (by decide) ?_
            refine lv_icmp_ge (tgt := 32) hx hb dX3_size_7 (by decide) (fun h9 => absurd h9 (by decide)) (fun _ => ?_)
            refine lv_iload_n hx hb dX3_size_10 rfl (lv_at hl 1 rfl) ?_
            refine lv_aload_n hx hb dX3_size_11 rfl (lv_at hl 2 rfl) ?_
            refine lv_iload_n hx hb dX3_size_12 rfl (lv_at hl 0 rfl) ?_
            refine gs_calli (va_runV (As := [.int 5]) (rest := [.int 3]) ⟨hx, hb, hml, hown, hts⟩ (s_X3_isThere l G cy sK sV ad H.size st (5 : Int32) 5 (by decide) (by first | decide | omega) (by first | decide | omega)) ⟨(gz_cb (n := 1) hts gm_733 gm_4 gm_350 ⟨by decide +kernel, by decide +kernel, by decide +kernel⟩ ⟨Nat.le_of_ble_eq_true rfl, Nat.le_of_ble_eq_true rfl⟩), hts _ gm_348, hts _ gm_349⟩ (gs_preV hK hov hE hI hM hm hS hA 4 0 (by decide) rfl rfl) rfl rfl hl.1 rfl (lv_room (Nat.le_of_ble_eq_true rfl)) dX3_size_13 ⟨Nat.le_of_ble_eq_true rfl, Nat.le_of_ble_eq_true rfl⟩) hm hS hA (fun r_37 st_37 H locs hw_37 hM hS => ?_)
            obtain ⟨n_37, hw_37⟩ := hw_37
            have n_37 := gN0 n_37
            subst n_37
            rcases hw_37 with ⟨rfl, hw_37_0⟩ | ⟨rfl, hw_37_0⟩
            · skip
              refine lv_if_eq (tgt := 23) hx hb dX3_size_16 (by decide) (fun h9 => absurd h9 (by decide)) (fun _ => ?_)
              refine lv_iconst (v := 1) hx hb dX3_size_19 (by decide) ?_
              refine lv_goto (tgt := 24) hx hb dX3_size_20 (by decide) ?_
              refine lv_iadd hx hb dX3_size_24 ?_
              refine lv_topi (fun x_38 ex_38 => ?_)
              obtain rfl : x_38 = (4 : Int32) := ex_38.trans (by decide)
              refine lv_istore_n (lv' := [(1, .int 4), (2, .int 5), (0, .ref (ad 4 0))]) hx hb dX3_size_25 rfl hl (by decide) rfl (fun ls hl => ?_)
              refine lv_iinc (v := (6)) (lv' := [(2, .int 6), (1, .int 4), (0, .ref (ad 4 0))]) hx hb dX3_size_26 hl (k := 1) rfl (by decide) (by decide) rfl (fun ls hl => ?_)
              refine lv_goto (tgt := 4) hx hb dX3_size_29 (by decide) ?_
              refine lv_iload_n hx hb dX3_size_4 rfl (lv_at hl 0 rfl) ?_
              refine lv_bipush (v := 6) hx hb dX3_size_5 (by decide) ?_
              refine lv_icmp_ge (tgt := 32) hx hb dX3_size_7 (by decide) (fun _ => ?_) (fun h9 => absurd (by decide) h9)
              refine lv_iload_n hx hb dX3_size_32 rfl (lv_at hl 1 rfl) ?_
              exact gs_iret hx hb hr hlocks hM hS rfl ⟨gN.rf, trivial⟩ (by exact Nat.le_refl _) (by exact Nat.le_refl _) dX3_size_33
            · skip
              refine lv_if_eq (tgt := 23) hx hb dX3_size_16 (by decide) (fun _ => ?_) (fun h9 => absurd (by decide) h9)
              refine lv_iconst (v := 0) hx hb dX3_size_23 (by decide) ?_
              refine lv_iadd hx hb dX3_size_24 ?_
              refine lv_topi (fun x_39 ex_39 => ?_)
              obtain rfl : x_39 = (3 : Int32) := ex_39.trans (by decide)
              refine lv_istore_n (lv' := [(1, .int 3), (2, .int 5), (0, .ref (ad 4 0))]) hx hb dX3_size_25 rfl hl (by decide) rfl (fun ls hl => ?_)
              refine lv_iinc (v := (6)) (lv' := [(2, .int 6), (1, .int 3), (0, .ref (ad 4 0))]) hx hb dX3_size_26 hl (k := 1) rfl (by decide) (by decide) rfl (fun ls hl => ?_)
              refine lv_goto (tgt := 4) hx hb dX3_size_29 (by decide) ?_
              refine lv_iload_n hx hb dX3_size_4 rfl (lv_at hl 0 rfl) ?_
              refine lv_bipush (v := 6) hx hb dX3_size_5 (by decide) ?_
              refine lv_icmp_ge (tgt := 32) hx hb dX3_size_7 (by decide) (fun _ => ?_) (fun h9 => absurd (by decide) h9)
              refine lv_iload_n hx hb dX3_size_32 rfl (lv_at hl 1 rfl) ?_
              exact gs_iret hx hb hr hlocks hM hS rfl ⟨gN.rf, trivial⟩ (by exact Nat.le_refl _) (by exact Nat.le_refl _) dX3_size_33
        · skip
          refine lv_if_eq (tgt := 23) hx hb dX3_size_16 (by decide) (fun _ => ?_) (fun h9 => absurd (by decide) h9)
          refine lv_iconst (v := 0) hx hb dX3_size_23 (by decide) ?_
          refine lv_iadd hx hb dX3_size_24 ?_
          refine lv_topi (fun x_40 ex_40 => ?_)
          obtain rfl : x_40 = (2 : Int32) := ex_40.trans (by decide)
          refine lv_istore_n (lv' := [(1, .int 2), (2, .int 3), (0, .ref (ad 4 0))]) hx hb dX3_size_25 rfl hl (by decide) rfl (fun ls hl => ?_)
          refine lv_iinc (v := (4)) (lv' := [(2, .int 4), (1, .int 2), (0, .ref (ad 4 0))]) hx hb dX3_size_26 hl (k := 1) rfl (by decide) (by decide) rfl (fun ls hl => ?_)
          refine lv_goto (tgt := 4) hx hb dX3_size_29 (by decide) ?_
          refine lv_iload_n hx hb dX3_size_4 rfl (lv_at hl 0 rfl) ?_
          refine lv_bipush (v := 6) hx hb dX3_size_5 (by decide) ?_
          refine lv_icmp_ge (tgt := 32) hx hb dX3_size_7 (by decide) (fun h9 => absurd h9 (by decide)) (fun _ => ?_)
          refine lv_iload_n hx hb dX3_size_10 rfl (lv_at hl 1 rfl) ?_
          refine lv_aload_n hx hb dX3_size_11 rfl (lv_at hl 2 rfl) ?_
          refine lv_iload_n hx hb dX3_size_12 rfl (lv_at hl 0 rfl) ?_
          refine gs_calli (va_runV (As := [.int 4]) (rest := [.int 2]) ⟨hx, hb, hml, hown, hts⟩ (s_X3_isThere l G cy sK sV ad H.size st (4 : Int32) 4 (by decide) (by first | decide | omega) (by first | decide | omega)) ⟨(gz_cb (n := 1) hts gm_733 gm_4 gm_350 ⟨by decide +kernel, by decide +kernel, by decide +kernel⟩ ⟨Nat.le_of_ble_eq_true rfl, Nat.le_of_ble_eq_true rfl⟩), hts _ gm_348, hts _ gm_349⟩ (gs_preV hK hov hE hI hM hm hS hA 4 0 (by decide) rfl rfl) rfl rfl hl.1 rfl (lv_room (Nat.le_of_ble_eq_true rfl)) dX3_size_13 ⟨Nat.le_of_ble_eq_true rfl, Nat.le_of_ble_eq_true rfl⟩) hm hS hA (fun r_41 st_41 H locs hw_41 hM hS => ?_)
          obtain ⟨n_41, hw_41⟩ := hw_41
          have n_41 := gN0 n_41
          subst n_41
          rcases hw_41 with ⟨rfl, hw_41_0⟩ | ⟨rfl, hw_41_0⟩
          · skip
            refine lv_if_eq (tgt := 23) hx hb dX3_size_16 (by decide) (fun h9 => absurd h9 (by decide)) (fun _ => ?_)
            refine lv_iconst (v := 1) hx hb dX3_size_19 (by decide) ?_
            refine lv_goto (tgt := 24) hx hb dX3_size_20 (by decide) ?_
            refine lv_iadd hx hb dX3_size_24 ?_
            refine lv_topi (fun x_42 ex_42 => ?_)
            obtain rfl : x_42 = (3 : Int32) := ex_42.trans (by decide)
            refine lv_istore_n (lv' := [(1, .int 3), (2, .int 4), (0, .ref (ad 4 0))]) hx hb dX3_size_25 rfl hl (by decide) rfl (fun ls hl => ?_)
            refine lv_iinc (v := (5)) (lv' := [(2, .int 5), (1, .int 3), (0, .ref (ad 4 0))]) hx hb dX3_size_26 hl (k := 1) rfl (by decide) (by decide) rfl (fun ls hl => ?_)
            refine lv_goto (tgt := 4) hx hb dX3_size_29 (by decide) ?_
            refine lv_iload_n hx hb dX3_size_4 rfl (lv_at hl 0 rfl) ?_
            refine lv_bipush (v := 6) hx hb dX3_size_5 (by decide) ?_
            refine lv_icmp_ge (tgt := 32) hx hb dX3_size_7 (by decide) (fun h9 => absurd h9 (by decide)) (fun _ => ?_)
            refine lv_iload_n hx hb dX3_size_10 rfl (lv_at hl 1 rfl) ?_
            refine lv_aload_n hx hb dX3_size_11 rfl (lv_at hl 2 rfl) ?_
            refine lv_iload_n hx hb dX3_size_12 rfl (lv_at hl 0 rfl) ?_
            refine gs_calli (va_runV (As := [.int 5]) (rest := [.int 3]) ⟨hx, hb, hml, hown, hts⟩ (s_X3_isThere l G cy sK sV ad H.size st (5 : Int32) 5 (by decide) (by first | decide | omega) (by first | decide | omega)) ⟨(gz_cb (n := 1) hts gm_733 gm_4 gm_350 ⟨by decide +kernel, by decide +kernel, by decide +kernel⟩ ⟨Nat.le_of_ble_eq_true rfl, Nat.le_of_ble_eq_true rfl⟩), hts _ gm_348, hts _ gm_349⟩ (gs_preV hK hov hE hI hM hm hS hA 4 0 (by decide) rfl rfl) rfl rfl hl.1 rfl (lv_room (Nat.le_of_ble_eq_true rfl)) dX3_size_13 ⟨Nat.le_of_ble_eq_true rfl, Nat.le_of_ble_eq_true rfl⟩) hm hS hA (fun r_43 st_43 H locs hw_43 hM hS => ?_)
            obtain ⟨n_43, hw_43⟩ := hw_43
            have n_43 := gN0 n_43
            subst n_43
            rcases hw_43 with ⟨rfl, hw_43_0⟩ | ⟨rfl, hw_43_0⟩
            · skip
              refine lv_if_eq (tgt := 23) hx hb dX3_size_16 (by decide) (fun h9 => absurd h9 (by decide)) (fun _ => ?_)
              refine lv_iconst (v := 1) hx hb dX3_size_19 (by decide) ?_
              refine lv_goto (tgt := 24) hx hb dX3_size_20 (by decide) ?_
              refine lv_iadd hx hb dX3_size_24 ?_
              refine lv_topi (fun x_44 ex_44 => ?_)
              obtain rfl : x_44 = (4 : Int32) := ex_44.trans (by decide)
              refine lv_istore_n (lv' := [(1, .int 4), (2, .int 5), (0, .ref (ad 4 0))]) hx hb dX3_size_25 rfl hl (by decide) rfl (fun ls hl => ?_)
              refine lv_iinc (v := (6)) (lv' := [(2, .int 6), (1, .int 4), (0, .ref (ad 4 0))]) hx hb dX3_size_26 hl (k := 1) rfl (by decide) (by decide) rfl (fun ls hl => ?_)
              refine lv_goto (tgt := 4) hx hb dX3_size_29 (by decide) ?_
              refine lv_iload_n hx hb dX3_size_4 rfl (lv_at hl 0 rfl) ?_
              refine lv_bipush (v := 6) hx hb dX3_size_5 (by decide) ?_
              refine lv_icmp_ge (tgt := 32) hx hb dX3_size_7 (by decide) (fun _ => ?_) (fun h9 => absurd (by decide) h9)
              refine lv_iload_n hx hb dX3_size_32 rfl (lv_at hl 1 rfl) ?_
              exact gs_iret hx hb hr hlocks hM hS rfl ⟨gN.rf, trivial⟩ (by exact Nat.le_refl _) (by exact Nat.le_refl _) dX3_size_33
            · skip
              refine lv_if_eq (tgt := 23) hx hb dX3_size_16 (by decide) (fun _ => ?_) (fun h9 => absurd (by decide) h9)
              refine lv_iconst (v := 0) hx hb dX3_size_23 (by decide) ?_
              refine lv_iadd hx hb dX3_size_24 ?_
              refine lv_topi (fun x_45 ex_45 => ?_)
              obtain rfl : x_45 = (3 : Int32) := ex_45.trans (by decide)
              refine lv_istore_n (lv' := [(1, .int 3), (2, .int 5), (0, .ref (ad 4 0))]) hx hb dX3_size_25 rfl hl (by decide) rfl (fun ls hl => ?_)
              refine lv_iinc (v := (6)) (lv' := [(2, .int 6), (1, .int 3), (0, .ref (ad 4 0))]) hx hb dX3_size_26 hl (k := 1) rfl (by decide) (by decide) rfl (fun ls hl => ?_)
              refine lv_goto (tgt := 4) hx hb dX3_size_29 (by decide) ?_
              refine lv_iload_n hx hb dX3_size_4 rfl (lv_at hl 0 rfl) ?_
              refine lv_bipush (v := 6) hx hb dX3_size_5 (by decide) ?_
              refine lv_icmp_ge (tgt := 32) hx hb dX3_size_7 (by decide) (fun _ => ?_) (fun h9 => absurd (by decide) h9)
              refine lv_iload_n hx hb dX3_size_32 rfl (lv_at hl 1 rfl) ?_
              exact gs_iret hx hb hr hlocks hM hS rfl ⟨gN.rf, trivial⟩ (by exact Nat.le_refl _) (by exact Nat.le_refl _) dX3_size_33
          · skip
            refine lv_if_eq (tgt := 23) hx hb dX3_size_16 (by decide) (fun _ => ?_) (fun h9 => absurd (by decide) h9)
            refine lv_iconst (v := 0) hx hb dX3_size_23 (by decide) ?_
            refine lv_iadd hx hb dX3_size_24 ?_
            refine lv_topi (fun x_46 ex_46 => ?_)
            obtain rfl : x_46 = (2 : Int32) := ex_46.trans (by decide)
            refine lv_istore_n (lv' := [(1, .int 2), (2, .int 4), (0, .ref (ad 4 0))]) hx hb dX3_size_25 rfl hl (by decide) rfl (fun ls hl => ?_)
            refine lv_iinc (v := (5)) (lv' := [(2, .int 5), (1, .int 2), (0, .ref (ad 4 0))]) hx hb dX3_size_26 hl (k := 1) rfl (by decide) (by decide) rfl (fun ls hl => ?_)
            refine lv_goto (tgt := 4) hx hb dX3_size_29 (by decide) ?_
            refine lv_iload_n hx hb dX3_size_4 rfl (lv_at hl 0 rfl) ?_
            refine lv_bipush (v := 6) hx hb dX3_size_5 (by decide) ?_
            refine lv_icmp_ge (tgt := 32) hx hb dX3_size_7 (by decide) (fun h9 => absurd h9 (by decide)) (fun _ => ?_)
            refine lv_iload_n hx hb dX3_size_10 rfl (lv_at hl 1 rfl) ?_
            refine lv_aload_n hx hb dX3_size_11 rfl (lv_at hl 2 rfl) ?_
            refine lv_iload_n hx hb dX3_size_12 rfl (lv_at hl 0 rfl) ?_
            refine gs_calli (va_runV (As := [.int 5]) (rest := [.int 2]) ⟨hx, hb, hml, hown, hts⟩ (s_X3_isThere l G cy sK sV ad H.size st (5 : Int32) 5 (by decide) (by first | decide | omega) (by first | decide | omega)) ⟨(gz_cb (n := 1) hts gm_733 gm_4 gm_350 ⟨by decide +kernel, by decide +kernel, by decide +kernel⟩ ⟨Nat.le_of_ble_eq_true rfl, Nat.le_of_ble_eq_true rfl⟩), hts _ gm_348, hts _ gm_349⟩ (gs_preV hK hov hE hI hM hm hS hA 4 0 (by decide) rfl rfl) rfl rfl hl.1 rfl (lv_room (Nat.le_of_ble_eq_true rfl)) dX3_size_13 ⟨Nat.le_of_ble_eq_true rfl, Nat.le_of_ble_eq_true rfl⟩) hm hS hA (fun r_47 st_47 H locs hw_47 hM hS => ?_)
            obtain ⟨n_47, hw_47⟩ := hw_47
            have n_47 := gN0 n_47
            subst n_47
            rcases hw_47 with ⟨rfl, hw_47_0⟩ | ⟨rfl, hw_47_0⟩
            · skip
              refine lv_if_eq (tgt := 23) hx hb dX3_size_16 (by decide) (fun h9 => absurd h9 (by decide)) (fun _ => ?_)
              refine lv_iconst (v := 1) hx hb dX3_size_19 (by decide) ?_
              refine lv_goto (tgt := 24) hx hb dX3_size_20 (by decide) ?_
              refine lv_iadd hx hb dX3_size_24 ?_
              refine lv_topi (fun x_48 ex_48 => ?_)
              obtain rfl : x_48 = (3 : Int32) := ex_48.trans (by decide)
              refine lv_istore_n (lv' := [(1, .int 3), (2, .int 5), (0, .ref (ad 4 0))]) hx hb dX3_size_25 rfl hl (by decide) rfl (fun ls hl => ?_)
              refine lv_iinc (v := (6)) (lv' := [(2, .int 6), (1, .int 3), (0, .ref (ad 4 0))]) hx hb dX3_size_26 hl (k := 1) rfl (by decide) (by decide) rfl (fun ls hl => ?_)
              refine lv_goto (tgt := 4) hx hb dX3_size_29 (by decide) ?_
              refine lv_iload_n hx hb dX3_size_4 rfl (lv_at hl 0 rfl) ?_
              refine lv_bipush (v := 6) hx hb dX3_size_5 (by decide) ?_
              refine lv_icmp_ge (tgt := 32) hx hb dX3_size_7 (by decide) (fun _ => ?_) (fun h9 => absurd (by decide) h9)
              refine lv_iload_n hx hb dX3_size_32 rfl (lv_at hl 1 rfl) ?_
              exact gs_iret hx hb hr hlocks hM hS rfl ⟨gN.rf, trivial⟩ (by exact Nat.le_refl _) (by exact Nat.le_refl _) dX3_size_33
            · skip
              refine lv_if_eq (tgt := 23) hx hb dX3_size_16 (by decide) (fun _ => ?_) (fun h9 => absurd (by decide) h9)
              refine lv_iconst (v := 0) hx hb dX3_size_23 (by decide) ?_
              refine lv_iadd hx hb dX3_size_24 ?_
              refine lv_topi (fun x_49 ex_49 => ?_)
              obtain rfl : x_49 = (2 : Int32) := ex_49.trans (by decide)
              refine lv_istore_n (lv' := [(1, .int 2), (2, .int 5), (0, .ref (ad 4 0))]) hx hb dX3_size_25 rfl hl (by decide) rfl (fun ls hl => ?_)
              refine lv_iinc (v := (6)) (lv' := [(2, .int 6), (1, .int 2), (0, .ref (ad 4 0))]) hx hb dX3_size_26 hl (k := 1) rfl (by decide) (by decide) rfl (fun ls hl => ?_)
              refine lv_goto (tgt := 4) hx hb dX3_size_29 (by decide) ?_
              refine lv_iload_n hx hb dX3_size_4 rfl (lv_at hl 0 rfl) ?_
              refine lv_bipush (v := 6) hx hb dX3_size_5 (by decide) ?_
              refine lv_icmp_ge (tgt := 32) hx hb dX3_size_7 (by decide) (fun _ => ?_) (fun h9 => absurd (by decide) h9)
              refine lv_iload_n hx hb dX3_size_32 rfl (lv_at hl 1 rfl) ?_
              exact gs_iret hx hb hr hlocks hM hS rfl ⟨gN.rf, trivial⟩ (by exact Nat.le_refl _) (by exact Nat.le_refl _) dX3_size_33
    · skip
      refine lv_if_eq (tgt := 23) hx hb dX3_size_16 (by decide) (fun _ => ?_) (fun h9 => absurd (by decide) h9)
      refine lv_iconst (v := 0) hx hb dX3_size_23 (by decide) ?_
      refine lv_iadd hx hb dX3_size_24 ?_
      refine lv_topi (fun x_50 ex_50 => ?_)
      obtain rfl : x_50 = (1 : Int32) := ex_50.trans (by decide)
      refine lv_istore_n (lv' := [(1, .int 1), (2, .int 1), (0, .ref (ad 4 0))]) hx hb dX3_size_25 rfl hl (by decide) rfl (fun ls hl => ?_)
      refine lv_iinc (v := (2)) (lv' := [(2, .int 2), (1, .int 1), (0, .ref (ad 4 0))]) hx hb dX3_size_26 hl (k := 1) rfl (by decide) (by decide) rfl (fun ls hl => ?_)
      refine lv_goto (tgt := 4) hx hb dX3_size_29 (by decide) ?_
      refine lv_iload_n hx hb dX3_size_4 rfl (lv_at hl 0 rfl) ?_
      refine lv_bipush (v := 6) hx hb dX3_size_5 (by decide) ?_
      refine lv_icmp_ge (tgt := 32) hx hb dX3_size_7 (by decide) (fun h9 => absurd h9 (by decide)) (fun _ => ?_)
      refine lv_iload_n hx hb dX3_size_10 rfl (lv_at hl 1 rfl) ?_
      refine lv_aload_n hx hb dX3_size_11 rfl (lv_at hl 2 rfl) ?_
      refine lv_iload_n hx hb dX3_size_12 rfl (lv_at hl 0 rfl) ?_
      refine gs_calli (va_runV (As := [.int 2]) (rest := [.int 1]) ⟨hx, hb, hml, hown, hts⟩ (s_X3_isThere l G cy sK sV ad H.size st (2 : Int32) 2 (by decide) (by first | decide | omega) (by first | decide | omega)) ⟨(gz_cb (n := 1) hts gm_733 gm_4 gm_350 ⟨by decide +kernel, by decide +kernel, by decide +kernel⟩ ⟨Nat.le_of_ble_eq_true rfl, Nat.le_of_ble_eq_true rfl⟩), hts _ gm_348, hts _ gm_349⟩ (gs_preV hK hov hE hI hM hm hS hA 4 0 (by decide) rfl rfl) rfl rfl hl.1 rfl (lv_room (Nat.le_of_ble_eq_true rfl)) dX3_size_13 ⟨Nat.le_of_ble_eq_true rfl, Nat.le_of_ble_eq_true rfl⟩) hm hS hA (fun r_51 st_51 H locs hw_51 hM hS => ?_)
      obtain ⟨n_51, hw_51⟩ := hw_51
      have n_51 := gN0 n_51
      subst n_51
      rcases hw_51 with ⟨rfl, hw_51_0⟩ | ⟨rfl, hw_51_0⟩
      · skip
        refine lv_if_eq (tgt := 23) hx hb dX3_size_16 (by decide) (fun h9 => absurd h9 (by decide)) (fun _ => ?_)
        refine lv_iconst (v := 1) hx hb dX3_size_19 (by decide) ?_
        refine lv_goto (tgt := 24) hx hb dX3_size_20 (by decide) ?_
        refine lv_iadd hx hb dX3_size_24 ?_
        refine lv_topi (fun x_52 ex_52 => ?_)
        obtain rfl : x_52 = (2 : Int32) := ex_52.trans (by decide)
        refine lv_istore_n (lv' := [(1, .int 2), (2, .int 2), (0, .ref (ad 4 0))]) hx hb dX3_size_25 rfl hl (by decide) rfl (fun ls hl => ?_)
        refine lv_iinc (v := (3)) (lv' := [(2, .int 3), (1, .int 2), (0, .ref (ad 4 0))]) hx hb dX3_size_26 hl (k := 1) rfl (by decide) (by decide) rfl (fun ls hl => ?_)
        refine lv_goto (tgt := 4) hx hb dX3_size_29 (by decide) ?_
        refine lv_iload_n hx hb dX3_size_4 rfl (lv_at hl 0 rfl) ?_
        refine lv_bipush (v := 6) hx hb dX3_size_5 (by decide) ?_
        refine lv_icmp_ge (tgt := 32) hx hb dX3_size_7 (by decide) (fun h9 => absurd h9 (by decide)) (fun _ => ?_)
        refine lv_iload_n hx hb dX3_size_10 rfl (lv_at hl 1 rfl) ?_
        refine lv_aload_n hx hb dX3_size_11 rfl (lv_at hl 2 rfl) ?_
        refine lv_iload_n hx hb dX3_size_12 rfl (lv_at hl 0 rfl) ?_
        refine gs_calli (va_runV (As := [.int 3]) (rest := [.int 2]) ⟨hx, hb, hml, hown, hts⟩ (s_X3_isThere l G cy sK sV ad H.size st (3 : Int32) 3 (by decide) (by first | decide | omega) (by first | decide | omega)) ⟨(gz_cb (n := 1) hts gm_733 gm_4 gm_350 ⟨by decide +kernel, by decide +kernel, by decide +kernel⟩ ⟨Nat.le_of_ble_eq_true rfl, Nat.le_of_ble_eq_true rfl⟩), hts _ gm_348, hts _ gm_349⟩ (gs_preV hK hov hE hI hM hm hS hA 4 0 (by decide) rfl rfl) rfl rfl hl.1 rfl (lv_room (Nat.le_of_ble_eq_true rfl)) dX3_size_13 ⟨Nat.le_of_ble_eq_true rfl, Nat.le_of_ble_eq_true rfl⟩) hm hS hA (fun r_53 st_53 H locs hw_53 hM hS => ?_)
        obtain ⟨n_53, hw_53⟩ := hw_53
        have n_53 := gN0 n_53
        subst n_53
        rcases hw_53 with ⟨rfl, hw_53_0⟩ | ⟨rfl, hw_53_0⟩
        · skip
          refine lv_if_eq (tgt := 23) hx hb dX3_size_16 (by decide) (fun h9 => absurd h9 (by decide)) (fun _ => ?_)
          refine lv_iconst (v := 1) hx hb dX3_size_19 (by decide) ?_
          refine lv_goto (tgt := 24) hx hb dX3_size_20 (by decide) ?_
          refine lv_iadd hx hb dX3_size_24 ?_
          refine lv_topi (fun x_54 ex_54 => ?_)
          obtain rfl : x_54 = (3 : Int32) := ex_54.trans (by decide)
          refine lv_istore_n (lv' := [(1, .int 3), (2, .int 3), (0, .ref (ad 4 0))]) hx hb dX3_size_25 rfl hl (by decide) rfl (fun ls hl => ?_)
          refine lv_iinc (v := (4)) (lv' := [(2, .int 4), (1, .int 3), (0, .ref (ad 4 0))]) hx hb dX3_size_26 hl (k := 1) rfl (by decide) (by decide) rfl (fun ls hl => ?_)
          refine lv_goto (tgt := 4) hx hb dX3_size_29 (by decide) ?_
          refine lv_iload_n hx hb dX3_size_4 rfl (lv_at hl 0 rfl) ?_
          refine lv_bipush (v := 6) hx hb dX3_size_5 (by decide) ?_
          refine lv_icmp_ge (tgt := 32) hx hb dX3_size_7 (by decide) (fun h9 => absurd h9 (by decide)) (fun _ => ?_)
          refine lv_iload_n hx hb dX3_size_10 rfl (lv_at hl 1 rfl) ?_
          refine lv_aload_n hx hb dX3_size_11 rfl (lv_at hl 2 rfl) ?_
          refine lv_iload_n hx hb dX3_size_12 rfl (lv_at hl 0 rfl) ?_
          refine gs_calli (va_runV (As := [.int 4]) (rest := [.int 3]) ⟨hx, hb, hml, hown, hts⟩ (s_X3_isThere l G cy sK sV ad H.size st (4 : Int32) 4 (by decide) (by first | decide | omega) (by first | decide | omega)) ⟨(gz_cb (n := 1) hts gm_733 gm_4 gm_350 ⟨by decide +kernel, by decide +kernel, by decide +kernel⟩ ⟨Nat.le_of_ble_eq_true rfl, Nat.le_of_ble_eq_true rfl⟩), hts _ gm_348, hts _ gm_349⟩ (gs_preV hK hov hE hI hM hm hS hA 4 0 (by decide) rfl rfl) rfl rfl hl.1 rfl (lv_room (Nat.le_of_ble_eq_true rfl)) dX3_size_13 ⟨Nat.le_of_ble_eq_true rfl, Nat.le_of_ble_eq_true rfl⟩) hm hS hA (fun r_55 st_55 H locs hw_55 hM hS => ?_)
          obtain ⟨n_55, hw_55⟩ := hw_55
          have n_55 := gN0 n_55
          subst n_55
          rcases hw_55 with ⟨rfl, hw_55_0⟩ | ⟨rfl, hw_55_0⟩
          · skip
            refine lv_if_eq (tgt := 23) hx hb dX3_size_16 (by decide) (fun h9 => absurd h9 (by decide)) (fun _ => ?_)
            refine lv_iconst (v := 1) hx hb dX3_size_19 (by decide) ?_
            refine lv_goto (tgt := 24) hx hb dX3_size_20 (by decide) ?_
            refine lv_iadd hx hb dX3_size_24 ?_
            refine lv_topi (fun x_56 ex_56 => ?_)
            obtain rfl : x_56 = (4 : Int32) := ex_56.trans (by decide)
            refine lv_istore_n (lv' := [(1, .int 4), (2, .int 4), (0, .ref (ad 4 0))]) hx hb dX3_size_25 rfl hl (by decide) rfl (fun ls hl => ?_)
            refine lv_iinc (v := (5)) (lv' := [(2, .int 5), (1, .int 4), (0, .ref (ad 4 0))]) hx hb dX3_size_26 hl (k := 1) rfl (by decide) (by decide) rfl (fun ls hl => ?_)
            refine lv_goto (tgt := 4) hx hb dX3_size_29 (by decide) ?_
            refine lv_iload_n hx hb dX3_size_4 rfl (lv_at hl 0 rfl) ?_
            refine lv_bipush (v := 6) hx hb dX3_size_5 (by decide) ?_
            refine lv_icmp_ge (tgt := 32) hx hb dX3_size_7 (by decide) (fun h9 => absurd h9 (by decide)) (fun _ => ?_)
            refine lv_iload_n hx hb dX3_size_10 rfl (lv_at hl 1 rfl) ?_
            refine lv_aload_n hx hb dX3_size_11 rfl (lv_at hl 2 rfl) ?_
            refine lv_iload_n hx hb dX3_size_12 rfl (lv_at hl 0 rfl) ?_
            refine gs_calli (va_runV (As := [.int 5]) (rest := [.int 4]) ⟨hx, hb, hml, hown, hts⟩ (s_X3_isThere l G cy sK sV ad H.size st (5 : Int32) 5 (by decide) (by first | decide | omega) (by first | decide | omega)) ⟨(gz_cb (n := 1) hts gm_733 gm_4 gm_350 ⟨by decide +kernel, by decide +kernel, by decide +kernel⟩ ⟨Nat.le_of_ble_eq_true rfl, Nat.le_of_ble_eq_true rfl⟩), hts _ gm_348, hts _ gm_349⟩ (gs_preV hK hov hE hI hM hm hS hA 4 0 (by decide) rfl rfl) rfl rfl hl.1 rfl (lv_room (Nat.le_of_ble_eq_true rfl)) dX3_size_13 ⟨Nat.le_of_ble_eq_true rfl, Nat.le_of_ble_eq_true rfl⟩) hm hS hA (fun r_57 st_57 H locs hw_57 hM hS => ?_)
            obtain ⟨n_57, hw_57⟩ := hw_57
            have n_57 := gN0 n_57
            subst n_57
            rcases hw_57 with ⟨rfl, hw_57_0⟩ | ⟨rfl, hw_57_0⟩
            · skip
              refine lv_if_eq (tgt := 23) hx hb dX3_size_16 (by decide) (fun h9 => absurd h9 (by decide)) (fun _ => ?_)
              refine lv_iconst (v := 1) hx hb dX3_size_19 (by decide) ?_
              refine lv_goto (tgt := 24) hx hb dX3_size_20 (by decide) ?_
              refine lv_iadd hx hb dX3_size_24 ?_
              refine lv_topi (fun x_58 ex_58 => ?_)
              obtain rfl : x_58 = (5 : Int32) := ex_58.trans (by decide)
              refine lv_istore_n (lv' := [(1, .int 5), (2, .int 5), (0, .ref (ad 4 0))]) hx hb dX3_size_25 rfl hl (by decide) rfl (fun ls hl => ?_)
              refine lv_iinc (v := (6)) (lv' := [(2, .int 6), (1, .int 5), (0, .ref (ad 4 0))]) hx hb dX3_size_26 hl (k := 1) rfl (by decide) (by decide) rfl (fun ls hl => ?_)
              refine lv_goto (tgt := 4) hx hb dX3_size_29 (by decide) ?_
              refine lv_iload_n hx hb dX3_size_4 rfl (lv_at hl 0 rfl) ?_
              refine lv_bipush (v := 6) hx hb dX3_size_5 (by decide) ?_
              refine lv_icmp_ge (tgt := 32) hx hb dX3_size_7 (by decide) (fun _ => ?_) (fun h9 => absurd (by decide) h9)
              refine lv_iload_n hx hb dX3_size_32 rfl (lv_at hl 1 rfl) ?_
              exact gs_iret hx hb hr hlocks hM hS rfl ⟨gN.rf, trivial⟩ (by exact Nat.le_refl _) (by exact Nat.le_refl _) dX3_size_33
            · skip
              refine lv_if_eq (tgt := 23) hx hb dX3_size_16 (by decide) (fun _ => ?_) (fun h9 => absurd (by decide) h9)
              refine lv_iconst (v := 0) hx hb dX3_size_23 (by decide) ?_
              refine lv_iadd hx hb dX3_size_24 ?_
              refine lv_topi (fun x_59 ex_59 => ?_)
              obtain rfl : x_59 = (4 : Int32) := ex_59.trans (by decide)
              refine lv_istore_n (lv' := [(1, .int 4), (2, .int 5), (0, .ref (ad 4 0))]) hx hb dX3_size_25 rfl hl (by decide) rfl (fun ls hl => ?_)
              refine lv_iinc (v := (6)) (lv' := [(2, .int 6), (1, .int 4), (0, .ref (ad 4 0))]) hx hb dX3_size_26 hl (k := 1) rfl (by decide) (by decide) rfl (fun ls hl => ?_)
              refine lv_goto (tgt := 4) hx hb dX3_size_29 (by decide) ?_
              refine lv_iload_n hx hb dX3_size_4 rfl (lv_at hl 0 rfl) ?_
              refine lv_bipush (v := 6) hx hb dX3_size_5 (by decide) ?_
              refine lv_icmp_ge (tgt := 32) hx hb dX3_size_7 (by decide) (fun _ => ?_) (fun h9 => absurd (by decide) h9)
              refine lv_iload_n hx hb dX3_size_32 rfl (lv_at hl 1 rfl) ?_
              exact gs_iret hx hb hr hlocks hM hS rfl ⟨gN.rf, trivial⟩ (by exact Nat.le_refl _) (by exact Nat.le_refl _) dX3_size_33
          · skip
            refine lv_if_eq (tgt := 23) hx hb dX3_size_16 (by decide) (fun _ => ?_) (fun h9 => absurd (by decide) h9)
            refine lv_iconst (v := 0) hx hb dX3_size_23 (by decide) ?_
            refine lv_iadd hx hb dX3_size_24 ?_
            refine lv_topi (fun x_60 ex_60 => ?_)
            obtain rfl : x_60 = (3 : Int32) := ex_60.trans (by decide)
            refine lv_istore_n (lv' := [(1, .int 3), (2, .int 4), (0, .ref (ad 4 0))]) hx hb dX3_size_25 rfl hl (by decide) rfl (fun ls hl => ?_)
            refine lv_iinc (v := (5)) (lv' := [(2, .int 5), (1, .int 3), (0, .ref (ad 4 0))]) hx hb dX3_size_26 hl (k := 1) rfl (by decide) (by decide) rfl (fun ls hl => ?_)
            refine lv_goto (tgt := 4) hx hb dX3_size_29 (by decide) ?_
            refine lv_iload_n hx hb dX3_size_4 rfl (lv_at hl 0 rfl) ?_
            refine lv_bipush (v := 6) hx hb dX3_size_5 (by decide) ?_
            refine lv_icmp_ge (tgt := 32) hx hb dX3_size_7 (by decide) (fun h9 => absurd h9 (by decide)) (fun _ => ?_)
            refine lv_iload_n hx hb dX3_size_10 rfl (lv_at hl 1 rfl) ?_
            refine lv_aload_n hx hb dX3_size_11 rfl (lv_at hl 2 rfl) ?_
            refine lv_iload_n hx hb dX3_size_12 rfl (lv_at hl 0 rfl) ?_
            refine gs_calli (va_runV (As := [.int 5]) (rest := [.int 3]) ⟨hx, hb, hml, hown, hts⟩ (s_X3_isThere l G cy sK sV ad H.size st (5 : Int32) 5 (by decide) (by first | decide | omega) (by first | decide | omega)) ⟨(gz_cb (n := 1) hts gm_733 gm_4 gm_350 ⟨by decide +kernel, by decide +kernel, by decide +kernel⟩ ⟨Nat.le_of_ble_eq_true rfl, Nat.le_of_ble_eq_true rfl⟩), hts _ gm_348, hts _ gm_349⟩ (gs_preV hK hov hE hI hM hm hS hA 4 0 (by decide) rfl rfl) rfl rfl hl.1 rfl (lv_room (Nat.le_of_ble_eq_true rfl)) dX3_size_13 ⟨Nat.le_of_ble_eq_true rfl, Nat.le_of_ble_eq_true rfl⟩) hm hS hA (fun r_61 st_61 H locs hw_61 hM hS => ?_)
            obtain ⟨n_61, hw_61⟩ := hw_61
            have n_61 := gN0 n_61
            subst n_61
            rcases hw_61 with ⟨rfl, hw_61_0⟩ | ⟨rfl, hw_61_0⟩
            · skip
              refine lv_if_eq (tgt := 23) hx hb dX3_size_16 (by decide) (fun h9 => absurd h9 (by decide)) (fun _ => ?_)
              refine lv_iconst (v := 1) hx hb dX3_size_19 (by decide) ?_
              refine lv_goto (tgt := 24) hx hb dX3_size_20 (by decide) ?_
              refine lv_iadd hx hb dX3_size_24 ?_
              refine lv_topi (fun x_62 ex_62 => ?_)
              obtain rfl : x_62 = (4 : Int32) := ex_62.trans (by decide)
              refine lv_istore_n (lv' := [(1, .int 4), (2, .int 5), (0, .ref (ad 4 0))]) hx hb dX3_size_25 rfl hl (by decide) rfl (fun ls hl => ?_)
              refine lv_iinc (v := (6)) (lv' := [(2, .int 6), (1, .int 4), (0, .ref (ad 4 0))]) hx hb dX3_size_26 hl (k := 1) rfl (by decide) (by decide) rfl (fun ls hl => ?_)
              refine lv_goto (tgt := 4) hx hb dX3_size_29 (by decide) ?_
              refine lv_iload_n hx hb dX3_size_4 rfl (lv_at hl 0 rfl) ?_
              refine lv_bipush (v := 6) hx hb dX3_size_5 (by decide) ?_
              refine lv_icmp_ge (tgt := 32) hx hb dX3_size_7 (by decide) (fun _ => ?_) (fun h9 => absurd (by decide) h9)
              refine lv_iload_n hx hb dX3_size_32 rfl (lv_at hl 1 rfl) ?_
              exact gs_iret hx hb hr hlocks hM hS rfl ⟨gN.rf, trivial⟩ (by exact Nat.le_refl _) (by exact Nat.le_refl _) dX3_size_33
            · skip
              refine lv_if_eq (tgt := 23) hx hb dX3_size_16 (by decide) (fun _ => ?_) (fun h9 => absurd (by decide) h9)
              refine lv_iconst (v := 0) hx hb dX3_size_23 (by decide) ?_
              refine lv_iadd hx hb dX3_size_24 ?_
              refine lv_topi (fun x_63 ex_63 => ?_)
              obtain rfl : x_63 = (3 : Int32) := ex_63.trans (by decide)
              refine lv_istore_n (lv' := [(1, .int 3), (2, .int 5), (0, .ref (ad 4 0))]) hx hb dX3_size_25 rfl hl (by decide) rfl (fun ls hl => ?_)
              refine lv_iinc (v := (6)) (lv' := [(2, .int 6), (1, .int 3), (0, .ref (ad 4 0))]) hx hb dX3_size_26 hl (k := 1) rfl (by decide) (by decide) rfl (fun ls hl => ?_)
              refine lv_goto (tgt := 4) hx hb dX3_size_29 (by decide) ?_
              refine lv_iload_n hx hb dX3_size_4 rfl (lv_at hl 0 rfl) ?_
              refine lv_bipush (v := 6) hx hb dX3_size_5 (by decide) ?_
              refine lv_icmp_ge (tgt := 32) hx hb dX3_size_7 (by decide) (fun _ => ?_) (fun h9 => absurd (by decide) h9)
              refine lv_iload_n hx hb dX3_size_32 rfl (lv_at hl 1 rfl) ?_
              exact gs_iret hx hb hr hlocks hM hS rfl ⟨gN.rf, trivial⟩ (by exact Nat.le_refl _) (by exact Nat.le_refl _) dX3_size_33
        · skip
          refine lv_if_eq (tgt := 23) hx hb dX3_size_16 (by decide) (fun _ => ?_) (fun h9 => absurd (by decide) h9)
          refine lv_iconst (v := 0) hx hb dX3_size_23 (by decide) ?_
          refine lv_iadd hx hb dX3_size_24 ?_
          refine lv_topi (fun x_64 ex_64 => ?_)
          obtain rfl : x_64 = (2 : Int32) := ex_64.trans (by decide)
          refine lv_istore_n (lv' := [(1, .int 2), (2, .int 3), (0, .ref (ad 4 0))]) hx hb dX3_size_25 rfl hl (by decide) rfl (fun ls hl => ?_)
          refine lv_iinc (v := (4)) (lv' := [(2, .int 4), (1, .int 2), (0, .ref (ad 4 0))]) hx hb dX3_size_26 hl (k := 1) rfl (by decide) (by decide) rfl (fun ls hl => ?_)
          refine lv_goto (tgt := 4) hx hb dX3_size_29 (by decide) ?_
          refine lv_iload_n hx hb dX3_size_4 rfl (lv_at hl 0 rfl) ?_
          refine lv_bipush (v := 6) hx hb dX3_size_5 (by decide) ?_
          refine lv_icmp_ge (tgt := 32) hx hb dX3_size_7 (by decide) (fun h9 => absurd h9 (by decide)) (fun _ => ?_)
          refine lv_iload_n hx hb dX3_size_10 rfl (lv_at hl 1 rfl) ?_
          refine lv_aload_n hx hb dX3_size_11 rfl (lv_at hl 2 rfl) ?_
          refine lv_iload_n hx hb dX3_size_12 rfl (lv_at hl 0 rfl) ?_
          refine gs_calli (va_runV (As := [.int 4]) (rest := [.int 2]) ⟨hx, hb, hml, hown, hts⟩ (s_X3_isThere l G cy sK sV ad H.size st (4 : Int32) 4 (by decide) (by first | decide | omega) (by first | decide | omega)) ⟨(gz_cb (n := 1) hts gm_733 gm_4 gm_350 ⟨by decide +kernel, by decide +kernel, by decide +kernel⟩ ⟨Nat.le_of_ble_eq_true rfl, Nat.le_of_ble_eq_true rfl⟩), hts _ gm_348, hts _ gm_349⟩ (gs_preV hK hov hE hI hM hm hS hA 4 0 (by decide) rfl rfl) rfl rfl hl.1 rfl (lv_room (Nat.le_of_ble_eq_true rfl)) dX3_size_13 ⟨Nat.le_of_ble_eq_true rfl, Nat.le_of_ble_eq_true rfl⟩) hm hS hA (fun r_65 st_65 H locs hw_65 hM hS => ?_)
          obtain ⟨n_65, hw_65⟩ := hw_65
          have n_65 := gN0 n_65
          subst n_65
          rcases hw_65 with ⟨rfl, hw_65_0⟩ | ⟨rfl, hw_65_0⟩
          · skip
            refine lv_if_eq (tgt := 23) hx hb dX3_size_16 (by decide) (fun h9 => absurd h9 (by decide)) (fun _ => ?_)
            refine lv_iconst (v := 1) hx hb dX3_size_19 (by decide) ?_
            refine lv_goto (tgt := 24) hx hb dX3_size_20 (by decide) ?_
            refine lv_iadd hx hb dX3_size_24 ?_
            refine lv_topi (fun x_66 ex_66 => ?_)
            obtain rfl : x_66 = (3 : Int32) := ex_66.trans (by decide)
            refine lv_istore_n (lv' := [(1, .int 3), (2, .int 4), (0, .ref (ad 4 0))]) hx hb dX3_size_25 rfl hl (by decide) rfl (fun ls hl => ?_)
            refine lv_iinc (v := (5)) (lv' := [(2, .int 5), (1, .int 3), (0, .ref (ad 4 0))]) hx hb dX3_size_26 hl (k := 1) rfl (by decide) (by decide) rfl (fun ls hl => ?_)
            refine lv_goto (tgt := 4) hx hb dX3_size_29 (by decide) ?_
            refine lv_iload_n hx hb dX3_size_4 rfl (lv_at hl 0 rfl) ?_
            refine lv_bipush (v := 6) hx hb dX3_size_5 (by decide) ?_
            refine lv_icmp_ge (tgt := 32) hx hb dX3_size_7 (by decide) (fun h9 => absurd h9 (by decide)) (fun _ => ?_)
            refine lv_iload_n hx hb dX3_size_10 rfl (lv_at hl 1 rfl) ?_
            refine lv_aload_n hx hb dX3_size_11 rfl (lv_at hl 2 rfl) ?_
            refine lv_iload_n hx hb dX3_size_12 rfl (lv_at hl 0 rfl) ?_
            refine gs_calli (va_runV (As := [.int 5]) (rest := [.int 3]) ⟨hx, hb, hml, hown, hts⟩ (s_X3_isThere l G cy sK sV ad H.size st (5 : Int32) 5 (by decide) (by first | decide | omega) (by first | decide | omega)) ⟨(gz_cb (n := 1) hts gm_733 gm_4 gm_350 ⟨by decide +kernel, by decide +kernel, by decide +kernel⟩ ⟨Nat.le_of_ble_eq_true rfl, Nat.le_of_ble_eq_true rfl⟩), hts _ gm_348, hts _ gm_349⟩ (gs_preV hK hov hE hI hM hm hS hA 4 0 (by decide) rfl rfl) rfl rfl hl.1 rfl (lv_room (Nat.le_of_ble_eq_true rfl)) dX3_size_13 ⟨Nat.le_of_ble_eq_true rfl, Nat.le_of_ble_eq_true rfl⟩) hm hS hA (fun r_67 st_67 H locs hw_67 hM hS => ?_)
            obtain ⟨n_67, hw_67⟩ := hw_67
            have n_67 := gN0 n_67
            subst n_67
            rcases hw_67 with ⟨rfl, hw_67_0⟩ | ⟨rfl, hw_67_0⟩
            · skip
              refine lv_if_eq (tgt := 23) hx hb dX3_size_16 (by decide) (fun h9 => absurd h9 (by decide)) (fun _ => ?_)
              refine lv_iconst (v := 1) hx hb dX3_size_19 (by decide) ?_
              refine lv_goto (tgt := 24) hx hb dX3_size_20 (by decide) ?_
              refine lv_iadd hx hb dX3_size_24 ?_
              refine lv_topi (fun x_68 ex_68 => ?_)
              obtain rfl : x_68 = (4 : Int32) := ex_68.trans (by decide)
              refine lv_istore_n (lv' := [(1, .int 4), (2, .int 5), (0, .ref (ad 4 0))]) hx hb dX3_size_25 rfl hl (by decide) rfl (fun ls hl => ?_)
              refine lv_iinc (v := (6)) (lv' := [(2, .int 6), (1, .int 4), (0, .ref (ad 4 0))]) hx hb dX3_size_26 hl (k := 1) rfl (by decide) (by decide) rfl (fun ls hl => ?_)
              refine lv_goto (tgt := 4) hx hb dX3_size_29 (by decide) ?_
              refine lv_iload_n hx hb dX3_size_4 rfl (lv_at hl 0 rfl) ?_
              refine lv_bipush (v := 6) hx hb dX3_size_5 (by decide) ?_
              refine lv_icmp_ge (tgt := 32) hx hb dX3_size_7 (by decide) (fun _ => ?_) (fun h9 => absurd (by decide) h9)
              refine lv_iload_n hx hb dX3_size_32 rfl (lv_at hl 1 rfl) ?_
              exact gs_iret hx hb hr hlocks hM hS rfl ⟨gN.rf, trivial⟩ (by exact Nat.le_refl _) (by exact Nat.le_refl _) dX3_size_33
            · skip
              refine lv_if_eq (tgt := 23) hx hb dX3_size_16 (by decide) (fun _ => ?_) (fun h9 => absurd (by decide) h9)
              refine lv_iconst (v := 0) hx hb dX3_size_23 (by decide) ?_
              refine lv_iadd hx hb dX3_size_24 ?_
              refine lv_topi (fun x_69 ex_69 => ?_)
              obtain rfl : x_69 = (3 : Int32) := ex_69.trans (by decide)
              refine lv_istore_n (lv' := [(1, .int 3), (2, .int 5), (0, .ref (ad 4 0))]) hx hb dX3_size_25 rfl hl (by decide) rfl (fun ls hl => ?_)
              refine lv_iinc (v := (6)) (lv' := [(2, .int 6), (1, .int 3), (0, .ref (ad 4 0))]) hx hb dX3_size_26 hl (k := 1) rfl (by decide) (by decide) rfl (fun ls hl => ?_)
              refine lv_goto (tgt := 4) hx hb dX3_size_29 (by decide) ?_
              refine lv_iload_n hx hb dX3_size_4 rfl (lv_at hl 0 rfl) ?_
              refine lv_bipush (v := 6) hx hb dX3_size_5 (by decide) ?_
              refine lv_icmp_ge (tgt := 32) hx hb dX3_size_7 (by decide) (fun _ => ?_) (fun h9 => absurd (by decide) h9)
              refine lv_iload_n hx hb dX3_size_32 rfl (lv_at hl 1 rfl) ?_
              exact gs_iret hx hb hr hlocks hM hS rfl ⟨gN.rf, trivial⟩ (by exact Nat.le_refl _) (by exact Nat.le_refl _) dX3_size_33
          · skip
            refine lv_if_eq (tgt := 23) hx hb dX3_size_16 (by decide) (fun _ => ?_) (fun h9 => absurd (by decide) h9)
            refine lv_iconst (v := 0) hx hb dX3_size_23 (by decide) ?_
            refine lv_iadd hx hb dX3_size_24 ?_
            refine lv_topi (fun x_70 ex_70 => ?_)
            obtain rfl : x_70 = (2 : Int32) := ex_70.trans (by decide)
            refine lv_istore_n (lv' := [(1, .int 2), (2, .int 4), (0, .ref (ad 4 0))]) hx hb dX3_size_25 rfl hl (by decide) rfl (fun ls hl => ?_)
            refine lv_iinc (v := (5)) (lv' := [(2, .int 5), (1, .int 2), (0, .ref (ad 4 0))]) hx hb dX3_size_26 hl (k := 1) rfl (by decide) (by decide) rfl (fun ls hl => ?_)
            refine lv_goto (tgt := 4) hx hb dX3_size_29 (by decide) ?_
            refine lv_iload_n hx hb dX3_size_4 rfl (lv_at hl 0 rfl) ?_
            refine lv_bipush (v := 6) hx hb dX3_size_5 (by decide) ?_
            refine lv_icmp_ge (tgt := 32) hx hb dX3_size_7 (by decide) (fun h9 => absurd h9 (by decide)) (fun _ => ?_)
            refine lv_iload_n hx hb dX3_size_10 rfl (lv_at hl 1 rfl) ?_
            refine lv_aload_n hx hb dX3_size_11 rfl (lv_at hl 2 rfl) ?_
            refine lv_iload_n hx hb dX3_size_12 rfl (lv_at hl 0 rfl) ?_
            refine gs_calli (va_runV (As := [.int 5]) (rest := [.int 2]) ⟨hx, hb, hml, hown, hts⟩ (s_X3_isThere l G cy sK sV ad H.size st (5 : Int32) 5 (by decide) (by first | decide | omega) (by first | decide | omega)) ⟨(gz_cb (n := 1) hts gm_733 gm_4 gm_350 ⟨by decide +kernel, by decide +kernel, by decide +kernel⟩ ⟨Nat.le_of_ble_eq_true rfl, Nat.le_of_ble_eq_true rfl⟩), hts _ gm_348, hts _ gm_349⟩ (gs_preV hK hov hE hI hM hm hS hA 4 0 (by decide) rfl rfl) rfl rfl hl.1 rfl (lv_room (Nat.le_of_ble_eq_true rfl)) dX3_size_13 ⟨Nat.le_of_ble_eq_true rfl, Nat.le_of_ble_eq_true rfl⟩) hm hS hA (fun r_71 st_71 H locs hw_71 hM hS => ?_)
            obtain ⟨n_71, hw_71⟩ := hw_71
            have n_71 := gN0 n_71
            subst n_71
            rcases hw_71 with ⟨rfl, hw_71_0⟩ | ⟨rfl, hw_71_0⟩
            · skip
              refine lv_if_eq (tgt := 23) hx hb dX3_size_16 (by decide) (fun h9 => absurd h9 (by decide)) (fun _ => ?_)
              refine lv_iconst (v := 1) hx hb dX3_size_19 (by decide) ?_
              refine lv_goto (tgt := 24) hx hb dX3_size_20 (by decide) ?_
              refine lv_iadd hx hb dX3_size_24 ?_
              refine lv_topi (fun x_72 ex_72 => ?_)
              obtain rfl : x_72 = (3 : Int32) := ex_72.trans (by decide)
              refine lv_istore_n (lv' := [(1, .int 3), (2, .int 5), (0, .ref (ad 4 0))]) hx hb dX3_size_25 rfl hl (by decide) rfl (fun ls hl => ?_)
              refine lv_iinc (v := (6)) (lv' := [(2, .int 6), (1, .int 3), (0, .ref (ad 4 0))]) hx hb dX3_size_26 hl (k := 1) rfl (by decide) (by decide) rfl (fun ls hl => ?_)
              refine lv_goto (tgt := 4) hx hb dX3_size_29 (by decide) ?_
              refine lv_iload_n hx hb dX3_size_4 rfl (lv_at hl 0 rfl) ?_
              refine lv_bipush (v := 6) hx hb dX3_size_5 (by decide) ?_
              refine lv_icmp_ge (tgt := 32) hx hb dX3_size_7 (by decide) (fun _ => ?_) (fun h9 => absurd (by decide) h9)
              refine lv_iload_n hx hb dX3_size_32 rfl (lv_at hl 1 rfl) ?_
              exact gs_iret hx hb hr hlocks hM hS rfl ⟨gN.rf, trivial⟩ (by exact Nat.le_refl _) (by exact Nat.le_refl _) dX3_size_33
            · skip
              refine lv_if_eq (tgt := 23) hx hb dX3_size_16 (by decide) (fun _ => ?_) (fun h9 => absurd (by decide) h9)
              refine lv_iconst (v := 0) hx hb dX3_size_23 (by decide) ?_
              refine lv_iadd hx hb dX3_size_24 ?_
              refine lv_topi (fun x_73 ex_73 => ?_)
              obtain rfl : x_73 = (2 : Int32) := ex_73.trans (by decide)
              refine lv_istore_n (lv' := [(1, .int 2), (2, .int 5), (0, .ref (ad 4 0))]) hx hb dX3_size_25 rfl hl (by decide) rfl (fun ls hl => ?_)
              refine lv_iinc (v := (6)) (lv' := [(2, .int 6), (1, .int 2), (0, .ref (ad 4 0))]) hx hb dX3_size_26 hl (k := 1) rfl (by decide) (by decide) rfl (fun ls hl => ?_)
              refine lv_goto (tgt := 4) hx hb dX3_size_29 (by decide) ?_
              refine lv_iload_n hx hb dX3_size_4 rfl (lv_at hl 0 rfl) ?_
              refine lv_bipush (v := 6) hx hb dX3_size_5 (by decide) ?_
              refine lv_icmp_ge (tgt := 32) hx hb dX3_size_7 (by decide) (fun _ => ?_) (fun h9 => absurd (by decide) h9)
              refine lv_iload_n hx hb dX3_size_32 rfl (lv_at hl 1 rfl) ?_
              exact gs_iret hx hb hr hlocks hM hS rfl ⟨gN.rf, trivial⟩ (by exact Nat.le_refl _) (by exact Nat.le_refl _) dX3_size_33
      · skip
        refine lv_if_eq (tgt := 23) hx hb dX3_size_16 (by decide) (fun _ => ?_) (fun h9 => absurd (by decide) h9)
        refine lv_iconst (v := 0) hx hb dX3_size_23 (by decide) ?_
        refine lv_iadd hx hb dX3_size_24 ?_
        refine lv_topi (fun x_74 ex_74 => ?_)
        obtain rfl : x_74 = (1 : Int32) := ex_74.trans (by decide)
        refine lv_istore_n (lv' := [(1, .int 1), (2, .int 2), (0, .ref (ad 4 0))]) hx hb dX3_size_25 rfl hl (by decide) rfl (fun ls hl => ?_)
        refine lv_iinc (v := (3)) (lv' := [(2, .int 3), (1, .int 1), (0, .ref (ad 4 0))]) hx hb dX3_size_26 hl (k := 1) rfl (by decide) (by decide) rfl (fun ls hl => ?_)
        refine lv_goto (tgt := 4) hx hb dX3_size_29 (by decide) ?_
        refine lv_iload_n hx hb dX3_size_4 rfl (lv_at hl 0 rfl) ?_
        refine lv_bipush (v := 6) hx hb dX3_size_5 (by decide) ?_
        refine lv_icmp_ge (tgt := 32) hx hb dX3_size_7 (by decide) (fun h9 => absurd h9 (by decide)) (fun _ => ?_)
        refine lv_iload_n hx hb dX3_size_10 rfl (lv_at hl 1 rfl) ?_
        refine lv_aload_n hx hb dX3_size_11 rfl (lv_at hl 2 rfl) ?_
        refine lv_iload_n hx hb dX3_size_12 rfl (lv_at hl 0 rfl) ?_
        refine gs_calli (va_runV (As := [.int 3]) (rest := [.int 1]) ⟨hx, hb, hml, hown, hts⟩ (s_X3_isThere l G cy sK sV ad H.size st (3 : Int32) 3 (by decide) (by first | decide | omega) (by first | decide | omega)) ⟨(gz_cb (n := 1) hts gm_733 gm_4 gm_350 ⟨by decide +kernel, by decide +kernel, by decide +kernel⟩ ⟨Nat.le_of_ble_eq_true rfl, Nat.le_of_ble_eq_true rfl⟩), hts _ gm_348, hts _ gm_349⟩ (gs_preV hK hov hE hI hM hm hS hA 4 0 (by decide) rfl rfl) rfl rfl hl.1 rfl (lv_room (Nat.le_of_ble_eq_true rfl)) dX3_size_13 ⟨Nat.le_of_ble_eq_true rfl, Nat.le_of_ble_eq_true rfl⟩) hm hS hA (fun r_75 st_75 H locs hw_75 hM hS => ?_)
        obtain ⟨n_75, hw_75⟩ := hw_75
        have n_75 := gN0 n_75
        subst n_75
        rcases hw_75 with ⟨rfl, hw_75_0⟩ | ⟨rfl, hw_75_0⟩
        · skip
          refine lv_if_eq (tgt := 23) hx hb dX3_size_16 (by decide) (fun h9 => absurd h9 (by decide)) (fun _ => ?_)
          refine lv_iconst (v := 1) hx hb dX3_size_19 (by decide) ?_
          refine lv_goto (tgt := 24) hx hb dX3_size_20 (by decide) ?_
          refine lv_iadd hx hb dX3_size_24 ?_
          refine lv_topi (fun x_76 ex_76 => ?_)
          obtain rfl : x_76 = (2 : Int32) := ex_76.trans (by decide)
          refine lv_istore_n (lv' := [(1, .int 2), (2, .int 3), (0, .ref (ad 4 0))]) hx hb dX3_size_25 rfl hl (by decide) rfl (fun ls hl => ?_)
          refine lv_iinc (v := (4)) (lv' := [(2, .int 4), (1, .int 2), (0, .ref (ad 4 0))]) hx hb dX3_size_26 hl (k := 1) rfl (by decide) (by decide) rfl (fun ls hl => ?_)
          refine lv_goto (tgt := 4) hx hb dX3_size_29 (by decide) ?_
          refine lv_iload_n hx hb dX3_size_4 rfl (lv_at hl 0 rfl) ?_
          refine lv_bipush (v := 6) hx hb dX3_size_5 (by decide) ?_
          refine lv_icmp_ge (tgt := 32) hx hb dX3_size_7 (by decide) (fun h9 => absurd h9 (by decide)) (fun _ => ?_)
          refine lv_iload_n hx hb dX3_size_10 rfl (lv_at hl 1 rfl) ?_
          refine lv_aload_n hx hb dX3_size_11 rfl (lv_at hl 2 rfl) ?_
          refine lv_iload_n hx hb dX3_size_12 rfl (lv_at hl 0 rfl) ?_
          refine gs_calli (va_runV (As := [.int 4]) (rest := [.int 2]) ⟨hx, hb, hml, hown, hts⟩ (s_X3_isThere l G cy sK sV ad H.size st (4 : Int32) 4 (by decide) (by first | decide | omega) (by first | decide | omega)) ⟨(gz_cb (n := 1) hts gm_733 gm_4 gm_350 ⟨by decide +kernel, by decide +kernel, by decide +kernel⟩ ⟨Nat.le_of_ble_eq_true rfl, Nat.le_of_ble_eq_true rfl⟩), hts _ gm_348, hts _ gm_349⟩ (gs_preV hK hov hE hI hM hm hS hA 4 0 (by decide) rfl rfl) rfl rfl hl.1 rfl (lv_room (Nat.le_of_ble_eq_true rfl)) dX3_size_13 ⟨Nat.le_of_ble_eq_true rfl, Nat.le_of_ble_eq_true rfl⟩) hm hS hA (fun r_77 st_77 H locs hw_77 hM hS => ?_)
          obtain ⟨n_77, hw_77⟩ := hw_77
          have n_77 := gN0 n_77
          subst n_77
          rcases hw_77 with ⟨rfl, hw_77_0⟩ | ⟨rfl, hw_77_0⟩
          · skip
            refine lv_if_eq (tgt := 23) hx hb dX3_size_16 (by decide) (fun h9 => absurd h9 (by decide)) (fun _ => ?_)
            refine lv_iconst (v := 1) hx hb dX3_size_19 (by decide) ?_
            refine lv_goto (tgt := 24) hx hb dX3_size_20 (by decide) ?_
            refine lv_iadd hx hb dX3_size_24 ?_
            refine lv_topi (fun x_78 ex_78 => ?_)
            obtain rfl : x_78 = (3 : Int32) := ex_78.trans (by decide)
            refine lv_istore_n (lv' := [(1, .int 3), (2, .int 4), (0, .ref (ad 4 0))]) hx hb dX3_size_25 rfl hl (by decide) rfl (fun ls hl => ?_)
            refine lv_iinc (v := (5)) (lv' := [(2, .int 5), (1, .int 3), (0, .ref (ad 4 0))]) hx hb dX3_size_26 hl (k := 1) rfl (by decide) (by decide) rfl (fun ls hl => ?_)
            refine lv_goto (tgt := 4) hx hb dX3_size_29 (by decide) ?_
            refine lv_iload_n hx hb dX3_size_4 rfl (lv_at hl 0 rfl) ?_
            refine lv_bipush (v := 6) hx hb dX3_size_5 (by decide) ?_
            refine lv_icmp_ge (tgt := 32) hx hb dX3_size_7 (by decide) (fun h9 => absurd h9 (by decide)) (fun _ => ?_)
            refine lv_iload_n hx hb dX3_size_10 rfl (lv_at hl 1 rfl) ?_
            refine lv_aload_n hx hb dX3_size_11 rfl (lv_at hl 2 rfl) ?_
            refine lv_iload_n hx hb dX3_size_12 rfl (lv_at hl 0 rfl) ?_
            refine gs_calli (va_runV (As := [.int 5]) (rest := [.int 3]) ⟨hx, hb, hml, hown, hts⟩ (s_X3_isThere l G cy sK sV ad H.size st (5 : Int32) 5 (by decide) (by first | decide | omega) (by first | decide | omega)) ⟨(gz_cb (n := 1) hts gm_733 gm_4 gm_350 ⟨by decide +kernel, by decide +kernel, by decide +kernel⟩ ⟨Nat.le_of_ble_eq_true rfl, Nat.le_of_ble_eq_true rfl⟩), hts _ gm_348, hts _ gm_349⟩ (gs_preV hK hov hE hI hM hm hS hA 4 0 (by decide) rfl rfl) rfl rfl hl.1 rfl (lv_room (Nat.le_of_ble_eq_true rfl)) dX3_size_13 ⟨Nat.le_of_ble_eq_true rfl, Nat.le_of_ble_eq_true rfl⟩) hm hS hA (fun r_79 st_79 H locs hw_79 hM hS => ?_)
            obtain ⟨n_79, hw_79⟩ := hw_79
            have n_79 := gN0 n_79
            subst n_79
            rcases hw_79 with ⟨rfl, hw_79_0⟩ | ⟨rfl, hw_79_0⟩
            · skip
              refine lv_if_eq (tgt := 23) hx hb dX3_size_16 (by decide) (fun h9 => absurd h9 (by decide)) (fun _ => ?_)
              refine lv_iconst (v := 1) hx hb dX3_size_19 (by decide) ?_
              refine lv_goto (tgt := 24) hx hb dX3_size_20 (by decide) ?_
              refine lv_iadd hx hb dX3_size_24 ?_
              refine lv_topi (fun x_80 ex_80 => ?_)
              obtain rfl : x_80 = (4 : Int32) := ex_80.trans (by decide)
              refine lv_istore_n (lv' := [(1, .int 4), (2, .int 5), (0, .ref (ad 4 0))]) hx hb dX3_size_25 rfl hl (by decide) rfl (fun ls hl => ?_)
              refine lv_iinc (v := (6)) (lv' := [(2, .int 6), (1, .int 4), (0, .ref (ad 4 0))]) hx hb dX3_size_26 hl (k := 1) rfl (by decide) (by decide) rfl (fun ls hl => ?_)
              refine lv_goto (tgt := 4) hx hb dX3_size_29 (by decide) ?_
              refine lv_iload_n hx hb dX3_size_4 rfl (lv_at hl 0 rfl) ?_
              refine lv_bipush (v := 6) hx hb dX3_size_5 (by decide) ?_
              refine lv_icmp_ge (tgt := 32) hx hb dX3_size_7 (by decide) (fun _ => ?_) (fun h9 => absurd (by decide) h9)
              refine lv_iload_n hx hb dX3_size_32 rfl (lv_at hl 1 rfl) ?_
              exact gs_iret hx hb hr hlocks hM hS rfl ⟨gN.rf, trivial⟩ (by exact Nat.le_refl _) (by exact Nat.le_refl _) dX3_size_33
            · skip
              refine lv_if_eq (tgt := 23) hx hb dX3_size_16 (by decide) (fun _ => ?_) (fun h9 => absurd (by decide) h9)
              refine lv_iconst (v := 0) hx hb dX3_size_23 (by decide) ?_
              refine lv_iadd hx hb dX3_size_24 ?_
              refine lv_topi (fun x_81 ex_81 => ?_)
              obtain rfl : x_81 = (3 : Int32) := ex_81.trans (by decide)
              refine lv_istore_n (lv' := [(1, .int 3), (2, .int 5), (0, .ref (ad 4 0))]) hx hb dX3_size_25 rfl hl (by decide) rfl (fun ls hl => ?_)
              refine lv_iinc (v := (6)) (lv' := [(2, .int 6), (1, .int 3), (0, .ref (ad 4 0))]) hx hb dX3_size_26 hl (k := 1) rfl (by decide) (by decide) rfl (fun ls hl => ?_)
              refine lv_goto (tgt := 4) hx hb dX3_size_29 (by decide) ?_
              refine lv_iload_n hx hb dX3_size_4 rfl (lv_at hl 0 rfl) ?_
              refine lv_bipush (v := 6) hx hb dX3_size_5 (by decide) ?_
              refine lv_icmp_ge (tgt := 32) hx hb dX3_size_7 (by decide) (fun _ => ?_) (fun h9 => absurd (by decide) h9)
              refine lv_iload_n hx hb dX3_size_32 rfl (lv_at hl 1 rfl) ?_
              exact gs_iret hx hb hr hlocks hM hS rfl ⟨gN.rf, trivial⟩ (by exact Nat.le_refl _) (by exact Nat.le_refl _) dX3_size_33
          · skip
            refine lv_if_eq (tgt := 23) hx hb dX3_size_16 (by decide) (fun _ => ?_) (fun h9 => absurd (by decide) h9)
            refine lv_iconst (v := 0) hx hb dX3_size_23 (by decide) ?_
            refine lv_iadd hx hb dX3_size_24 ?_
            refine lv_topi (fun x_82 ex_82 => ?_)
            obtain rfl : x_82 = (2 : Int32) := ex_82.trans (by decide)
            refine lv_istore_n (lv' := [(1, .int 2), (2, .int 4), (0, .ref (ad 4 0))]) hx hb dX3_size_25 rfl hl (by decide) rfl (fun ls hl => ?_)
            refine lv_iinc (v := (5)) (lv' := [(2, .int 5), (1, .int 2), (0, .ref (ad 4 0))]) hx hb dX3_size_26 hl (k := 1) rfl (by decide) (by decide) rfl (fun ls hl => ?_)
            refine lv_goto (tgt := 4) hx hb dX3_size_29 (by decide) ?_
            refine lv_iload_n hx hb dX3_size_4 rfl (lv_at hl 0 rfl) ?_
            refine lv_bipush (v := 6) hx hb dX3_size_5 (by decide) ?_
            refine lv_icmp_ge (tgt := 32) hx hb dX3_size_7 (by decide) (fun h9 => absurd h9 (by decide)) (fun _ => ?_)
            refine lv_iload_n hx hb dX3_size_10 rfl (lv_at hl 1 rfl) ?_
            refine lv_aload_n hx hb dX3_size_11 rfl (lv_at hl 2 rfl) ?_
            refine lv_iload_n hx hb dX3_size_12 rfl (lv_at hl 0 rfl) ?_
            refine gs_calli (va_runV (As := [.int 5]) (rest := [.int 2]) ⟨hx, hb, hml, hown, hts⟩ (s_X3_isThere l G cy sK sV ad H.size st (5 : Int32) 5 (by decide) (by first | decide | omega) (by first | decide | omega)) ⟨(gz_cb (n := 1) hts gm_733 gm_4 gm_350 ⟨by decide +kernel, by decide +kernel, by decide +kernel⟩ ⟨Nat.le_of_ble_eq_true rfl, Nat.le_of_ble_eq_true rfl⟩), hts _ gm_348, hts _ gm_349⟩ (gs_preV hK hov hE hI hM hm hS hA 4 0 (by decide) rfl rfl) rfl rfl hl.1 rfl (lv_room (Nat.le_of_ble_eq_true rfl)) dX3_size_13 ⟨Nat.le_of_ble_eq_true rfl, Nat.le_of_ble_eq_true rfl⟩) hm hS hA (fun r_83 st_83 H locs hw_83 hM hS => ?_)
            obtain ⟨n_83, hw_83⟩ := hw_83
            have n_83 := gN0 n_83
            subst n_83
            rcases hw_83 with ⟨rfl, hw_83_0⟩ | ⟨rfl, hw_83_0⟩
            · skip
              refine lv_if_eq (tgt := 23) hx hb dX3_size_16 (by decide) (fun h9 => absurd h9 (by decide)) (fun _ => ?_)
              refine lv_iconst (v := 1) hx hb dX3_size_19 (by decide) ?_
              refine lv_goto (tgt := 24) hx hb dX3_size_20 (by decide) ?_
              refine lv_iadd hx hb dX3_size_24 ?_
              refine lv_topi (fun x_84 ex_84 => ?_)
              obtain rfl : x_84 = (3 : Int32) := ex_84.trans (by decide)
              refine lv_istore_n (lv' := [(1, .int 3), (2, .int 5), (0, .ref (ad 4 0))]) hx hb dX3_size_25 rfl hl (by decide) rfl (fun ls hl => ?_)
              refine lv_iinc (v := (6)) (lv' := [(2, .int 6), (1, .int 3), (0, .ref (ad 4 0))]) hx hb dX3_size_26 hl (k := 1) rfl (by decide) (by decide) rfl (fun ls hl => ?_)
              refine lv_goto (tgt := 4) hx hb dX3_size_29 (by decide) ?_
              refine lv_iload_n hx hb dX3_size_4 rfl (lv_at hl 0 rfl) ?_
              refine lv_bipush (v := 6) hx hb dX3_size_5 (by decide) ?_
              refine lv_icmp_ge (tgt := 32) hx hb dX3_size_7 (by decide) (fun _ => ?_) (fun h9 => absurd (by decide) h9)
              refine lv_iload_n hx hb dX3_size_32 rfl (lv_at hl 1 rfl) ?_
              exact gs_iret hx hb hr hlocks hM hS rfl ⟨gN.rf, trivial⟩ (by exact Nat.le_refl _) (by exact Nat.le_refl _) dX3_size_33
            · skip
              refine lv_if_eq (tgt := 23) hx hb dX3_size_16 (by decide) (fun _ => ?_) (fun h9 => absurd (by decide) h9)
              refine lv_iconst (v := 0) hx hb dX3_size_23 (by decide) ?_
              refine lv_iadd hx hb dX3_size_24 ?_
              refine lv_topi (fun x_85 ex_85 => ?_)
              obtain rfl : x_85 = (2 : Int32) := ex_85.trans (by decide)
              refine lv_istore_n (lv' := [(1, .int 2), (2, .int 5), (0, .ref (ad 4 0))]) hx hb dX3_size_25 rfl hl (by decide) rfl (fun ls hl => ?_)
              refine lv_iinc (v := (6)) (lv' := [(2, .int 6), (1, .int 2), (0, .ref (ad 4 0))]) hx hb dX3_size_26 hl (k := 1) rfl (by decide) (by decide) rfl (fun ls hl => ?_)
              refine lv_goto (tgt := 4) hx hb dX3_size_29 (by decide) ?_
              refine lv_iload_n hx hb dX3_size_4 rfl (lv_at hl 0 rfl) ?_
              refine lv_bipush (v := 6) hx hb dX3_size_5 (by decide) ?_
              refine lv_icmp_ge (tgt := 32) hx hb dX3_size_7 (by decide) (fun _ => ?_) (fun h9 => absurd (by decide) h9)
              refine lv_iload_n hx hb dX3_size_32 rfl (lv_at hl 1 rfl) ?_
              exact gs_iret hx hb hr hlocks hM hS rfl ⟨gN.rf, trivial⟩ (by exact Nat.le_refl _) (by exact Nat.le_refl _) dX3_size_33
        · skip
          refine lv_if_eq (tgt := 23) hx hb dX3_size_16 (by decide) (fun _ => ?_) (fun h9 => absurd (by decide) h9)
          refine lv_iconst (v := 0) hx hb dX3_size_23 (by decide) ?_
          refine lv_iadd hx hb dX3_size_24 ?_
          refine lv_topi (fun x_86 ex_86 => ?_)
          obtain rfl : x_86 = (1 : Int32) := ex_86.trans (by decide)
          refine lv_istore_n (lv' := [(1, .int 1), (2, .int 3), (0, .ref (ad 4 0))]) hx hb dX3_size_25 rfl hl (by decide) rfl (fun ls hl => ?_)
          refine lv_iinc (v := (4)) (lv' := [(2, .int 4), (1, .int 1), (0, .ref (ad 4 0))]) hx hb dX3_size_26 hl (k := 1) rfl (by decide) (by decide) rfl (fun ls hl => ?_)
          refine lv_goto (tgt := 4) hx hb dX3_size_29 (by decide) ?_
          refine lv_iload_n hx hb dX3_size_4 rfl (lv_at hl 0 rfl) ?_
          refine lv_bipush (v := 6) hx hb dX3_size_5 (by decide) ?_
          refine lv_icmp_ge (tgt := 32) hx hb dX3_size_7 (by decide) (fun h9 => absurd h9 (by decide)) (fun _ => ?_)
          refine lv_iload_n hx hb dX3_size_10 rfl (lv_at hl 1 rfl) ?_
          refine lv_aload_n hx hb dX3_size_11 rfl (lv_at hl 2 rfl) ?_
          refine lv_iload_n hx hb dX3_size_12 rfl (lv_at hl 0 rfl) ?_
          refine gs_calli (va_runV (As := [.int 4]) (rest := [.int 1]) ⟨hx, hb, hml, hown, hts⟩ (s_X3_isThere l G cy sK sV ad H.size st (4 : Int32) 4 (by decide) (by first | decide | omega) (by first | decide | omega)) ⟨(gz_cb (n := 1) hts gm_733 gm_4 gm_350 ⟨by decide +kernel, by decide +kernel, by decide +kernel⟩ ⟨Nat.le_of_ble_eq_true rfl, Nat.le_of_ble_eq_true rfl⟩), hts _ gm_348, hts _ gm_349⟩ (gs_preV hK hov hE hI hM hm hS hA 4 0 (by decide) rfl rfl) rfl rfl hl.1 rfl (lv_room (Nat.le_of_ble_eq_true rfl)) dX3_size_13 ⟨Nat.le_of_ble_eq_true rfl, Nat.le_of_ble_eq_true rfl⟩) hm hS hA (fun r_87 st_87 H locs hw_87 hM hS => ?_)
          obtain ⟨n_87, hw_87⟩ := hw_87
          have n_87 := gN0 n_87
          subst n_87
          rcases hw_87 with ⟨rfl, hw_87_0⟩ | ⟨rfl, hw_87_0⟩
          · skip
            refine lv_if_eq (tgt := 23) hx hb dX3_size_16 (by decide) (fun h9 => absurd h9 (by decide)) (fun _ => ?_)
            refine lv_iconst (v := 1) hx hb dX3_size_19 (by decide) ?_
            refine lv_goto (tgt := 24) hx hb dX3_size_20 (by decide) ?_
            refine lv_iadd hx hb dX3_size_24 ?_
            refine lv_topi (fun x_88 ex_88 => ?_)
            obtain rfl : x_88 = (2 : Int32) := ex_88.trans (by decide)
            refine lv_istore_n (lv' := [(1, .int 2), (2, .int 4), (0, .ref (ad 4 0))]) hx hb dX3_size_25 rfl hl (by decide) rfl (fun ls hl => ?_)
            refine lv_iinc (v := (5)) (lv' := [(2, .int 5), (1, .int 2), (0, .ref (ad 4 0))]) hx hb dX3_size_26 hl (k := 1) rfl (by decide) (by decide) rfl (fun ls hl => ?_)
            refine lv_goto (tgt := 4) hx hb dX3_size_29 (by decide) ?_
            refine lv_iload_n hx hb dX3_size_4 rfl (lv_at hl 0 rfl) ?_
            refine lv_bipush (v := 6) hx hb dX3_size_5 (by decide) ?_
            refine lv_icmp_ge (tgt := 32) hx hb dX3_size_7 (by decide) (fun h9 => absurd h9 (by decide)) (fun _ => ?_)
            refine lv_iload_n hx hb dX3_size_10 rfl (lv_at hl 1 rfl) ?_
            refine lv_aload_n hx hb dX3_size_11 rfl (lv_at hl 2 rfl) ?_
            refine lv_iload_n hx hb dX3_size_12 rfl (lv_at hl 0 rfl) ?_
            refine gs_calli (va_runV (As := [.int 5]) (rest := [.int 2]) ⟨hx, hb, hml, hown, hts⟩ (s_X3_isThere l G cy sK sV ad H.size st (5 : Int32) 5 (by decide) (by first | decide | omega) (by first | decide | omega)) ⟨(gz_cb (n := 1) hts gm_733 gm_4 gm_350 ⟨by decide +kernel, by decide +kernel, by decide +kernel⟩ ⟨Nat.le_of_ble_eq_true rfl, Nat.le_of_ble_eq_true rfl⟩), hts _ gm_348, hts _ gm_349⟩ (gs_preV hK hov hE hI hM hm hS hA 4 0 (by decide) rfl rfl) rfl rfl hl.1 rfl (lv_room (Nat.le_of_ble_eq_true rfl)) dX3_size_13 ⟨Nat.le_of_ble_eq_true rfl, Nat.le_of_ble_eq_true rfl⟩) hm hS hA (fun r_89 st_89 H locs hw_89 hM hS => ?_)
            obtain ⟨n_89, hw_89⟩ := hw_89
            have n_89 := gN0 n_89
            subst n_89
            rcases hw_89 with ⟨rfl, hw_89_0⟩ | ⟨rfl, hw_89_0⟩
            · skip
              refine lv_if_eq (tgt := 23) hx hb dX3_size_16 (by decide) (fun h9 => absurd h9 (by decide)) (fun _ => ?_)
              refine lv_iconst (v := 1) hx hb dX3_size_19 (by decide) ?_
              refine lv_goto (tgt := 24) hx hb dX3_size_20 (by decide) ?_
              refine lv_iadd hx hb dX3_size_24 ?_
              refine lv_topi (fun x_90 ex_90 => ?_)
              obtain rfl : x_90 = (3 : Int32) := ex_90.trans (by decide)
              refine lv_istore_n (lv' := [(1, .int 3), (2, .int 5), (0, .ref (ad 4 0))]) hx hb dX3_size_25 rfl hl (by decide) rfl (fun ls hl => ?_)
              refine lv_iinc (v := (6)) (lv' := [(2, .int 6), (1, .int 3), (0, .ref (ad 4 0))]) hx hb dX3_size_26 hl (k := 1) rfl (by decide) (by decide) rfl (fun ls hl => ?_)
              refine lv_goto (tgt := 4) hx hb dX3_size_29 (by decide) ?_
              refine lv_iload_n hx hb dX3_size_4 rfl (lv_at hl 0 rfl) ?_
              refine lv_bipush (v := 6) hx hb dX3_size_5 (by decide) ?_
              refine lv_icmp_ge (tgt := 32) hx hb dX3_size_7 (by decide) (fun _ => ?_) (fun h9 => absurd (by decide) h9)
              refine lv_iload_n hx hb dX3_size_32 rfl (lv_at hl 1 rfl) ?_
              exact gs_iret hx hb hr hlocks hM hS rfl ⟨gN.rf, trivial⟩ (by exact Nat.le_refl _) (by exact Nat.le_refl _) dX3_size_33
            · skip
              refine lv_if_eq (tgt := 23) hx hb dX3_size_16 (by decide) (fun _ => ?_) (fun h9 => absurd (by decide) h9)
              refine lv_iconst (v := 0) hx hb dX3_size_23 (by decide) ?_
              refine lv_iadd hx hb dX3_size_24 ?_
              refine lv_topi (fun x_91 ex_91 => ?_)
              obtain rfl : x_91 = (2 : Int32) := ex_91.trans (by decide)
              refine lv_istore_n (lv' := [(1, .int 2), (2, .int 5), (0, .ref (ad 4 0))]) hx hb dX3_size_25 rfl hl (by decide) rfl (fun ls hl => ?_)
              refine lv_iinc (v := (6)) (lv' := [(2, .int 6), (1, .int 2), (0, .ref (ad 4 0))]) hx hb dX3_size_26 hl (k := 1) rfl (by decide) (by decide) rfl (fun ls hl => ?_)
              refine lv_goto (tgt := 4) hx hb dX3_size_29 (by decide) ?_
              refine lv_iload_n hx hb dX3_size_4 rfl (lv_at hl 0 rfl) ?_
              refine lv_bipush (v := 6) hx hb dX3_size_5 (by decide) ?_
              refine lv_icmp_ge (tgt := 32) hx hb dX3_size_7 (by decide) (fun _ => ?_) (fun h9 => absurd (by decide) h9)
              refine lv_iload_n hx hb dX3_size_32 rfl (lv_at hl 1 rfl) ?_
              exact gs_iret hx hb hr hlocks hM hS rfl ⟨gN.rf, trivial⟩ (by exact Nat.le_refl _) (by exact Nat.le_refl _) dX3_size_33
          · skip
            refine lv_if_eq (tgt := 23) hx hb dX3_size_16 (by decide) (fun _ => ?_) (fun h9 => absurd (by decide) h9)
            refine lv_iconst (v := 0) hx hb dX3_size_23 (by decide) ?_
            refine lv_iadd hx hb dX3_size_24 ?_
            refine lv_topi (fun x_92 ex_92 => ?_)
            obtain rfl : x_92 = (1 : Int32) := ex_92.trans (by decide)
            refine lv_istore_n (lv' := [(1, .int 1), (2, .int 4), (0, .ref (ad 4 0))]) hx hb dX3_size_25 rfl hl (by decide) rfl (fun ls hl => ?_)
            refine lv_iinc (v := (5)) (lv' := [(2, .int 5), (1, .int 1), (0, .ref (ad 4 0))]) hx hb dX3_size_26 hl (k := 1) rfl (by decide) (by decide) rfl (fun ls hl => ?_)
            refine lv_goto (tgt := 4) hx hb dX3_size_29 (by decide) ?_
            refine lv_iload_n hx hb dX3_size_4 rfl (lv_at hl 0 rfl) ?_
            refine lv_bipush (v := 6) hx hb dX3_size_5 (by decide) ?_
            refine lv_icmp_ge (tgt := 32) hx hb dX3_size_7 (by decide) (fun h9 => absurd h9 (by decide)) (fun _ => ?_)
            refine lv_iload_n hx hb dX3_size_10 rfl (lv_at hl 1 rfl) ?_
            refine lv_aload_n hx hb dX3_size_11 rfl (lv_at hl 2 rfl) ?_
            refine lv_iload_n hx hb dX3_size_12 rfl (lv_at hl 0 rfl) ?_
            refine gs_calli (va_runV (As := [.int 5]) (rest := [.int 1]) ⟨hx, hb, hml, hown, hts⟩ (s_X3_isThere l G cy sK sV ad H.size st (5 : Int32) 5 (by decide) (by first | decide | omega) (by first | decide | omega)) ⟨(gz_cb (n := 1) hts gm_733 gm_4 gm_350 ⟨by decide +kernel, by decide +kernel, by decide +kernel⟩ ⟨Nat.le_of_ble_eq_true rfl, Nat.le_of_ble_eq_true rfl⟩), hts _ gm_348, hts _ gm_349⟩ (gs_preV hK hov hE hI hM hm hS hA 4 0 (by decide) rfl rfl) rfl rfl hl.1 rfl (lv_room (Nat.le_of_ble_eq_true rfl)) dX3_size_13 ⟨Nat.le_of_ble_eq_true rfl, Nat.le_of_ble_eq_true rfl⟩) hm hS hA (fun r_93 st_93 H locs hw_93 hM hS => ?_)
            obtain ⟨n_93, hw_93⟩ := hw_93
            have n_93 := gN0 n_93
            subst n_93
            rcases hw_93 with ⟨rfl, hw_93_0⟩ | ⟨rfl, hw_93_0⟩
            · skip
              refine lv_if_eq (tgt := 23) hx hb dX3_size_16 (by decide) (fun h9 => absurd h9 (by decide)) (fun _ => ?_)
              refine lv_iconst (v := 1) hx hb dX3_size_19 (by decide) ?_
              refine lv_goto (tgt := 24) hx hb dX3_size_20 (by decide) ?_
              refine lv_iadd hx hb dX3_size_24 ?_
              refine lv_topi (fun x_94 ex_94 => ?_)
              obtain rfl : x_94 = (2 : Int32) := ex_94.trans (by decide)
              refine lv_istore_n (lv' := [(1, .int 2), (2, .int 5), (0, .ref (ad 4 0))]) hx hb dX3_size_25 rfl hl (by decide) rfl (fun ls hl => ?_)
              refine lv_iinc (v := (6)) (lv' := [(2, .int 6), (1, .int 2), (0, .ref (ad 4 0))]) hx hb dX3_size_26 hl (k := 1) rfl (by decide) (by decide) rfl (fun ls hl => ?_)
              refine lv_goto (tgt := 4) hx hb dX3_size_29 (by decide) ?_
              refine lv_iload_n hx hb dX3_size_4 rfl (lv_at hl 0 rfl) ?_
              refine lv_bipush (v := 6) hx hb dX3_size_5 (by decide) ?_
              refine lv_icmp_ge (tgt := 32) hx hb dX3_size_7 (by decide) (fun _ => ?_) (fun h9 => absurd (by decide) h9)
              refine lv_iload_n hx hb dX3_size_32 rfl (lv_at hl 1 rfl) ?_
              exact gs_iret hx hb hr hlocks hM hS rfl ⟨gN.rf, trivial⟩ (by exact Nat.le_refl _) (by exact Nat.le_refl _) dX3_size_33
            · skip
              refine lv_if_eq (tgt := 23) hx hb dX3_size_16 (by decide) (fun _ => ?_) (fun h9 => absurd (by decide) h9)
              refine lv_iconst (v := 0) hx hb dX3_size_23 (by decide) ?_
              refine lv_iadd hx hb dX3_size_24 ?_
              refine lv_topi (fun x_95 ex_95 => ?_)
              obtain rfl : x_95 = (1 : Int32) := ex_95.trans (by decide)
              refine lv_istore_n (lv' := [(1, .int 1), (2, .int 5), (0, .ref (ad 4 0))]) hx hb dX3_size_25 rfl hl (by decide) rfl (fun ls hl => ?_)
              refine lv_iinc (v := (6)) (lv' := [(2, .int 6), (1, .int 1), (0, .ref (ad 4 0))]) hx hb dX3_size_26 hl (k := 1) rfl (by decide) (by decide) rfl (fun ls hl => ?_)
              refine lv_goto (tgt := 4) hx hb dX3_size_29 (by decide) ?_
              refine lv_iload_n hx hb dX3_size_4 rfl (lv_at hl 0 rfl) ?_
              refine lv_bipush (v := 6) hx hb dX3_size_5 (by decide) ?_
              refine lv_icmp_ge (tgt := 32) hx hb dX3_size_7 (by decide) (fun _ => ?_) (fun h9 => absurd (by decide) h9)
              refine lv_iload_n hx hb dX3_size_32 rfl (lv_at hl 1 rfl) ?_
              exact gs_iret hx hb hr hlocks hM hS rfl ⟨gN.rf, trivial⟩ (by exact Nat.le_refl _) (by exact Nat.le_refl _) dX3_size_33
  · skip
    refine lv_if_eq (tgt := 23) hx hb dX3_size_16 (by decide) (fun _ => ?_) (fun h9 => absurd (by decide) h9)
    refine lv_iconst (v := 0) hx hb dX3_size_23 (by decide) ?_
    refine lv_iadd hx hb dX3_size_24 ?_
    refine lv_topi (fun x_96 ex_96 => ?_)
    obtain rfl : x_96 = (0 : Int32) := ex_96.trans (by decide)
    refine lv_istore_n (lv' := [(1, .int 0), (2, .int 0), (0, .ref (ad 4 0))]) hx hb dX3_size_25 rfl hl (by decide) rfl (fun ls hl => ?_)
    refine lv_iinc (v := (1)) (lv' := [(2, .int 1), (1, .int 0), (0, .ref (ad 4 0))]) hx hb dX3_size_26 hl (k := 1) rfl (by decide) (by decide) rfl (fun ls hl => ?_)
    refine lv_goto (tgt := 4) hx hb dX3_size_29 (by decide) ?_
    refine lv_iload_n hx hb dX3_size_4 rfl (lv_at hl 0 rfl) ?_
    refine lv_bipush (v := 6) hx hb dX3_size_5 (by decide) ?_
    refine lv_icmp_ge (tgt := 32) hx hb dX3_size_7 (by decide) (fun h9 => absurd h9 (by decide)) (fun _ => ?_)
    refine lv_iload_n hx hb dX3_size_10 rfl (lv_at hl 1 rfl) ?_
    refine lv_aload_n hx hb dX3_size_11 rfl (lv_at hl 2 rfl) ?_
    refine lv_iload_n hx hb dX3_size_12 rfl (lv_at hl 0 rfl) ?_
    refine gs_calli (va_runV (As := [.int 1]) (rest := [.int 0]) ⟨hx, hb, hml, hown, hts⟩ (s_X3_isThere l G cy sK sV ad H.size st (1 : Int32) 1 (by decide) (by first | decide | omega) (by first | decide | omega)) ⟨(gz_cb (n := 1) hts gm_733 gm_4 gm_350 ⟨by decide +kernel, by decide +kernel, by decide +kernel⟩ ⟨Nat.le_of_ble_eq_true rfl, Nat.le_of_ble_eq_true rfl⟩), hts _ gm_348, hts _ gm_349⟩ (gs_preV hK hov hE hI hM hm hS hA 4 0 (by decide) rfl rfl) rfl rfl hl.1 rfl (lv_room (Nat.le_of_ble_eq_true rfl)) dX3_size_13 ⟨Nat.le_of_ble_eq_true rfl, Nat.le_of_ble_eq_true rfl⟩) hm hS hA (fun r_97 st_97 H locs hw_97 hM hS => ?_)
    obtain ⟨n_97, hw_97⟩ := hw_97
    have n_97 := gN0 n_97
    subst n_97
    rcases hw_97 with ⟨rfl, hw_97_0⟩ | ⟨rfl, hw_97_0⟩
    · skip
      refine lv_if_eq (tgt := 23) hx hb dX3_size_16 (by decide) (fun h9 => absurd h9 (by decide)) (fun _ => ?_)
      refine lv_iconst (v := 1) hx hb dX3_size_19 (by decide) ?_
      refine lv_goto (tgt := 24) hx hb dX3_size_20 (by decide) ?_
      refine lv_iadd hx hb dX3_size_24 ?_
      refine lv_topi (fun x_98 ex_98 => ?_)
      obtain rfl : x_98 = (1 : Int32) := ex_98.trans (by decide)
      refine lv_istore_n (lv' := [(1, .int 1), (2, .int 1), (0, .ref (ad 4 0))]) hx hb dX3_size_25 rfl hl (by decide) rfl (fun ls hl => ?_)
      refine lv_iinc (v := (2)) (lv' := [(2, .int 2), (1, .int 1), (0, .ref (ad 4 0))]) hx hb dX3_size_26 hl (k := 1) rfl (by decide) (by decide) rfl (fun ls hl => ?_)
      refine lv_goto (tgt := 4) hx hb dX3_size_29 (by decide) ?_
      refine lv_iload_n hx hb dX3_size_4 rfl (lv_at hl 0 rfl) ?_
      refine lv_bipush (v := 6) hx hb dX3_size_5 (by decide) ?_
      refine lv_icmp_ge (tgt := 32) hx hb dX3_size_7 (by decide) (fun h9 => absurd h9 (by decide)) (fun _ => ?_)
      refine lv_iload_n hx hb dX3_size_10 rfl (lv_at hl 1 rfl) ?_
      refine lv_aload_n hx hb dX3_size_11 rfl (lv_at hl 2 rfl) ?_
      refine lv_iload_n hx hb dX3_size_12 rfl (lv_at hl 0 rfl) ?_
      refine gs_calli (va_runV (As := [.int 2]) (rest := [.int 1]) ⟨hx, hb, hml, hown, hts⟩ (s_X3_isThere l G cy sK sV ad H.size st (2 : Int32) 2 (by decide) (by first | decide | omega) (by first | decide | omega)) ⟨(gz_cb (n := 1) hts gm_733 gm_4 gm_350 ⟨by decide +kernel, by decide +kernel, by decide +kernel⟩ ⟨Nat.le_of_ble_eq_true rfl, Nat.le_of_ble_eq_true rfl⟩), hts _ gm_348, hts _ gm_349⟩ (gs_preV hK hov hE hI hM hm hS hA 4 0 (by decide) rfl rfl) rfl rfl hl.1 rfl (lv_room (Nat.le_of_ble_eq_true rfl)) dX3_size_13 ⟨Nat.le_of_ble_eq_true rfl, Nat.le_of_ble_eq_true rfl⟩) hm hS hA (fun r_99 st_99 H locs hw_99 hM hS => ?_)
      obtain ⟨n_99, hw_99⟩ := hw_99
      have n_99 := gN0 n_99
      subst n_99
      rcases hw_99 with ⟨rfl, hw_99_0⟩ | ⟨rfl, hw_99_0⟩
      · skip
        refine lv_if_eq (tgt := 23) hx hb dX3_size_16 (by decide) (fun h9 => absurd h9 (by decide)) (fun _ => ?_)
        refine lv_iconst (v := 1) hx hb dX3_size_19 (by decide) ?_
        refine lv_goto (tgt := 24) hx hb dX3_size_20 (by decide) ?_
        refine lv_iadd hx hb dX3_size_24 ?_
        refine lv_topi (fun x_100 ex_100 => ?_)
        obtain rfl : x_100 = (2 : Int32) := ex_100.trans (by decide)
        refine lv_istore_n (lv' := [(1, .int 2), (2, .int 2), (0, .ref (ad 4 0))]) hx hb dX3_size_25 rfl hl (by decide) rfl (fun ls hl => ?_)
        refine lv_iinc (v := (3)) (lv' := [(2, .int 3), (1, .int 2), (0, .ref (ad 4 0))]) hx hb dX3_size_26 hl (k := 1) rfl (by decide) (by decide) rfl (fun ls hl => ?_)
        refine lv_goto (tgt := 4) hx hb dX3_size_29 (by decide) ?_
        refine lv_iload_n hx hb dX3_size_4 rfl (lv_at hl 0 rfl) ?_
        refine lv_bipush (v := 6) hx hb dX3_size_5 (by decide) ?_
        refine lv_icmp_ge (tgt := 32) hx hb dX3_size_7 (by decide) (fun h9 => absurd h9 (by decide)) (fun _ => ?_)
        refine lv_iload_n hx hb dX3_size_10 rfl (lv_at hl 1 rfl) ?_
        refine lv_aload_n hx hb dX3_size_11 rfl (lv_at hl 2 rfl) ?_
        refine lv_iload_n hx hb dX3_size_12 rfl (lv_at hl 0 rfl) ?_
        refine gs_calli (va_runV (As := [.int 3]) (rest := [.int 2]) ⟨hx, hb, hml, hown, hts⟩ (s_X3_isThere l G cy sK sV ad H.size st (3 : Int32) 3 (by decide) (by first | decide | omega) (by first | decide | omega)) ⟨(gz_cb (n := 1) hts gm_733 gm_4 gm_350 ⟨by decide +kernel, by decide +kernel, by decide +kernel⟩ ⟨Nat.le_of_ble_eq_true rfl, Nat.le_of_ble_eq_true rfl⟩), hts _ gm_348, hts _ gm_349⟩ (gs_preV hK hov hE hI hM hm hS hA 4 0 (by decide) rfl rfl) rfl rfl hl.1 rfl (lv_room (Nat.le_of_ble_eq_true rfl)) dX3_size_13 ⟨Nat.le_of_ble_eq_true rfl, Nat.le_of_ble_eq_true rfl⟩) hm hS hA (fun r_101 st_101 H locs hw_101 hM hS => ?_)
        obtain ⟨n_101, hw_101⟩ := hw_101
        have n_101 := gN0 n_101
        subst n_101
        rcases hw_101 with ⟨rfl, hw_101_0⟩ | ⟨rfl, hw_101_0⟩
        · skip
          refine lv_if_eq (tgt := 23) hx hb dX3_size_16 (by decide) (fun h9 => absurd h9 (by decide)) (fun _ => ?_)
          refine lv_iconst (v := 1) hx hb dX3_size_19 (by decide) ?_
          refine lv_goto (tgt := 24) hx hb dX3_size_20 (by decide) ?_
          refine lv_iadd hx hb dX3_size_24 ?_
          refine lv_topi (fun x_102 ex_102 => ?_)
          obtain rfl : x_102 = (3 : Int32) := ex_102.trans (by decide)
          refine lv_istore_n (lv' := [(1, .int 3), (2, .int 3), (0, .ref (ad 4 0))]) hx hb dX3_size_25 rfl hl (by decide) rfl (fun ls hl => ?_)
          refine lv_iinc (v := (4)) (lv' := [(2, .int 4), (1, .int 3), (0, .ref (ad 4 0))]) hx hb dX3_size_26 hl (k := 1) rfl (by decide) (by decide) rfl (fun ls hl => ?_)
          refine lv_goto (tgt := 4) hx hb dX3_size_29 (by decide) ?_
          refine lv_iload_n hx hb dX3_size_4 rfl (lv_at hl 0 rfl) ?_
          refine lv_bipush (v := 6) hx hb dX3_size_5 (by decide) ?_
          refine lv_icmp_ge (tgt := 32) hx hb dX3_size_7 (by decide) (fun h9 => absurd h9 (by decide)) (fun _ => ?_)
          refine lv_iload_n hx hb dX3_size_10 rfl (lv_at hl 1 rfl) ?_
          refine lv_aload_n hx hb dX3_size_11 rfl (lv_at hl 2 rfl) ?_
          refine lv_iload_n hx hb dX3_size_12 rfl (lv_at hl 0 rfl) ?_
          refine gs_calli (va_runV (As := [.int 4]) (rest := [.int 3]) ⟨hx, hb, hml, hown, hts⟩ (s_X3_isThere l G cy sK sV ad H.size st (4 : Int32) 4 (by decide) (by first | decide | omega) (by first | decide | omega)) ⟨(gz_cb (n := 1) hts gm_733 gm_4 gm_350 ⟨by decide +kernel, by decide +kernel, by decide +kernel⟩ ⟨Nat.le_of_ble_eq_true rfl, Nat.le_of_ble_eq_true rfl⟩), hts _ gm_348, hts _ gm_349⟩ (gs_preV hK hov hE hI hM hm hS hA 4 0 (by decide) rfl rfl) rfl rfl hl.1 rfl (lv_room (Nat.le_of_ble_eq_true rfl)) dX3_size_13 ⟨Nat.le_of_ble_eq_true rfl, Nat.le_of_ble_eq_true rfl⟩) hm hS hA (fun r_103 st_103 H locs hw_103 hM hS => ?_)
          obtain ⟨n_103, hw_103⟩ := hw_103
          have n_103 := gN0 n_103
          subst n_103
          rcases hw_103 with ⟨rfl, hw_103_0⟩ | ⟨rfl, hw_103_0⟩
          · skip
            refine lv_if_eq (tgt := 23) hx hb dX3_size_16 (by decide) (fun h9 => absurd h9 (by decide)) (fun _ => ?_)
            refine lv_iconst (v := 1) hx hb dX3_size_19 (by decide) ?_
            refine lv_goto (tgt := 24) hx hb dX3_size_20 (by decide) ?_
            refine lv_iadd hx hb dX3_size_24 ?_
            refine lv_topi (fun x_104 ex_104 => ?_)
            obtain rfl : x_104 = (4 : Int32) := ex_104.trans (by decide)
            refine lv_istore_n (lv' := [(1, .int 4), (2, .int 4), (0, .ref (ad 4 0))]) hx hb dX3_size_25 rfl hl (by decide) rfl (fun ls hl => ?_)
            refine lv_iinc (v := (5)) (lv' := [(2, .int 5), (1, .int 4), (0, .ref (ad 4 0))]) hx hb dX3_size_26 hl (k := 1) rfl (by decide) (by decide) rfl (fun ls hl => ?_)
            refine lv_goto (tgt := 4) hx hb dX3_size_29 (by decide) ?_
            refine lv_iload_n hx hb dX3_size_4 rfl (lv_at hl 0 rfl) ?_
            refine lv_bipush (v := 6) hx hb dX3_size_5 (by decide) ?_
            refine lv_icmp_ge (tgt := 32) hx hb dX3_size_7 (by decide) (fun h9 => absurd h9 (by decide)) (fun _ => ?_)
            refine lv_iload_n hx hb dX3_size_10 rfl (lv_at hl 1 rfl) ?_
            refine lv_aload_n hx hb dX3_size_11 rfl (lv_at hl 2 rfl) ?_
            refine lv_iload_n hx hb dX3_size_12 rfl (lv_at hl 0 rfl) ?_
            refine gs_calli (va_runV (As := [.int 5]) (rest := [.int 4]) ⟨hx, hb, hml, hown, hts⟩ (s_X3_isThere l G cy sK sV ad H.size st (5 : Int32) 5 (by decide) (by first | decide | omega) (by first | decide | omega)) ⟨(gz_cb (n := 1) hts gm_733 gm_4 gm_350 ⟨by decide +kernel, by decide +kernel, by decide +kernel⟩ ⟨Nat.le_of_ble_eq_true rfl, Nat.le_of_ble_eq_true rfl⟩), hts _ gm_348, hts _ gm_349⟩ (gs_preV hK hov hE hI hM hm hS hA 4 0 (by decide) rfl rfl) rfl rfl hl.1 rfl (lv_room (Nat.le_of_ble_eq_true rfl)) dX3_size_13 ⟨Nat.le_of_ble_eq_true rfl, Nat.le_of_ble_eq_true rfl⟩) hm hS hA (fun r_105 st_105 H locs hw_105 hM hS => ?_)
            obtain ⟨n_105, hw_105⟩ := hw_105
            have n_105 := gN0 n_105
            subst n_105
            rcases hw_105 with ⟨rfl, hw_105_0⟩ | ⟨rfl, hw_105_0⟩
            · skip
              refine lv_if_eq (tgt := 23) hx hb dX3_size_16 (by decide) (fun h9 => absurd h9 (by decide)) (fun _ => ?_)
              refine lv_iconst (v := 1) hx hb dX3_size_19 (by decide) ?_
              refine lv_goto (tgt := 24) hx hb dX3_size_20 (by decide) ?_
              refine lv_iadd hx hb dX3_size_24 ?_
              refine lv_topi (fun x_106 ex_106 => ?_)
              obtain rfl : x_106 = (5 : Int32) := ex_106.trans (by decide)
              refine lv_istore_n (lv' := [(1, .int 5), (2, .int 5), (0, .ref (ad 4 0))]) hx hb dX3_size_25 rfl hl (by decide) rfl (fun ls hl => ?_)
              refine lv_iinc (v := (6)) (lv' := [(2, .int 6), (1, .int 5), (0, .ref (ad 4 0))]) hx hb dX3_size_26 hl (k := 1) rfl (by decide) (by decide) rfl (fun ls hl => ?_)
              refine lv_goto (tgt := 4) hx hb dX3_size_29 (by decide) ?_
              refine lv_iload_n hx hb dX3_size_4 rfl (lv_at hl 0 rfl) ?_
              refine lv_bipush (v := 6) hx hb dX3_size_5 (by decide) ?_
              refine lv_icmp_ge (tgt := 32) hx hb dX3_size_7 (by decide) (fun _ => ?_) (fun h9 => absurd (by decide) h9)
              refine lv_iload_n hx hb dX3_size_32 rfl (lv_at hl 1 rfl) ?_
              exact gs_iret hx hb hr hlocks hM hS rfl ⟨gN.rf, trivial⟩ (by exact Nat.le_refl _) (by exact Nat.le_refl _) dX3_size_33
            · skip
              refine lv_if_eq (tgt := 23) hx hb dX3_size_16 (by decide) (fun _ => ?_) (fun h9 => absurd (by decide) h9)
              refine lv_iconst (v := 0) hx hb dX3_size_23 (by decide) ?_
              refine lv_iadd hx hb dX3_size_24 ?_
              refine lv_topi (fun x_107 ex_107 => ?_)
              obtain rfl : x_107 = (4 : Int32) := ex_107.trans (by decide)
              refine lv_istore_n (lv' := [(1, .int 4), (2, .int 5), (0, .ref (ad 4 0))]) hx hb dX3_size_25 rfl hl (by decide) rfl (fun ls hl => ?_)
              refine lv_iinc (v := (6)) (lv' := [(2, .int 6), (1, .int 4), (0, .ref (ad 4 0))]) hx hb dX3_size_26 hl (k := 1) rfl (by decide) (by decide) rfl (fun ls hl => ?_)
              refine lv_goto (tgt := 4) hx hb dX3_size_29 (by decide) ?_
              refine lv_iload_n hx hb dX3_size_4 rfl (lv_at hl 0 rfl) ?_
              refine lv_bipush (v := 6) hx hb dX3_size_5 (by decide) ?_
              refine lv_icmp_ge (tgt := 32) hx hb dX3_size_7 (by decide) (fun _ => ?_) (fun h9 => absurd (by decide) h9)
              refine lv_iload_n hx hb dX3_size_32 rfl (lv_at hl 1 rfl) ?_
              exact gs_iret hx hb hr hlocks hM hS rfl ⟨gN.rf, trivial⟩ (by exact Nat.le_refl _) (by exact Nat.le_refl _) dX3_size_33
          · skip
            refine lv_if_eq (tgt := 23) hx hb dX3_size_16 (by decide) (fun _ => ?_) (fun h9 => absurd (by decide) h9)
            refine lv_iconst (v := 0) hx hb dX3_size_23 (by decide) ?_
            refine lv_iadd hx hb dX3_size_24 ?_
            refine lv_topi (fun x_108 ex_108 => ?_)
            obtain rfl : x_108 = (3 : Int32) := ex_108.trans (by decide)
            refine lv_istore_n (lv' := [(1, .int 3), (2, .int 4), (0, .ref (ad 4 0))]) hx hb dX3_size_25 rfl hl (by decide) rfl (fun ls hl => ?_)
            refine lv_iinc (v := (5)) (lv' := [(2, .int 5), (1, .int 3), (0, .ref (ad 4 0))]) hx hb dX3_size_26 hl (k := 1) rfl (by decide) (by decide) rfl (fun ls hl => ?_)
            refine lv_goto (tgt := 4) hx hb dX3_size_29 (by decide) ?_
            refine lv_iload_n hx hb dX3_size_4 rfl (lv_at hl 0 rfl) ?_
            refine lv_bipush (v := 6) hx hb dX3_size_5 (by decide) ?_
            refine lv_icmp_ge (tgt := 32) hx hb dX3_size_7 (by decide) (fun h9 => absurd h9 (by decide)) (fun _ => ?_)
            refine lv_iload_n hx hb dX3_size_10 rfl (lv_at hl 1 rfl) ?_
            refine lv_aload_n hx hb dX3_size_11 rfl (lv_at hl 2 rfl) ?_
            refine lv_iload_n hx hb dX3_size_12 rfl (lv_at hl 0 rfl) ?_
            refine gs_calli (va_runV (As := [.int 5]) (rest := [.int 3]) ⟨hx, hb, hml, hown, hts⟩ (s_X3_isThere l G cy sK sV ad H.size st (5 : Int32) 5 (by decide) (by first | decide | omega) (by first | decide | omega)) ⟨(gz_cb (n := 1) hts gm_733 gm_4 gm_350 ⟨by decide +kernel, by decide +kernel, by decide +kernel⟩ ⟨Nat.le_of_ble_eq_true rfl, Nat.le_of_ble_eq_true rfl⟩), hts _ gm_348, hts _ gm_349⟩ (gs_preV hK hov hE hI hM hm hS hA 4 0 (by decide) rfl rfl) rfl rfl hl.1 rfl (lv_room (Nat.le_of_ble_eq_true rfl)) dX3_size_13 ⟨Nat.le_of_ble_eq_true rfl, Nat.le_of_ble_eq_true rfl⟩) hm hS hA (fun r_109 st_109 H locs hw_109 hM hS => ?_)
            obtain ⟨n_109, hw_109⟩ := hw_109
            have n_109 := gN0 n_109
            subst n_109
            rcases hw_109 with ⟨rfl, hw_109_0⟩ | ⟨rfl, hw_109_0⟩
            · skip
              refine lv_if_eq (tgt := 23) hx hb dX3_size_16 (by decide) (fun h9 => absurd h9 (by decide)) (fun _ => ?_)
              refine lv_iconst (v := 1) hx hb dX3_size_19 (by decide) ?_
              refine lv_goto (tgt := 24) hx hb dX3_size_20 (by decide) ?_
              refine lv_iadd hx hb dX3_size_24 ?_
              refine lv_topi (fun x_110 ex_110 => ?_)
              obtain rfl : x_110 = (4 : Int32) := ex_110.trans (by decide)
              refine lv_istore_n (lv' := [(1, .int 4), (2, .int 5), (0, .ref (ad 4 0))]) hx hb dX3_size_25 rfl hl (by decide) rfl (fun ls hl => ?_)
              refine lv_iinc (v := (6)) (lv' := [(2, .int 6), (1, .int 4), (0, .ref (ad 4 0))]) hx hb dX3_size_26 hl (k := 1) rfl (by decide) (by decide) rfl (fun ls hl => ?_)
              refine lv_goto (tgt := 4) hx hb dX3_size_29 (by decide) ?_
              refine lv_iload_n hx hb dX3_size_4 rfl (lv_at hl 0 rfl) ?_
              refine lv_bipush (v := 6) hx hb dX3_size_5 (by decide) ?_
              refine lv_icmp_ge (tgt := 32) hx hb dX3_size_7 (by decide) (fun _ => ?_) (fun h9 => absurd (by decide) h9)
              refine lv_iload_n hx hb dX3_size_32 rfl (lv_at hl 1 rfl) ?_
              exact gs_iret hx hb hr hlocks hM hS rfl ⟨gN.rf, trivial⟩ (by exact Nat.le_refl _) (by exact Nat.le_refl _) dX3_size_33
            · skip
              refine lv_if_eq (tgt := 23) hx hb dX3_size_16 (by decide) (fun _ => ?_) (fun h9 => absurd (by decide) h9)
              refine lv_iconst (v := 0) hx hb dX3_size_23 (by decide) ?_
              refine lv_iadd hx hb dX3_size_24 ?_
              refine lv_topi (fun x_111 ex_111 => ?_)
              obtain rfl : x_111 = (3 : Int32) := ex_111.trans (by decide)
              refine lv_istore_n (lv' := [(1, .int 3), (2, .int 5), (0, .ref (ad 4 0))]) hx hb dX3_size_25 rfl hl (by decide) rfl (fun ls hl => ?_)
              refine lv_iinc (v := (6)) (lv' := [(2, .int 6), (1, .int 3), (0, .ref (ad 4 0))]) hx hb dX3_size_26 hl (k := 1) rfl (by decide) (by decide) rfl (fun ls hl => ?_)
              refine lv_goto (tgt := 4) hx hb dX3_size_29 (by decide) ?_
              refine lv_iload_n hx hb dX3_size_4 rfl (lv_at hl 0 rfl) ?_
              refine lv_bipush (v := 6) hx hb dX3_size_5 (by decide) ?_
              refine lv_icmp_ge (tgt := 32) hx hb dX3_size_7 (by decide) (fun _ => ?_) (fun h9 => absurd (by decide) h9)
              refine lv_iload_n hx hb dX3_size_32 rfl (lv_at hl 1 rfl) ?_
              exact gs_iret hx hb hr hlocks hM hS rfl ⟨gN.rf, trivial⟩ (by exact Nat.le_refl _) (by exact Nat.le_refl _) dX3_size_33
        · skip
          refine lv_if_eq (tgt := 23) hx hb dX3_size_16 (by decide) (fun _ => ?_) (fun h9 => absurd (by decide) h9)
          refine lv_iconst (v := 0) hx hb dX3_size_23 (by decide) ?_
          refine lv_iadd hx hb dX3_size_24 ?_
          refine lv_topi (fun x_112 ex_112 => ?_)
          obtain rfl : x_112 = (2 : Int32) := ex_112.trans (by decide)
          refine lv_istore_n (lv' := [(1, .int 2), (2, .int 3), (0, .ref (ad 4 0))]) hx hb dX3_size_25 rfl hl (by decide) rfl (fun ls hl => ?_)
          refine lv_iinc (v := (4)) (lv' := [(2, .int 4), (1, .int 2), (0, .ref (ad 4 0))]) hx hb dX3_size_26 hl (k := 1) rfl (by decide) (by decide) rfl (fun ls hl => ?_)
          refine lv_goto (tgt := 4) hx hb dX3_size_29 (by decide) ?_
          refine lv_iload_n hx hb dX3_size_4 rfl (lv_at hl 0 rfl) ?_
          refine lv_bipush (v := 6) hx hb dX3_size_5 (by decide) ?_
          refine lv_icmp_ge (tgt := 32) hx hb dX3_size_7 (by decide) (fun h9 => absurd h9 (by decide)) (fun _ => ?_)
          refine lv_iload_n hx hb dX3_size_10 rfl (lv_at hl 1 rfl) ?_
          refine lv_aload_n hx hb dX3_size_11 rfl (lv_at hl 2 rfl) ?_
          refine lv_iload_n hx hb dX3_size_12 rfl (lv_at hl 0 rfl) ?_
          refine gs_calli (va_runV (As := [.int 4]) (rest := [.int 2]) ⟨hx, hb, hml, hown, hts⟩ (s_X3_isThere l G cy sK sV ad H.size st (4 : Int32) 4 (by decide) (by first | decide | omega) (by first | decide | omega)) ⟨(gz_cb (n := 1) hts gm_733 gm_4 gm_350 ⟨by decide +kernel, by decide +kernel, by decide +kernel⟩ ⟨Nat.le_of_ble_eq_true rfl, Nat.le_of_ble_eq_true rfl⟩), hts _ gm_348, hts _ gm_349⟩ (gs_preV hK hov hE hI hM hm hS hA 4 0 (by decide) rfl rfl) rfl rfl hl.1 rfl (lv_room (Nat.le_of_ble_eq_true rfl)) dX3_size_13 ⟨Nat.le_of_ble_eq_true rfl, Nat.le_of_ble_eq_true rfl⟩) hm hS hA (fun r_113 st_113 H locs hw_113 hM hS => ?_)
          obtain ⟨n_113, hw_113⟩ := hw_113
          have n_113 := gN0 n_113
          subst n_113
          rcases hw_113 with ⟨rfl, hw_113_0⟩ | ⟨rfl, hw_113_0⟩
          · skip
            refine lv_if_eq (tgt := 23) hx hb dX3_size_16 (by decide) (fun h9 => absurd h9 (by decide)) (fun _ => ?_)
            refine lv_iconst (v := 1) hx hb dX3_size_19 (by decide) ?_
            refine lv_goto (tgt := 24) hx hb dX3_size_20 (by decide) ?_
            refine lv_iadd hx hb dX3_size_24 ?_
            refine lv_topi (fun x_114 ex_114 => ?_)
            obtain rfl : x_114 = (3 : Int32) := ex_114.trans (by decide)
            refine lv_istore_n (lv' := [(1, .int 3), (2, .int 4), (0, .ref (ad 4 0))]) hx hb dX3_size_25 rfl hl (by decide) rfl (fun ls hl => ?_)
            refine lv_iinc (v := (5)) (lv' := [(2, .int 5), (1, .int 3), (0, .ref (ad 4 0))]) hx hb dX3_size_26 hl (k := 1) rfl (by decide) (by decide) rfl (fun ls hl => ?_)
            refine lv_goto (tgt := 4) hx hb dX3_size_29 (by decide) ?_
            refine lv_iload_n hx hb dX3_size_4 rfl (lv_at hl 0 rfl) ?_
            refine lv_bipush (v := 6) hx hb dX3_size_5 (by decide) ?_
            refine lv_icmp_ge (tgt := 32) hx hb dX3_size_7 (by decide) (fun h9 => absurd h9 (by decide)) (fun _ => ?_)
            refine lv_iload_n hx hb dX3_size_10 rfl (lv_at hl 1 rfl) ?_
            refine lv_aload_n hx hb dX3_size_11 rfl (lv_at hl 2 rfl) ?_
            refine lv_iload_n hx hb dX3_size_12 rfl (lv_at hl 0 rfl) ?_
            refine gs_calli (va_runV (As := [.int 5]) (rest := [.int 3]) ⟨hx, hb, hml, hown, hts⟩ (s_X3_isThere l G cy sK sV ad H.size st (5 : Int32) 5 (by decide) (by first | decide | omega) (by first | decide | omega)) ⟨(gz_cb (n := 1) hts gm_733 gm_4 gm_350 ⟨by decide +kernel, by decide +kernel, by decide +kernel⟩ ⟨Nat.le_of_ble_eq_true rfl, Nat.le_of_ble_eq_true rfl⟩), hts _ gm_348, hts _ gm_349⟩ (gs_preV hK hov hE hI hM hm hS hA 4 0 (by decide) rfl rfl) rfl rfl hl.1 rfl (lv_room (Nat.le_of_ble_eq_true rfl)) dX3_size_13 ⟨Nat.le_of_ble_eq_true rfl, Nat.le_of_ble_eq_true rfl⟩) hm hS hA (fun r_115 st_115 H locs hw_115 hM hS => ?_)
            obtain ⟨n_115, hw_115⟩ := hw_115
            have n_115 := gN0 n_115
            subst n_115
            rcases hw_115 with ⟨rfl, hw_115_0⟩ | ⟨rfl, hw_115_0⟩
            · skip
              refine lv_if_eq (tgt := 23) hx hb dX3_size_16 (by decide) (fun h9 => absurd h9 (by decide)) (fun _ => ?_)
              refine lv_iconst (v := 1) hx hb dX3_size_19 (by decide) ?_
              refine lv_goto (tgt := 24) hx hb dX3_size_20 (by decide) ?_
              refine lv_iadd hx hb dX3_size_24 ?_
              refine lv_topi (fun x_116 ex_116 => ?_)
              obtain rfl : x_116 = (4 : Int32) := ex_116.trans (by decide)
              refine lv_istore_n (lv' := [(1, .int 4), (2, .int 5), (0, .ref (ad 4 0))]) hx hb dX3_size_25 rfl hl (by decide) rfl (fun ls hl => ?_)
              refine lv_iinc (v := (6)) (lv' := [(2, .int 6), (1, .int 4), (0, .ref (ad 4 0))]) hx hb dX3_size_26 hl (k := 1) rfl (by decide) (by decide) rfl (fun ls hl => ?_)
              refine lv_goto (tgt := 4) hx hb dX3_size_29 (by decide) ?_
              refine lv_iload_n hx hb dX3_size_4 rfl (lv_at hl 0 rfl) ?_
              refine lv_bipush (v := 6) hx hb dX3_size_5 (by decide) ?_
              refine lv_icmp_ge (tgt := 32) hx hb dX3_size_7 (by decide) (fun _ => ?_) (fun h9 => absurd (by decide) h9)
              refine lv_iload_n hx hb dX3_size_32 rfl (lv_at hl 1 rfl) ?_
              exact gs_iret hx hb hr hlocks hM hS rfl ⟨gN.rf, trivial⟩ (by exact Nat.le_refl _) (by exact Nat.le_refl _) dX3_size_33
            · skip
              refine lv_if_eq (tgt := 23) hx hb dX3_size_16 (by decide) (fun _ => ?_) (fun h9 => absurd (by decide) h9)
              refine lv_iconst (v := 0) hx hb dX3_size_23 (by decide) ?_
              refine lv_iadd hx hb dX3_size_24 ?_
              refine lv_topi (fun x_117 ex_117 => ?_)
              obtain rfl : x_117 = (3 : Int32) := ex_117.trans (by decide)
              refine lv_istore_n (lv' := [(1, .int 3), (2, .int 5), (0, .ref (ad 4 0))]) hx hb dX3_size_25 rfl hl (by decide) rfl (fun ls hl => ?_)
              refine lv_iinc (v := (6)) (lv' := [(2, .int 6), (1, .int 3), (0, .ref (ad 4 0))]) hx hb dX3_size_26 hl (k := 1) rfl (by decide) (by decide) rfl (fun ls hl => ?_)
              refine lv_goto (tgt := 4) hx hb dX3_size_29 (by decide) ?_
              refine lv_iload_n hx hb dX3_size_4 rfl (lv_at hl 0 rfl) ?_
              refine lv_bipush (v := 6) hx hb dX3_size_5 (by decide) ?_
              refine lv_icmp_ge (tgt := 32) hx hb dX3_size_7 (by decide) (fun _ => ?_) (fun h9 => absurd (by decide) h9)
              refine lv_iload_n hx hb dX3_size_32 rfl (lv_at hl 1 rfl) ?_
              exact gs_iret hx hb hr hlocks hM hS rfl ⟨gN.rf, trivial⟩ (by exact Nat.le_refl _) (by exact Nat.le_refl _) dX3_size_33
          · skip
            refine lv_if_eq (tgt := 23) hx hb dX3_size_16 (by decide) (fun _ => ?_) (fun h9 => absurd (by decide) h9)
            refine lv_iconst (v := 0) hx hb dX3_size_23 (by decide) ?_
            refine lv_iadd hx hb dX3_size_24 ?_
            refine lv_topi (fun x_118 ex_118 => ?_)
            obtain rfl : x_118 = (2 : Int32) := ex_118.trans (by decide)
            refine lv_istore_n (lv' := [(1, .int 2), (2, .int 4), (0, .ref (ad 4 0))]) hx hb dX3_size_25 rfl hl (by decide) rfl (fun ls hl => ?_)
            refine lv_iinc (v := (5)) (lv' := [(2, .int 5), (1, .int 2), (0, .ref (ad 4 0))]) hx hb dX3_size_26 hl (k := 1) rfl (by decide) (by decide) rfl (fun ls hl => ?_)
            refine lv_goto (tgt := 4) hx hb dX3_size_29 (by decide) ?_
            refine lv_iload_n hx hb dX3_size_4 rfl (lv_at hl 0 rfl) ?_
            refine lv_bipush (v := 6) hx hb dX3_size_5 (by decide) ?_
            refine lv_icmp_ge (tgt := 32) hx hb dX3_size_7 (by decide) (fun h9 => absurd h9 (by decide)) (fun _ => ?_)
            refine lv_iload_n hx hb dX3_size_10 rfl (lv_at hl 1 rfl) ?_
            refine lv_aload_n hx hb dX3_size_11 rfl (lv_at hl 2 rfl) ?_
            refine lv_iload_n hx hb dX3_size_12 rfl (lv_at hl 0 rfl) ?_
            refine gs_calli (va_runV (As := [.int 5]) (rest := [.int 2]) ⟨hx, hb, hml, hown, hts⟩ (s_X3_isThere l G cy sK sV ad H.size st (5 : Int32) 5 (by decide) (by first | decide | omega) (by first | decide | omega)) ⟨(gz_cb (n := 1) hts gm_733 gm_4 gm_350 ⟨by decide +kernel, by decide +kernel, by decide +kernel⟩ ⟨Nat.le_of_ble_eq_true rfl, Nat.le_of_ble_eq_true rfl⟩), hts _ gm_348, hts _ gm_349⟩ (gs_preV hK hov hE hI hM hm hS hA 4 0 (by decide) rfl rfl) rfl rfl hl.1 rfl (lv_room (Nat.le_of_ble_eq_true rfl)) dX3_size_13 ⟨Nat.le_of_ble_eq_true rfl, Nat.le_of_ble_eq_true rfl⟩) hm hS hA (fun r_119 st_119 H locs hw_119 hM hS => ?_)
            obtain ⟨n_119, hw_119⟩ := hw_119
            have n_119 := gN0 n_119
            subst n_119
            rcases hw_119 with ⟨rfl, hw_119_0⟩ | ⟨rfl, hw_119_0⟩
            · skip
              refine lv_if_eq (tgt := 23) hx hb dX3_size_16 (by decide) (fun h9 => absurd h9 (by decide)) (fun _ => ?_)
              refine lv_iconst (v := 1) hx hb dX3_size_19 (by decide) ?_
              refine lv_goto (tgt := 24) hx hb dX3_size_20 (by decide) ?_
              refine lv_iadd hx hb dX3_size_24 ?_
              refine lv_topi (fun x_120 ex_120 => ?_)
              obtain rfl : x_120 = (3 : Int32) := ex_120.trans (by decide)
              refine lv_istore_n (lv' := [(1, .int 3), (2, .int 5), (0, .ref (ad 4 0))]) hx hb dX3_size_25 rfl hl (by decide) rfl (fun ls hl => ?_)
              refine lv_iinc (v := (6)) (lv' := [(2, .int 6), (1, .int 3), (0, .ref (ad 4 0))]) hx hb dX3_size_26 hl (k := 1) rfl (by decide) (by decide) rfl (fun ls hl => ?_)
              refine lv_goto (tgt := 4) hx hb dX3_size_29 (by decide) ?_
              refine lv_iload_n hx hb dX3_size_4 rfl (lv_at hl 0 rfl) ?_
              refine lv_bipush (v := 6) hx hb dX3_size_5 (by decide) ?_
              refine lv_icmp_ge (tgt := 32) hx hb dX3_size_7 (by decide) (fun _ => ?_) (fun h9 => absurd (by decide) h9)
              refine lv_iload_n hx hb dX3_size_32 rfl (lv_at hl 1 rfl) ?_
              exact gs_iret hx hb hr hlocks hM hS rfl ⟨gN.rf, trivial⟩ (by exact Nat.le_refl _) (by exact Nat.le_refl _) dX3_size_33
            · skip
              refine lv_if_eq (tgt := 23) hx hb dX3_size_16 (by decide) (fun _ => ?_) (fun h9 => absurd (by decide) h9)
              refine lv_iconst (v := 0) hx hb dX3_size_23 (by decide) ?_
              refine lv_iadd hx hb dX3_size_24 ?_
              refine lv_topi (fun x_121 ex_121 => ?_)
              obtain rfl : x_121 = (2 : Int32) := ex_121.trans (by decide)
              refine lv_istore_n (lv' := [(1, .int 2), (2, .int 5), (0, .ref (ad 4 0))]) hx hb dX3_size_25 rfl hl (by decide) rfl (fun ls hl => ?_)
              refine lv_iinc (v := (6)) (lv' := [(2, .int 6), (1, .int 2), (0, .ref (ad 4 0))]) hx hb dX3_size_26 hl (k := 1) rfl (by decide) (by decide) rfl (fun ls hl => ?_)
              refine lv_goto (tgt := 4) hx hb dX3_size_29 (by decide) ?_
              refine lv_iload_n hx hb dX3_size_4 rfl (lv_at hl 0 rfl) ?_
              refine lv_bipush (v := 6) hx hb dX3_size_5 (by decide) ?_
              refine lv_icmp_ge (tgt := 32) hx hb dX3_size_7 (by decide) (fun _ => ?_) (fun h9 => absurd (by decide) h9)
              refine lv_iload_n hx hb dX3_size_32 rfl (lv_at hl 1 rfl) ?_
              exact gs_iret hx hb hr hlocks hM hS rfl ⟨gN.rf, trivial⟩ (by exact Nat.le_refl _) (by exact Nat.le_refl _) dX3_size_33
      · skip
        refine lv_if_eq (tgt := 23) hx hb dX3_size_16 (by decide) (fun _ => ?_) (fun h9 => absurd (by decide) h9)
        refine lv_iconst (v := 0) hx hb dX3_size_23 (by decide) ?_
        refine lv_iadd hx hb dX3_size_24 ?_
        refine lv_topi (fun x_122 ex_122 => ?_)
        obtain rfl : x_122 = (1 : Int32) := ex_122.trans (by decide)
        refine lv_istore_n (lv' := [(1, .int 1), (2, .int 2), (0, .ref (ad 4 0))]) hx hb dX3_size_25 rfl hl (by decide) rfl (fun ls hl => ?_)
        refine lv_iinc (v := (3)) (lv' := [(2, .int 3), (1, .int 1), (0, .ref (ad 4 0))]) hx hb dX3_size_26 hl (k := 1) rfl (by decide) (by decide) rfl (fun ls hl => ?_)
        refine lv_goto (tgt := 4) hx hb dX3_size_29 (by decide) ?_
        refine lv_iload_n hx hb dX3_size_4 rfl (lv_at hl 0 rfl) ?_
        refine lv_bipush (v := 6) hx hb dX3_size_5 (by decide) ?_
        refine lv_icmp_ge (tgt := 32) hx hb dX3_size_7 (by decide) (fun h9 => absurd h9 (by decide)) (fun _ => ?_)
        refine lv_iload_n hx hb dX3_size_10 rfl (lv_at hl 1 rfl) ?_
        refine lv_aload_n hx hb dX3_size_11 rfl (lv_at hl 2 rfl) ?_
        refine lv_iload_n hx hb dX3_size_12 rfl (lv_at hl 0 rfl) ?_
        refine gs_calli (va_runV (As := [.int 3]) (rest := [.int 1]) ⟨hx, hb, hml, hown, hts⟩ (s_X3_isThere l G cy sK sV ad H.size st (3 : Int32) 3 (by decide) (by first | decide | omega) (by first | decide | omega)) ⟨(gz_cb (n := 1) hts gm_733 gm_4 gm_350 ⟨by decide +kernel, by decide +kernel, by decide +kernel⟩ ⟨Nat.le_of_ble_eq_true rfl, Nat.le_of_ble_eq_true rfl⟩), hts _ gm_348, hts _ gm_349⟩ (gs_preV hK hov hE hI hM hm hS hA 4 0 (by decide) rfl rfl) rfl rfl hl.1 rfl (lv_room (Nat.le_of_ble_eq_true rfl)) dX3_size_13 ⟨Nat.le_of_ble_eq_true rfl, Nat.le_of_ble_eq_true rfl⟩) hm hS hA (fun r_123 st_123 H locs hw_123 hM hS => ?_)
        obtain ⟨n_123, hw_123⟩ := hw_123
        have n_123 := gN0 n_123
        subst n_123
        rcases hw_123 with ⟨rfl, hw_123_0⟩ | ⟨rfl, hw_123_0⟩
        · skip
          refine lv_if_eq (tgt := 23) hx hb dX3_size_16 (by decide) (fun h9 => absurd h9 (by decide)) (fun _ => ?_)
          refine lv_iconst (v := 1) hx hb dX3_size_19 (by decide) ?_
          refine lv_goto (tgt := 24) hx hb dX3_size_20 (by decide) ?_
          refine lv_iadd hx hb dX3_size_24 ?_
          refine lv_topi (fun x_124 ex_124 => ?_)
          obtain rfl : x_124 = (2 : Int32) := ex_124.trans (by decide)
          refine lv_istore_n (lv' := [(1, .int 2), (2, .int 3), (0, .ref (ad 4 0))]) hx hb dX3_size_25 rfl hl (by decide) rfl (fun ls hl => ?_)
          refine lv_iinc (v := (4)) (lv' := [(2, .int 4), (1, .int 2), (0, .ref (ad 4 0))]) hx hb dX3_size_26 hl (k := 1) rfl (by decide) (by decide) rfl (fun ls hl => ?_)
          refine lv_goto (tgt := 4) hx hb dX3_size_29 (by decide) ?_
          refine lv_iload_n hx hb dX3_size_4 rfl (lv_at hl 0 rfl) ?_
          refine lv_bipush (v := 6) hx hb dX3_size_5 (by decide) ?_
          refine lv_icmp_ge (tgt := 32) hx hb dX3_size_7 (by decide) (fun h9 => absurd h9 (by decide)) (fun _ => ?_)
          refine lv_iload_n hx hb dX3_size_10 rfl (lv_at hl 1 rfl) ?_
          refine lv_aload_n hx hb dX3_size_11 rfl (lv_at hl 2 rfl) ?_
          refine lv_iload_n hx hb dX3_size_12 rfl (lv_at hl 0 rfl) ?_
          refine gs_calli (va_runV (As := [.int 4]) (rest := [.int 2]) ⟨hx, hb, hml, hown, hts⟩ (s_X3_isThere l G cy sK sV ad H.size st (4 : Int32) 4 (by decide) (by first | decide | omega) (by first | decide | omega)) ⟨(gz_cb (n := 1) hts gm_733 gm_4 gm_350 ⟨by decide +kernel, by decide +kernel, by decide +kernel⟩ ⟨Nat.le_of_ble_eq_true rfl, Nat.le_of_ble_eq_true rfl⟩), hts _ gm_348, hts _ gm_349⟩ (gs_preV hK hov hE hI hM hm hS hA 4 0 (by decide) rfl rfl) rfl rfl hl.1 rfl (lv_room (Nat.le_of_ble_eq_true rfl)) dX3_size_13 ⟨Nat.le_of_ble_eq_true rfl, Nat.le_of_ble_eq_true rfl⟩) hm hS hA (fun r_125 st_125 H locs hw_125 hM hS => ?_)
          obtain ⟨n_125, hw_125⟩ := hw_125
          have n_125 := gN0 n_125
          subst n_125
          rcases hw_125 with ⟨rfl, hw_125_0⟩ | ⟨rfl, hw_125_0⟩
          · skip
            refine lv_if_eq (tgt := 23) hx hb dX3_size_16 (by decide) (fun h9 => absurd h9 (by decide)) (fun _ => ?_)
            refine lv_iconst (v := 1) hx hb dX3_size_19 (by decide) ?_
            refine lv_goto (tgt := 24) hx hb dX3_size_20 (by decide) ?_
            refine lv_iadd hx hb dX3_size_24 ?_
            refine lv_topi (fun x_126 ex_126 => ?_)
            obtain rfl : x_126 = (3 : Int32) := ex_126.trans (by decide)
            refine lv_istore_n (lv' := [(1, .int 3), (2, .int 4), (0, .ref (ad 4 0))]) hx hb dX3_size_25 rfl hl (by decide) rfl (fun ls hl => ?_)
            refine lv_iinc (v := (5)) (lv' := [(2, .int 5), (1, .int 3), (0, .ref (ad 4 0))]) hx hb dX3_size_26 hl (k := 1) rfl (by decide) (by decide) rfl (fun ls hl => ?_)
            refine lv_goto (tgt := 4) hx hb dX3_size_29 (by decide) ?_
            refine lv_iload_n hx hb dX3_size_4 rfl (lv_at hl 0 rfl) ?_
            refine lv_bipush (v := 6) hx hb dX3_size_5 (by decide) ?_
            refine lv_icmp_ge (tgt := 32) hx hb dX3_size_7 (by decide) (fun h9 => absurd h9 (by decide)) (fun _ => ?_)
            refine lv_iload_n hx hb dX3_size_10 rfl (lv_at hl 1 rfl) ?_
            refine lv_aload_n hx hb dX3_size_11 rfl (lv_at hl 2 rfl) ?_
            refine lv_iload_n hx hb dX3_size_12 rfl (lv_at hl 0 rfl) ?_
            refine gs_calli (va_runV (As := [.int 5]) (rest := [.int 3]) ⟨hx, hb, hml, hown, hts⟩ (s_X3_isThere l G cy sK sV ad H.size st (5 : Int32) 5 (by decide) (by first | decide | omega) (by first | decide | omega)) ⟨(gz_cb (n := 1) hts gm_733 gm_4 gm_350 ⟨by decide +kernel, by decide +kernel, by decide +kernel⟩ ⟨Nat.le_of_ble_eq_true rfl, Nat.le_of_ble_eq_true rfl⟩), hts _ gm_348, hts _ gm_349⟩ (gs_preV hK hov hE hI hM hm hS hA 4 0 (by decide) rfl rfl) rfl rfl hl.1 rfl (lv_room (Nat.le_of_ble_eq_true rfl)) dX3_size_13 ⟨Nat.le_of_ble_eq_true rfl, Nat.le_of_ble_eq_true rfl⟩) hm hS hA (fun r_127 st_127 H locs hw_127 hM hS => ?_)
            obtain ⟨n_127, hw_127⟩ := hw_127
            have n_127 := gN0 n_127
            subst n_127
            rcases hw_127 with ⟨rfl, hw_127_0⟩ | ⟨rfl, hw_127_0⟩
            · skip
              refine lv_if_eq (tgt := 23) hx hb dX3_size_16 (by decide) (fun h9 => absurd h9 (by decide)) (fun _ => ?_)
              refine lv_iconst (v := 1) hx hb dX3_size_19 (by decide) ?_
              refine lv_goto (tgt := 24) hx hb dX3_size_20 (by decide) ?_
              refine lv_iadd hx hb dX3_size_24 ?_
              refine lv_topi (fun x_128 ex_128 => ?_)
              obtain rfl : x_128 = (4 : Int32) := ex_128.trans (by decide)
              refine lv_istore_n (lv' := [(1, .int 4), (2, .int 5), (0, .ref (ad 4 0))]) hx hb dX3_size_25 rfl hl (by decide) rfl (fun ls hl => ?_)
              refine lv_iinc (v := (6)) (lv' := [(2, .int 6), (1, .int 4), (0, .ref (ad 4 0))]) hx hb dX3_size_26 hl (k := 1) rfl (by decide) (by decide) rfl (fun ls hl => ?_)
              refine lv_goto (tgt := 4) hx hb dX3_size_29 (by decide) ?_
              refine lv_iload_n hx hb dX3_size_4 rfl (lv_at hl 0 rfl) ?_
              refine lv_bipush (v := 6) hx hb dX3_size_5 (by decide) ?_
              refine lv_icmp_ge (tgt := 32) hx hb dX3_size_7 (by decide) (fun _ => ?_) (fun h9 => absurd (by decide) h9)
              refine lv_iload_n hx hb dX3_size_32 rfl (lv_at hl 1 rfl) ?_
              exact gs_iret hx hb hr hlocks hM hS rfl ⟨gN.rf, trivial⟩ (by exact Nat.le_refl _) (by exact Nat.le_refl _) dX3_size_33
            · skip
              refine lv_if_eq (tgt := 23) hx hb dX3_size_16 (by decide) (fun _ => ?_) (fun h9 => absurd (by decide) h9)
              refine lv_iconst (v := 0) hx hb dX3_size_23 (by decide) ?_
              refine lv_iadd hx hb dX3_size_24 ?_
              refine lv_topi (fun x_129 ex_129 => ?_)
              obtain rfl : x_129 = (3 : Int32) := ex_129.trans (by decide)
              refine lv_istore_n (lv' := [(1, .int 3), (2, .int 5), (0, .ref (ad 4 0))]) hx hb dX3_size_25 rfl hl (by decide) rfl (fun ls hl => ?_)
              refine lv_iinc (v := (6)) (lv' := [(2, .int 6), (1, .int 3), (0, .ref (ad 4 0))]) hx hb dX3_size_26 hl (k := 1) rfl (by decide) (by decide) rfl (fun ls hl => ?_)
              refine lv_goto (tgt := 4) hx hb dX3_size_29 (by decide) ?_
              refine lv_iload_n hx hb dX3_size_4 rfl (lv_at hl 0 rfl) ?_
              refine lv_bipush (v := 6) hx hb dX3_size_5 (by decide) ?_
              refine lv_icmp_ge (tgt := 32) hx hb dX3_size_7 (by decide) (fun _ => ?_) (fun h9 => absurd (by decide) h9)
              refine lv_iload_n hx hb dX3_size_32 rfl (lv_at hl 1 rfl) ?_
              exact gs_iret hx hb hr hlocks hM hS rfl ⟨gN.rf, trivial⟩ (by exact Nat.le_refl _) (by exact Nat.le_refl _) dX3_size_33
          · skip
            refine lv_if_eq (tgt := 23) hx hb dX3_size_16 (by decide) (fun _ => ?_) (fun h9 => absurd (by decide) h9)
            refine lv_iconst (v := 0) hx hb dX3_size_23 (by decide) ?_
            refine lv_iadd hx hb dX3_size_24 ?_
            refine lv_topi (fun x_130 ex_130 => ?_)
            obtain rfl : x_130 = (2 : Int32) := ex_130.trans (by decide)
            refine lv_istore_n (lv' := [(1, .int 2), (2, .int 4), (0, .ref (ad 4 0))]) hx hb dX3_size_25 rfl hl (by decide) rfl (fun ls hl => ?_)
            refine lv_iinc (v := (5)) (lv' := [(2, .int 5), (1, .int 2), (0, .ref (ad 4 0))]) hx hb dX3_size_26 hl (k := 1) rfl (by decide) (by decide) rfl (fun ls hl => ?_)
            refine lv_goto (tgt := 4) hx hb dX3_size_29 (by decide) ?_
            refine lv_iload_n hx hb dX3_size_4 rfl (lv_at hl 0 rfl) ?_
            refine lv_bipush (v := 6) hx hb dX3_size_5 (by decide) ?_
            refine lv_icmp_ge (tgt := 32) hx hb dX3_size_7 (by decide) (fun h9 => absurd h9 (by decide)) (fun _ => ?_)
            refine lv_iload_n hx hb dX3_size_10 rfl (lv_at hl 1 rfl) ?_
            refine lv_aload_n hx hb dX3_size_11 rfl (lv_at hl 2 rfl) ?_
            refine lv_iload_n hx hb dX3_size_12 rfl (lv_at hl 0 rfl) ?_
            refine gs_calli (va_runV (As := [.int 5]) (rest := [.int 2]) ⟨hx, hb, hml, hown, hts⟩ (s_X3_isThere l G cy sK sV ad H.size st (5 : Int32) 5 (by decide) (by first | decide | omega) (by first | decide | omega)) ⟨(gz_cb (n := 1) hts gm_733 gm_4 gm_350 ⟨by decide +kernel, by decide +kernel, by decide +kernel⟩ ⟨Nat.le_of_ble_eq_true rfl, Nat.le_of_ble_eq_true rfl⟩), hts _ gm_348, hts _ gm_349⟩ (gs_preV hK hov hE hI hM hm hS hA 4 0 (by decide) rfl rfl) rfl rfl hl.1 rfl (lv_room (Nat.le_of_ble_eq_true rfl)) dX3_size_13 ⟨Nat.le_of_ble_eq_true rfl, Nat.le_of_ble_eq_true rfl⟩) hm hS hA (fun r_131 st_131 H locs hw_131 hM hS => ?_)
            obtain ⟨n_131, hw_131⟩ := hw_131
            have n_131 := gN0 n_131
            subst n_131
            rcases hw_131 with ⟨rfl, hw_131_0⟩ | ⟨rfl, hw_131_0⟩
            · skip
              refine lv_if_eq (tgt := 23) hx hb dX3_size_16 (by decide) (fun h9 => absurd h9 (by decide)) (fun _ => ?_)
              refine lv_iconst (v := 1) hx hb dX3_size_19 (by decide) ?_
              refine lv_goto (tgt := 24) hx hb dX3_size_20 (by decide) ?_
              refine lv_iadd hx hb dX3_size_24 ?_
              refine lv_topi (fun x_132 ex_132 => ?_)
              obtain rfl : x_132 = (3 : Int32) := ex_132.trans (by decide)
              refine lv_istore_n (lv' := [(1, .int 3), (2, .int 5), (0, .ref (ad 4 0))]) hx hb dX3_size_25 rfl hl (by decide) rfl (fun ls hl => ?_)
              refine lv_iinc (v := (6)) (lv' := [(2, .int 6), (1, .int 3), (0, .ref (ad 4 0))]) hx hb dX3_size_26 hl (k := 1) rfl (by decide) (by decide) rfl (fun ls hl => ?_)
              refine lv_goto (tgt := 4) hx hb dX3_size_29 (by decide) ?_
              refine lv_iload_n hx hb dX3_size_4 rfl (lv_at hl 0 rfl) ?_
              refine lv_bipush (v := 6) hx hb dX3_size_5 (by decide) ?_
              refine lv_icmp_ge (tgt := 32) hx hb dX3_size_7 (by decide) (fun _ => ?_) (fun h9 => absurd (by decide) h9)
              refine lv_iload_n hx hb dX3_size_32 rfl (lv_at hl 1 rfl) ?_
              exact gs_iret hx hb hr hlocks hM hS rfl ⟨gN.rf, trivial⟩ (by exact Nat.le_refl _) (by exact Nat.le_refl _) dX3_size_33
            · skip
              refine lv_if_eq (tgt := 23) hx hb dX3_size_16 (by decide) (fun _ => ?_) (fun h9 => absurd (by decide) h9)
              refine lv_iconst (v := 0) hx hb dX3_size_23 (by decide) ?_
              refine lv_iadd hx hb dX3_size_24 ?_
              refine lv_topi (fun x_133 ex_133 => ?_)
              obtain rfl : x_133 = (2 : Int32) := ex_133.trans (by decide)
              refine lv_istore_n (lv' := [(1, .int 2), (2, .int 5), (0, .ref (ad 4 0))]) hx hb dX3_size_25 rfl hl (by decide) rfl (fun ls hl => ?_)
              refine lv_iinc (v := (6)) (lv' := [(2, .int 6), (1, .int 2), (0, .ref (ad 4 0))]) hx hb dX3_size_26 hl (k := 1) rfl (by decide) (by decide) rfl (fun ls hl => ?_)
              refine lv_goto (tgt := 4) hx hb dX3_size_29 (by decide) ?_
              refine lv_iload_n hx hb dX3_size_4 rfl (lv_at hl 0 rfl) ?_
              refine lv_bipush (v := 6) hx hb dX3_size_5 (by decide) ?_
              refine lv_icmp_ge (tgt := 32) hx hb dX3_size_7 (by decide) (fun _ => ?_) (fun h9 => absurd (by decide) h9)
              refine lv_iload_n hx hb dX3_size_32 rfl (lv_at hl 1 rfl) ?_
              exact gs_iret hx hb hr hlocks hM hS rfl ⟨gN.rf, trivial⟩ (by exact Nat.le_refl _) (by exact Nat.le_refl _) dX3_size_33
        · skip
          refine lv_if_eq (tgt := 23) hx hb dX3_size_16 (by decide) (fun _ => ?_) (fun h9 => absurd (by decide) h9)
          refine lv_iconst (v := 0) hx hb dX3_size_23 (by decide) ?_
          refine lv_iadd hx hb dX3_size_24 ?_
          refine lv_topi (fun x_134 ex_134 => ?_)
          obtain rfl : x_134 = (1 : Int32) := ex_134.trans (by decide)
          refine lv_istore_n (lv' := [(1, .int 1), (2, .int 3), (0, .ref (ad 4 0))]) hx hb dX3_size_25 rfl hl (by decide) rfl (fun ls hl => ?_)
          refine lv_iinc (v := (4)) (lv' := [(2, .int 4), (1, .int 1), (0, .ref (ad 4 0))]) hx hb dX3_size_26 hl (k := 1) rfl (by decide) (by decide) rfl (fun ls hl => ?_)
          refine lv_goto (tgt := 4) hx hb dX3_size_29 (by decide) ?_
          refine lv_iload_n hx hb dX3_size_4 rfl (lv_at hl 0 rfl) ?_
          refine lv_bipush (v := 6) hx hb dX3_size_5 (by decide) ?_
          refine lv_icmp_ge (tgt := 32) hx hb dX3_size_7 (by decide) (fun h9 => absurd h9 (by decide)) (fun _ => ?_)
          refine lv_iload_n hx hb dX3_size_10 rfl (lv_at hl 1 rfl) ?_
          refine lv_aload_n hx hb dX3_size_11 rfl (lv_at hl 2 rfl) ?_
          refine lv_iload_n hx hb dX3_size_12 rfl (lv_at hl 0 rfl) ?_
          refine gs_calli (va_runV (As := [.int 4]) (rest := [.int 1]) ⟨hx, hb, hml, hown, hts⟩ (s_X3_isThere l G cy sK sV ad H.size st (4 : Int32) 4 (by decide) (by first | decide | omega) (by first | decide | omega)) ⟨(gz_cb (n := 1) hts gm_733 gm_4 gm_350 ⟨by decide +kernel, by decide +kernel, by decide +kernel⟩ ⟨Nat.le_of_ble_eq_true rfl, Nat.le_of_ble_eq_true rfl⟩), hts _ gm_348, hts _ gm_349⟩ (gs_preV hK hov hE hI hM hm hS hA 4 0 (by decide) rfl rfl) rfl rfl hl.1 rfl (lv_room (Nat.le_of_ble_eq_true rfl)) dX3_size_13 ⟨Nat.le_of_ble_eq_true rfl, Nat.le_of_ble_eq_true rfl⟩) hm hS hA (fun r_135 st_135 H locs hw_135 hM hS => ?_)
          obtain ⟨n_135, hw_135⟩ := hw_135
          have n_135 := gN0 n_135
          subst n_135
          rcases hw_135 with ⟨rfl, hw_135_0⟩ | ⟨rfl, hw_135_0⟩
          · skip
            refine lv_if_eq (tgt := 23) hx hb dX3_size_16 (by decide) (fun h9 => absurd h9 (by decide)) (fun _ => ?_)
            refine lv_iconst (v := 1) hx hb dX3_size_19 (by decide) ?_
            refine lv_goto (tgt := 24) hx hb dX3_size_20 (by decide) ?_
            refine lv_iadd hx hb dX3_size_24 ?_
            refine lv_topi (fun x_136 ex_136 => ?_)
            obtain rfl : x_136 = (2 : Int32) := ex_136.trans (by decide)
            refine lv_istore_n (lv' := [(1, .int 2), (2, .int 4), (0, .ref (ad 4 0))]) hx hb dX3_size_25 rfl hl (by decide) rfl (fun ls hl => ?_)
            refine lv_iinc (v := (5)) (lv' := [(2, .int 5), (1, .int 2), (0, .ref (ad 4 0))]) hx hb dX3_size_26 hl (k := 1) rfl (by decide) (by decide) rfl (fun ls hl => ?_)
            refine lv_goto (tgt := 4) hx hb dX3_size_29 (by decide) ?_
            refine lv_iload_n hx hb dX3_size_4 rfl (lv_at hl 0 rfl) ?_
            refine lv_bipush (v := 6) hx hb dX3_size_5 (by decide) ?_
            refine lv_icmp_ge (tgt := 32) hx hb dX3_size_7 (by decide) (fun h9 => absurd h9 (by decide)) (fun _ => ?_)
            refine lv_iload_n hx hb dX3_size_10 rfl (lv_at hl 1 rfl) ?_
            refine lv_aload_n hx hb dX3_size_11 rfl (lv_at hl 2 rfl) ?_
            refine lv_iload_n hx hb dX3_size_12 rfl (lv_at hl 0 rfl) ?_
            refine gs_calli (va_runV (As := [.int 5]) (rest := [.int 2]) ⟨hx, hb, hml, hown, hts⟩ (s_X3_isThere l G cy sK sV ad H.size st (5 : Int32) 5 (by decide) (by first | decide | omega) (by first | decide | omega)) ⟨(gz_cb (n := 1) hts gm_733 gm_4 gm_350 ⟨by decide +kernel, by decide +kernel, by decide +kernel⟩ ⟨Nat.le_of_ble_eq_true rfl, Nat.le_of_ble_eq_true rfl⟩), hts _ gm_348, hts _ gm_349⟩ (gs_preV hK hov hE hI hM hm hS hA 4 0 (by decide) rfl rfl) rfl rfl hl.1 rfl (lv_room (Nat.le_of_ble_eq_true rfl)) dX3_size_13 ⟨Nat.le_of_ble_eq_true rfl, Nat.le_of_ble_eq_true rfl⟩) hm hS hA (fun r_137 st_137 H locs hw_137 hM hS => ?_)
            obtain ⟨n_137, hw_137⟩ := hw_137
            have n_137 := gN0 n_137
            subst n_137
            rcases hw_137 with ⟨rfl, hw_137_0⟩ | ⟨rfl, hw_137_0⟩
            · skip
              refine lv_if_eq (tgt := 23) hx hb dX3_size_16 (by decide) (fun h9 => absurd h9 (by decide)) (fun _ => ?_)
              refine lv_iconst (v := 1) hx hb dX3_size_19 (by decide) ?_
              refine lv_goto (tgt := 24) hx hb dX3_size_20 (by decide) ?_
              refine lv_iadd hx hb dX3_size_24 ?_
              refine lv_topi (fun x_138 ex_138 => ?_)
              obtain rfl : x_138 = (3 : Int32) := ex_138.trans (by decide)
              refine lv_istore_n (lv' := [(1, .int 3), (2, .int 5), (0, .ref (ad 4 0))]) hx hb dX3_size_25 rfl hl (by decide) rfl (fun ls hl => ?_)
              refine lv_iinc (v := (6)) (lv' := [(2, .int 6), (1, .int 3), (0, .ref (ad 4 0))]) hx hb dX3_size_26 hl (k := 1) rfl (by decide) (by decide) rfl (fun ls hl => ?_)
              refine lv_goto (tgt := 4) hx hb dX3_size_29 (by decide) ?_
              refine lv_iload_n hx hb dX3_size_4 rfl (lv_at hl 0 rfl) ?_
              refine lv_bipush (v := 6) hx hb dX3_size_5 (by decide) ?_
              refine lv_icmp_ge (tgt := 32) hx hb dX3_size_7 (by decide) (fun _ => ?_) (fun h9 => absurd (by decide) h9)
              refine lv_iload_n hx hb dX3_size_32 rfl (lv_at hl 1 rfl) ?_
              exact gs_iret hx hb hr hlocks hM hS rfl ⟨gN.rf, trivial⟩ (by exact Nat.le_refl _) (by exact Nat.le_refl _) dX3_size_33
            · skip
              refine lv_if_eq (tgt := 23) hx hb dX3_size_16 (by decide) (fun _ => ?_) (fun h9 => absurd (by decide) h9)
              refine lv_iconst (v := 0) hx hb dX3_size_23 (by decide) ?_
              refine lv_iadd hx hb dX3_size_24 ?_
              refine lv_topi (fun x_139 ex_139 => ?_)
              obtain rfl : x_139 = (2 : Int32) := ex_139.trans (by decide)
              refine lv_istore_n (lv' := [(1, .int 2), (2, .int 5), (0, .ref (ad 4 0))]) hx hb dX3_size_25 rfl hl (by decide) rfl (fun ls hl => ?_)
              refine lv_iinc (v := (6)) (lv' := [(2, .int 6), (1, .int 2), (0, .ref (ad 4 0))]) hx hb dX3_size_26 hl (k := 1) rfl (by decide) (by decide) rfl (fun ls hl => ?_)
              refine lv_goto (tgt := 4) hx hb dX3_size_29 (by decide) ?_
              refine lv_iload_n hx hb dX3_size_4 rfl (lv_at hl 0 rfl) ?_
              refine lv_bipush (v := 6) hx hb dX3_size_5 (by decide) ?_
              refine lv_icmp_ge (tgt := 32) hx hb dX3_size_7 (by decide) (fun _ => ?_) (fun h9 => absurd (by decide) h9)
              refine lv_iload_n hx hb dX3_size_32 rfl (lv_at hl 1 rfl) ?_
              exact gs_iret hx hb hr hlocks hM hS rfl ⟨gN.rf, trivial⟩ (by exact Nat.le_refl _) (by exact Nat.le_refl _) dX3_size_33
          · skip
            refine lv_if_eq (tgt := 23) hx hb dX3_size_16 (by decide) (fun _ => ?_) (fun h9 => absurd (by decide) h9)
            refine lv_iconst (v := 0) hx hb dX3_size_23 (by decide) ?_
            refine lv_iadd hx hb dX3_size_24 ?_
            refine lv_topi (fun x_140 ex_140 => ?_)
            obtain rfl : x_140 = (1 : Int32) := ex_140.trans (by decide)
            refine lv_istore_n (lv' := [(1, .int 1), (2, .int 4), (0, .ref (ad 4 0))]) hx hb dX3_size_25 rfl hl (by decide) rfl (fun ls hl => ?_)
            refine lv_iinc (v := (5)) (lv' := [(2, .int 5), (1, .int 1), (0, .ref (ad 4 0))]) hx hb dX3_size_26 hl (k := 1) rfl (by decide) (by decide) rfl (fun ls hl => ?_)
            refine lv_goto (tgt := 4) hx hb dX3_size_29 (by decide) ?_
            refine lv_iload_n hx hb dX3_size_4 rfl (lv_at hl 0 rfl) ?_
            refine lv_bipush (v := 6) hx hb dX3_size_5 (by decide) ?_
            refine lv_icmp_ge (tgt := 32) hx hb dX3_size_7 (by decide) (fun h9 => absurd h9 (by decide)) (fun _ => ?_)
            refine lv_iload_n hx hb dX3_size_10 rfl (lv_at hl 1 rfl) ?_
            refine lv_aload_n hx hb dX3_size_11 rfl (lv_at hl 2 rfl) ?_
            refine lv_iload_n hx hb dX3_size_12 rfl (lv_at hl 0 rfl) ?_
            refine gs_calli (va_runV (As := [.int 5]) (rest := [.int 1]) ⟨hx, hb, hml, hown, hts⟩ (s_X3_isThere l G cy sK sV ad H.size st (5 : Int32) 5 (by decide) (by first | decide | omega) (by first | decide | omega)) ⟨(gz_cb (n := 1) hts gm_733 gm_4 gm_350 ⟨by decide +kernel, by decide +kernel, by decide +kernel⟩ ⟨Nat.le_of_ble_eq_true rfl, Nat.le_of_ble_eq_true rfl⟩), hts _ gm_348, hts _ gm_349⟩ (gs_preV hK hov hE hI hM hm hS hA 4 0 (by decide) rfl rfl) rfl rfl hl.1 rfl (lv_room (Nat.le_of_ble_eq_true rfl)) dX3_size_13 ⟨Nat.le_of_ble_eq_true rfl, Nat.le_of_ble_eq_true rfl⟩) hm hS hA (fun r_141 st_141 H locs hw_141 hM hS => ?_)
            obtain ⟨n_141, hw_141⟩ := hw_141
            have n_141 := gN0 n_141
            subst n_141
            rcases hw_141 with ⟨rfl, hw_141_0⟩ | ⟨rfl, hw_141_0⟩
            · skip
              refine lv_if_eq (tgt := 23) hx hb dX3_size_16 (by decide) (fun h9 => absurd h9 (by decide)) (fun _ => ?_)
              refine lv_iconst (v := 1) hx hb dX3_size_19 (by decide) ?_
              refine lv_goto (tgt := 24) hx hb dX3_size_20 (by decide) ?_
              refine lv_iadd hx hb dX3_size_24 ?_
              refine lv_topi (fun x_142 ex_142 => ?_)
              obtain rfl : x_142 = (2 : Int32) := ex_142.trans (by decide)
              refine lv_istore_n (lv' := [(1, .int 2), (2, .int 5), (0, .ref (ad 4 0))]) hx hb dX3_size_25 rfl hl (by decide) rfl (fun ls hl => ?_)
              refine lv_iinc (v := (6)) (lv' := [(2, .int 6), (1, .int 2), (0, .ref (ad 4 0))]) hx hb dX3_size_26 hl (k := 1) rfl (by decide) (by decide) rfl (fun ls hl => ?_)
              refine lv_goto (tgt := 4) hx hb dX3_size_29 (by decide) ?_
              refine lv_iload_n hx hb dX3_size_4 rfl (lv_at hl 0 rfl) ?_
              refine lv_bipush (v := 6) hx hb dX3_size_5 (by decide) ?_
              refine lv_icmp_ge (tgt := 32) hx hb dX3_size_7 (by decide) (fun _ => ?_) (fun h9 => absurd (by decide) h9)
              refine lv_iload_n hx hb dX3_size_32 rfl (lv_at hl 1 rfl) ?_
              exact gs_iret hx hb hr hlocks hM hS rfl ⟨gN.rf, trivial⟩ (by exact Nat.le_refl _) (by exact Nat.le_refl _) dX3_size_33
            · skip
              refine lv_if_eq (tgt := 23) hx hb dX3_size_16 (by decide) (fun _ => ?_) (fun h9 => absurd (by decide) h9)
              refine lv_iconst (v := 0) hx hb dX3_size_23 (by decide) ?_
              refine lv_iadd hx hb dX3_size_24 ?_
              refine lv_topi (fun x_143 ex_143 => ?_)
              obtain rfl : x_143 = (1 : Int32) := ex_143.trans (by decide)
              refine lv_istore_n (lv' := [(1, .int 1), (2, .int 5), (0, .ref (ad 4 0))]) hx hb dX3_size_25 rfl hl (by decide) rfl (fun ls hl => ?_)
              refine lv_iinc (v := (6)) (lv' := [(2, .int 6), (1, .int 1), (0, .ref (ad 4 0))]) hx hb dX3_size_26 hl (k := 1) rfl (by decide) (by decide) rfl (fun ls hl => ?_)
              refine lv_goto (tgt := 4) hx hb dX3_size_29 (by decide) ?_
              refine lv_iload_n hx hb dX3_size_4 rfl (lv_at hl 0 rfl) ?_
              refine lv_bipush (v := 6) hx hb dX3_size_5 (by decide) ?_
              refine lv_icmp_ge (tgt := 32) hx hb dX3_size_7 (by decide) (fun _ => ?_) (fun h9 => absurd (by decide) h9)
              refine lv_iload_n hx hb dX3_size_32 rfl (lv_at hl 1 rfl) ?_
              exact gs_iret hx hb hr hlocks hM hS rfl ⟨gN.rf, trivial⟩ (by exact Nat.le_refl _) (by exact Nat.le_refl _) dX3_size_33
    · skip
      refine lv_if_eq (tgt := 23) hx hb dX3_size_16 (by decide) (fun _ => ?_) (fun h9 => absurd (by decide) h9)
      refine lv_iconst (v := 0) hx hb dX3_size_23 (by decide) ?_
      refine lv_iadd hx hb dX3_size_24 ?_
      refine lv_topi (fun x_144 ex_144 => ?_)
      obtain rfl : x_144 = (0 : Int32) := ex_144.trans (by decide)
      refine lv_istore_n (lv' := [(1, .int 0), (2, .int 1), (0, .ref (ad 4 0))]) hx hb dX3_size_25 rfl hl (by decide) rfl (fun ls hl => ?_)
      refine lv_iinc (v := (2)) (lv' := [(2, .int 2), (1, .int 0), (0, .ref (ad 4 0))]) hx hb dX3_size_26 hl (k := 1) rfl (by decide) (by decide) rfl (fun ls hl => ?_)
      refine lv_goto (tgt := 4) hx hb dX3_size_29 (by decide) ?_
      refine lv_iload_n hx hb dX3_size_4 rfl (lv_at hl 0 rfl) ?_
      refine lv_bipush (v := 6) hx hb dX3_size_5 (by decide) ?_
      refine lv_icmp_ge (tgt := 32) hx hb dX3_size_7 (by decide) (fun h9 => absurd h9 (by decide)) (fun _ => ?_)
      refine lv_iload_n hx hb dX3_size_10 rfl (lv_at hl 1 rfl) ?_
      refine lv_aload_n hx hb dX3_size_11 rfl (lv_at hl 2 rfl) ?_
      refine lv_iload_n hx hb dX3_size_12 rfl (lv_at hl 0 rfl) ?_
      refine gs_calli (va_runV (As := [.int 2]) (rest := [.int 0]) ⟨hx, hb, hml, hown, hts⟩ (s_X3_isThere l G cy sK sV ad H.size st (2 : Int32) 2 (by decide) (by first | decide | omega) (by first | decide | omega)) ⟨(gz_cb (n := 1) hts gm_733 gm_4 gm_350 ⟨by decide +kernel, by decide +kernel, by decide +kernel⟩ ⟨Nat.le_of_ble_eq_true rfl, Nat.le_of_ble_eq_true rfl⟩), hts _ gm_348, hts _ gm_349⟩ (gs_preV hK hov hE hI hM hm hS hA 4 0 (by decide) rfl rfl) rfl rfl hl.1 rfl (lv_room (Nat.le_of_ble_eq_true rfl)) dX3_size_13 ⟨Nat.le_of_ble_eq_true rfl, Nat.le_of_ble_eq_true rfl⟩) hm hS hA (fun r_145 st_145 H locs hw_145 hM hS => ?_)
      obtain ⟨n_145, hw_145⟩ := hw_145
      have n_145 := gN0 n_145
      subst n_145
      rcases hw_145 with ⟨rfl, hw_145_0⟩ | ⟨rfl, hw_145_0⟩
      · skip
        refine lv_if_eq (tgt := 23) hx hb dX3_size_16 (by decide) (fun h9 => absurd h9 (by decide)) (fun _ => ?_)
        refine lv_iconst (v := 1) hx hb dX3_size_19 (by decide) ?_
        refine lv_goto (tgt := 24) hx hb dX3_size_20 (by decide) ?_
        refine lv_iadd hx hb dX3_size_24 ?_
        refine lv_topi (fun x_146 ex_146 => ?_)
        obtain rfl : x_146 = (1 : Int32) := ex_146.trans (by decide)
        refine lv_istore_n (lv' := [(1, .int 1), (2, .int 2), (0, .ref (ad 4 0))]) hx hb dX3_size_25 rfl hl (by decide) rfl (fun ls hl => ?_)
        refine lv_iinc (v := (3)) (lv' := [(2, .int 3), (1, .int 1), (0, .ref (ad 4 0))]) hx hb dX3_size_26 hl (k := 1) rfl (by decide) (by decide) rfl (fun ls hl => ?_)
        refine lv_goto (tgt := 4) hx hb dX3_size_29 (by decide) ?_
        refine lv_iload_n hx hb dX3_size_4 rfl (lv_at hl 0 rfl) ?_
        refine lv_bipush (v := 6) hx hb dX3_size_5 (by decide) ?_
        refine lv_icmp_ge (tgt := 32) hx hb dX3_size_7 (by decide) (fun h9 => absurd h9 (by decide)) (fun _ => ?_)
        refine lv_iload_n hx hb dX3_size_10 rfl (lv_at hl 1 rfl) ?_
        refine lv_aload_n hx hb dX3_size_11 rfl (lv_at hl 2 rfl) ?_
        refine lv_iload_n hx hb dX3_size_12 rfl (lv_at hl 0 rfl) ?_
        refine gs_calli (va_runV (As := [.int 3]) (rest := [.int 1]) ⟨hx, hb, hml, hown, hts⟩ (s_X3_isThere l G cy sK sV ad H.size st (3 : Int32) 3 (by decide) (by first | decide | omega) (by first | decide | omega)) ⟨(gz_cb (n := 1) hts gm_733 gm_4 gm_350 ⟨by decide +kernel, by decide +kernel, by decide +kernel⟩ ⟨Nat.le_of_ble_eq_true rfl, Nat.le_of_ble_eq_true rfl⟩), hts _ gm_348, hts _ gm_349⟩ (gs_preV hK hov hE hI hM hm hS hA 4 0 (by decide) rfl rfl) rfl rfl hl.1 rfl (lv_room (Nat.le_of_ble_eq_true rfl)) dX3_size_13 ⟨Nat.le_of_ble_eq_true rfl, Nat.le_of_ble_eq_true rfl⟩) hm hS hA (fun r_147 st_147 H locs hw_147 hM hS => ?_)
        obtain ⟨n_147, hw_147⟩ := hw_147
        have n_147 := gN0 n_147
        subst n_147
        rcases hw_147 with ⟨rfl, hw_147_0⟩ | ⟨rfl, hw_147_0⟩
        · skip
          refine lv_if_eq (tgt := 23) hx hb dX3_size_16 (by decide) (fun h9 => absurd h9 (by decide)) (fun _ => ?_)
          refine lv_iconst (v := 1) hx hb dX3_size_19 (by decide) ?_
          refine lv_goto (tgt := 24) hx hb dX3_size_20 (by decide) ?_
          refine lv_iadd hx hb dX3_size_24 ?_
          refine lv_topi (fun x_148 ex_148 => ?_)
          obtain rfl : x_148 = (2 : Int32) := ex_148.trans (by decide)
          refine lv_istore_n (lv' := [(1, .int 2), (2, .int 3), (0, .ref (ad 4 0))]) hx hb dX3_size_25 rfl hl (by decide) rfl (fun ls hl => ?_)
          refine lv_iinc (v := (4)) (lv' := [(2, .int 4), (1, .int 2), (0, .ref (ad 4 0))]) hx hb dX3_size_26 hl (k := 1) rfl (by decide) (by decide) rfl (fun ls hl => ?_)
          refine lv_goto (tgt := 4) hx hb dX3_size_29 (by decide) ?_
          refine lv_iload_n hx hb dX3_size_4 rfl (lv_at hl 0 rfl) ?_
          refine lv_bipush (v := 6) hx hb dX3_size_5 (by decide) ?_
          refine lv_icmp_ge (tgt := 32) hx hb dX3_size_7 (by decide) (fun h9 => absurd h9 (by decide)) (fun _ => ?_)
          refine lv_iload_n hx hb dX3_size_10 rfl (lv_at hl 1 rfl) ?_
          refine lv_aload_n hx hb dX3_size_11 rfl (lv_at hl 2 rfl) ?_
          refine lv_iload_n hx hb dX3_size_12 rfl (lv_at hl 0 rfl) ?_
          refine gs_calli (va_runV (As := [.int 4]) (rest := [.int 2]) ⟨hx, hb, hml, hown, hts⟩ (s_X3_isThere l G cy sK sV ad H.size st (4 : Int32) 4 (by decide) (by first | decide | omega) (by first | decide | omega)) ⟨(gz_cb (n := 1) hts gm_733 gm_4 gm_350 ⟨by decide +kernel, by decide +kernel, by decide +kernel⟩ ⟨Nat.le_of_ble_eq_true rfl, Nat.le_of_ble_eq_true rfl⟩), hts _ gm_348, hts _ gm_349⟩ (gs_preV hK hov hE hI hM hm hS hA 4 0 (by decide) rfl rfl) rfl rfl hl.1 rfl (lv_room (Nat.le_of_ble_eq_true rfl)) dX3_size_13 ⟨Nat.le_of_ble_eq_true rfl, Nat.le_of_ble_eq_true rfl⟩) hm hS hA (fun r_149 st_149 H locs hw_149 hM hS => ?_)
          obtain ⟨n_149, hw_149⟩ := hw_149
          have n_149 := gN0 n_149
          subst n_149
          rcases hw_149 with ⟨rfl, hw_149_0⟩ | ⟨rfl, hw_149_0⟩
          · skip
            refine lv_if_eq (tgt := 23) hx hb dX3_size_16 (by decide) (fun h9 => absurd h9 (by decide)) (fun _ => ?_)
            refine lv_iconst (v := 1) hx hb dX3_size_19 (by decide) ?_
            refine lv_goto (tgt := 24) hx hb dX3_size_20 (by decide) ?_
            refine lv_iadd hx hb dX3_size_24 ?_
            refine lv_topi (fun x_150 ex_150 => ?_)
            obtain rfl : x_150 = (3 : Int32) := ex_150.trans (by decide)
            refine lv_istore_n (lv' := [(1, .int 3), (2, .int 4), (0, .ref (ad 4 0))]) hx hb dX3_size_25 rfl hl (by decide) rfl (fun ls hl => ?_)
            refine lv_iinc (v := (5)) (lv' := [(2, .int 5), (1, .int 3), (0, .ref (ad 4 0))]) hx hb dX3_size_26 hl (k := 1) rfl (by decide) (by decide) rfl (fun ls hl => ?_)
            refine lv_goto (tgt := 4) hx hb dX3_size_29 (by decide) ?_
            refine lv_iload_n hx hb dX3_size_4 rfl (lv_at hl 0 rfl) ?_
            refine lv_bipush (v := 6) hx hb dX3_size_5 (by decide) ?_
            refine lv_icmp_ge (tgt := 32) hx hb dX3_size_7 (by decide) (fun h9 => absurd h9 (by decide)) (fun _ => ?_)
            refine lv_iload_n hx hb dX3_size_10 rfl (lv_at hl 1 rfl) ?_
            refine lv_aload_n hx hb dX3_size_11 rfl (lv_at hl 2 rfl) ?_
            refine lv_iload_n hx hb dX3_size_12 rfl (lv_at hl 0 rfl) ?_
            refine gs_calli (va_runV (As := [.int 5]) (rest := [.int 3]) ⟨hx, hb, hml, hown, hts⟩ (s_X3_isThere l G cy sK sV ad H.size st (5 : Int32) 5 (by decide) (by first | decide | omega) (by first | decide | omega)) ⟨(gz_cb (n := 1) hts gm_733 gm_4 gm_350 ⟨by decide +kernel, by decide +kernel, by decide +kernel⟩ ⟨Nat.le_of_ble_eq_true rfl, Nat.le_of_ble_eq_true rfl⟩), hts _ gm_348, hts _ gm_349⟩ (gs_preV hK hov hE hI hM hm hS hA 4 0 (by decide) rfl rfl) rfl rfl hl.1 rfl (lv_room (Nat.le_of_ble_eq_true rfl)) dX3_size_13 ⟨Nat.le_of_ble_eq_true rfl, Nat.le_of_ble_eq_true rfl⟩) hm hS hA (fun r_151 st_151 H locs hw_151 hM hS => ?_)
            obtain ⟨n_151, hw_151⟩ := hw_151
            have n_151 := gN0 n_151
            subst n_151
            rcases hw_151 with ⟨rfl, hw_151_0⟩ | ⟨rfl, hw_151_0⟩
            · skip
              refine lv_if_eq (tgt := 23) hx hb dX3_size_16 (by decide) (fun h9 => absurd h9 (by decide)) (fun _ => ?_)
              refine lv_iconst (v := 1) hx hb dX3_size_19 (by decide) ?_
              refine lv_goto (tgt := 24) hx hb dX3_size_20 (by decide) ?_
              refine lv_iadd hx hb dX3_size_24 ?_
              refine lv_topi (fun x_152 ex_152 => ?_)
              obtain rfl : x_152 = (4 : Int32) := ex_152.trans (by decide)
              refine lv_istore_n (lv' := [(1, .int 4), (2, .int 5), (0, .ref (ad 4 0))]) hx hb dX3_size_25 rfl hl (by decide) rfl (fun ls hl => ?_)
              refine lv_iinc (v := (6)) (lv' := [(2, .int 6), (1, .int 4), (0, .ref (ad 4 0))]) hx hb dX3_size_26 hl (k := 1) rfl (by decide) (by decide) rfl (fun ls hl => ?_)
              refine lv_goto (tgt := 4) hx hb dX3_size_29 (by decide) ?_
              refine lv_iload_n hx hb dX3_size_4 rfl (lv_at hl 0 rfl) ?_
              refine lv_bipush (v := 6) hx hb dX3_size_5 (by decide) ?_
              refine lv_icmp_ge (tgt := 32) hx hb dX3_size_7 (by decide) (fun _ => ?_) (fun h9 => absurd (by decide) h9)
              refine lv_iload_n hx hb dX3_size_32 rfl (lv_at hl 1 rfl) ?_
              exact gs_iret hx hb hr hlocks hM hS rfl ⟨gN.rf, trivial⟩ (by exact Nat.le_refl _) (by exact Nat.le_refl _) dX3_size_33
            · skip
              refine lv_if_eq (tgt := 23) hx hb dX3_size_16 (by decide) (fun _ => ?_) (fun h9 => absurd (by decide) h9)
              refine lv_iconst (v := 0) hx hb dX3_size_23 (by decide) ?_
              refine lv_iadd hx hb dX3_size_24 ?_
              refine lv_topi (fun x_153 ex_153 => ?_)
              obtain rfl : x_153 = (3 : Int32) := ex_153.trans (by decide)
              refine lv_istore_n (lv' := [(1, .int 3), (2, .int 5), (0, .ref (ad 4 0))]) hx hb dX3_size_25 rfl hl (by decide) rfl (fun ls hl => ?_)
              refine lv_iinc (v := (6)) (lv' := [(2, .int 6), (1, .int 3), (0, .ref (ad 4 0))]) hx hb dX3_size_26 hl (k := 1) rfl (by decide) (by decide) rfl (fun ls hl => ?_)
              refine lv_goto (tgt := 4) hx hb dX3_size_29 (by decide) ?_
              refine lv_iload_n hx hb dX3_size_4 rfl (lv_at hl 0 rfl) ?_
              refine lv_bipush (v := 6) hx hb dX3_size_5 (by decide) ?_
              refine lv_icmp_ge (tgt := 32) hx hb dX3_size_7 (by decide) (fun _ => ?_) (fun h9 => absurd (by decide) h9)
              refine lv_iload_n hx hb dX3_size_32 rfl (lv_at hl 1 rfl) ?_
              exact gs_iret hx hb hr hlocks hM hS rfl ⟨gN.rf, trivial⟩ (by exact Nat.le_refl _) (by exact Nat.le_refl _) dX3_size_33
          · skip
            refine lv_if_eq (tgt := 23) hx hb dX3_size_16 (by decide) (fun _ => ?_) (fun h9 => absurd (by decide) h9)
            refine lv_iconst (v := 0) hx hb dX3_size_23 (by decide) ?_
            refine lv_iadd hx hb dX3_size_24 ?_
            refine lv_topi (fun x_154 ex_154 => ?_)
            obtain rfl : x_154 = (2 : Int32) := ex_154.trans (by decide)
            refine lv_istore_n (lv' := [(1, .int 2), (2, .int 4), (0, .ref (ad 4 0))]) hx hb dX3_size_25 rfl hl (by decide) rfl (fun ls hl => ?_)
            refine lv_iinc (v := (5)) (lv' := [(2, .int 5), (1, .int 2), (0, .ref (ad 4 0))]) hx hb dX3_size_26 hl (k := 1) rfl (by decide) (by decide) rfl (fun ls hl => ?_)
            refine lv_goto (tgt := 4) hx hb dX3_size_29 (by decide) ?_
            refine lv_iload_n hx hb dX3_size_4 rfl (lv_at hl 0 rfl) ?_
            refine lv_bipush (v := 6) hx hb dX3_size_5 (by decide) ?_
            refine lv_icmp_ge (tgt := 32) hx hb dX3_size_7 (by decide) (fun h9 => absurd h9 (by decide)) (fun _ => ?_)
            refine lv_iload_n hx hb dX3_size_10 rfl (lv_at hl 1 rfl) ?_
            refine lv_aload_n hx hb dX3_size_11 rfl (lv_at hl 2 rfl) ?_
            refine lv_iload_n hx hb dX3_size_12 rfl (lv_at hl 0 rfl) ?_
            refine gs_calli (va_runV (As := [.int 5]) (rest := [.int 2]) ⟨hx, hb, hml, hown, hts⟩ (s_X3_isThere l G cy sK sV ad H.size st (5 : Int32) 5 (by decide) (by first | decide | omega) (by first | decide | omega)) ⟨(gz_cb (n := 1) hts gm_733 gm_4 gm_350 ⟨by decide +kernel, by decide +kernel, by decide +kernel⟩ ⟨Nat.le_of_ble_eq_true rfl, Nat.le_of_ble_eq_true rfl⟩), hts _ gm_348, hts _ gm_349⟩ (gs_preV hK hov hE hI hM hm hS hA 4 0 (by decide) rfl rfl) rfl rfl hl.1 rfl (lv_room (Nat.le_of_ble_eq_true rfl)) dX3_size_13 ⟨Nat.le_of_ble_eq_true rfl, Nat.le_of_ble_eq_true rfl⟩) hm hS hA (fun r_155 st_155 H locs hw_155 hM hS => ?_)
            obtain ⟨n_155, hw_155⟩ := hw_155
            have n_155 := gN0 n_155
            subst n_155
            rcases hw_155 with ⟨rfl, hw_155_0⟩ | ⟨rfl, hw_155_0⟩
            · skip
              refine lv_if_eq (tgt := 23) hx hb dX3_size_16 (by decide) (fun h9 => absurd h9 (by decide)) (fun _ => ?_)
              refine lv_iconst (v := 1) hx hb dX3_size_19 (by decide) ?_
              refine lv_goto (tgt := 24) hx hb dX3_size_20 (by decide) ?_
              refine lv_iadd hx hb dX3_size_24 ?_
              refine lv_topi (fun x_156 ex_156 => ?_)
              obtain rfl : x_156 = (3 : Int32) := ex_156.trans (by decide)
              refine lv_istore_n (lv' := [(1, .int 3), (2, .int 5), (0, .ref (ad 4 0))]) hx hb dX3_size_25 rfl hl (by decide) rfl (fun ls hl => ?_)
              refine lv_iinc (v := (6)) (lv' := [(2, .int 6), (1, .int 3), (0, .ref (ad 4 0))]) hx hb dX3_size_26 hl (k := 1) rfl (by decide) (by decide) rfl (fun ls hl => ?_)
              refine lv_goto (tgt := 4) hx hb dX3_size_29 (by decide) ?_
              refine lv_iload_n hx hb dX3_size_4 rfl (lv_at hl 0 rfl) ?_
              refine lv_bipush (v := 6) hx hb dX3_size_5 (by decide) ?_
              refine lv_icmp_ge (tgt := 32) hx hb dX3_size_7 (by decide) (fun _ => ?_) (fun h9 => absurd (by decide) h9)
              refine lv_iload_n hx hb dX3_size_32 rfl (lv_at hl 1 rfl) ?_
              exact gs_iret hx hb hr hlocks hM hS rfl ⟨gN.rf, trivial⟩ (by exact Nat.le_refl _) (by exact Nat.le_refl _) dX3_size_33
            · skip
              refine lv_if_eq (tgt := 23) hx hb dX3_size_16 (by decide) (fun _ => ?_) (fun h9 => absurd (by decide) h9)
              refine lv_iconst (v := 0) hx hb dX3_size_23 (by decide) ?_
              refine lv_iadd hx hb dX3_size_24 ?_
              refine lv_topi (fun x_157 ex_157 => ?_)
              obtain rfl : x_157 = (2 : Int32) := ex_157.trans (by decide)
              refine lv_istore_n (lv' := [(1, .int 2), (2, .int 5), (0, .ref (ad 4 0))]) hx hb dX3_size_25 rfl hl (by decide) rfl (fun ls hl => ?_)
              refine lv_iinc (v := (6)) (lv' := [(2, .int 6), (1, .int 2), (0, .ref (ad 4 0))]) hx hb dX3_size_26 hl (k := 1) rfl (by decide) (by decide) rfl (fun ls hl => ?_)
              refine lv_goto (tgt := 4) hx hb dX3_size_29 (by decide) ?_
              refine lv_iload_n hx hb dX3_size_4 rfl (lv_at hl 0 rfl) ?_
              refine lv_bipush (v := 6) hx hb dX3_size_5 (by decide) ?_
              refine lv_icmp_ge (tgt := 32) hx hb dX3_size_7 (by decide) (fun _ => ?_) (fun h9 => absurd (by decide) h9)
              refine lv_iload_n hx hb dX3_size_32 rfl (lv_at hl 1 rfl) ?_
              exact gs_iret hx hb hr hlocks hM hS rfl ⟨gN.rf, trivial⟩ (by exact Nat.le_refl _) (by exact Nat.le_refl _) dX3_size_33
        · skip
          refine lv_if_eq (tgt := 23) hx hb dX3_size_16 (by decide) (fun _ => ?_) (fun h9 => absurd (by decide) h9)
          refine lv_iconst (v := 0) hx hb dX3_size_23 (by decide) ?_
          refine lv_iadd hx hb dX3_size_24 ?_
          refine lv_topi (fun x_158 ex_158 => ?_)
          obtain rfl : x_158 = (1 : Int32) := ex_158.trans (by decide)
          refine lv_istore_n (lv' := [(1, .int 1), (2, .int 3), (0, .ref (ad 4 0))]) hx hb dX3_size_25 rfl hl (by decide) rfl (fun ls hl => ?_)
          refine lv_iinc (v := (4)) (lv' := [(2, .int 4), (1, .int 1), (0, .ref (ad 4 0))]) hx hb dX3_size_26 hl (k := 1) rfl (by decide) (by decide) rfl (fun ls hl => ?_)
          refine lv_goto (tgt := 4) hx hb dX3_size_29 (by decide) ?_
          refine lv_iload_n hx hb dX3_size_4 rfl (lv_at hl 0 rfl) ?_
          refine lv_bipush (v := 6) hx hb dX3_size_5 (by decide) ?_
          refine lv_icmp_ge (tgt := 32) hx hb dX3_size_7 (by decide) (fun h9 => absurd h9 (by decide)) (fun _ => ?_)
          refine lv_iload_n hx hb dX3_size_10 rfl (lv_at hl 1 rfl) ?_
          refine lv_aload_n hx hb dX3_size_11 rfl (lv_at hl 2 rfl) ?_
          refine lv_iload_n hx hb dX3_size_12 rfl (lv_at hl 0 rfl) ?_
          refine gs_calli (va_runV (As := [.int 4]) (rest := [.int 1]) ⟨hx, hb, hml, hown, hts⟩ (s_X3_isThere l G cy sK sV ad H.size st (4 : Int32) 4 (by decide) (by first | decide | omega) (by first | decide | omega)) ⟨(gz_cb (n := 1) hts gm_733 gm_4 gm_350 ⟨by decide +kernel, by decide +kernel, by decide +kernel⟩ ⟨Nat.le_of_ble_eq_true rfl, Nat.le_of_ble_eq_true rfl⟩), hts _ gm_348, hts _ gm_349⟩ (gs_preV hK hov hE hI hM hm hS hA 4 0 (by decide) rfl rfl) rfl rfl hl.1 rfl (lv_room (Nat.le_of_ble_eq_true rfl)) dX3_size_13 ⟨Nat.le_of_ble_eq_true rfl, Nat.le_of_ble_eq_true rfl⟩) hm hS hA (fun r_159 st_159 H locs hw_159 hM hS => ?_)
          obtain ⟨n_159, hw_159⟩ := hw_159
          have n_159 := gN0 n_159
          subst n_159
          rcases hw_159 with ⟨rfl, hw_159_0⟩ | ⟨rfl, hw_159_0⟩
          · skip
            refine lv_if_eq (tgt := 23) hx hb dX3_size_16 (by decide) (fun h9 => absurd h9 (by decide)) (fun _ => ?_)
            refine lv_iconst (v := 1) hx hb dX3_size_19 (by decide) ?_
            refine lv_goto (tgt := 24) hx hb dX3_size_20 (by decide) ?_
            refine lv_iadd hx hb dX3_size_24 ?_
            refine lv_topi (fun x_160 ex_160 => ?_)
            obtain rfl : x_160 = (2 : Int32) := ex_160.trans (by decide)
            refine lv_istore_n (lv' := [(1, .int 2), (2, .int 4), (0, .ref (ad 4 0))]) hx hb dX3_size_25 rfl hl (by decide) rfl (fun ls hl => ?_)
            refine lv_iinc (v := (5)) (lv' := [(2, .int 5), (1, .int 2), (0, .ref (ad 4 0))]) hx hb dX3_size_26 hl (k := 1) rfl (by decide) (by decide) rfl (fun ls hl => ?_)
            refine lv_goto (tgt := 4) hx hb dX3_size_29 (by decide) ?_
            refine lv_iload_n hx hb dX3_size_4 rfl (lv_at hl 0 rfl) ?_
            refine lv_bipush (v := 6) hx hb dX3_size_5 (by decide) ?_
            refine lv_icmp_ge (tgt := 32) hx hb dX3_size_7 (by decide) (fun h9 => absurd h9 (by decide)) (fun _ => ?_)
            refine lv_iload_n hx hb dX3_size_10 rfl (lv_at hl 1 rfl) ?_
            refine lv_aload_n hx hb dX3_size_11 rfl (lv_at hl 2 rfl) ?_
            refine lv_iload_n hx hb dX3_size_12 rfl (lv_at hl 0 rfl) ?_
            refine gs_calli (va_runV (As := [.int 5]) (rest := [.int 2]) ⟨hx, hb, hml, hown, hts⟩ (s_X3_isThere l G cy sK sV ad H.size st (5 : Int32) 5 (by decide) (by first | decide | omega) (by first | decide | omega)) ⟨(gz_cb (n := 1) hts gm_733 gm_4 gm_350 ⟨by decide +kernel, by decide +kernel, by decide +kernel⟩ ⟨Nat.le_of_ble_eq_true rfl, Nat.le_of_ble_eq_true rfl⟩), hts _ gm_348, hts _ gm_349⟩ (gs_preV hK hov hE hI hM hm hS hA 4 0 (by decide) rfl rfl) rfl rfl hl.1 rfl (lv_room (Nat.le_of_ble_eq_true rfl)) dX3_size_13 ⟨Nat.le_of_ble_eq_true rfl, Nat.le_of_ble_eq_true rfl⟩) hm hS hA (fun r_161 st_161 H locs hw_161 hM hS => ?_)
            obtain ⟨n_161, hw_161⟩ := hw_161
            have n_161 := gN0 n_161
            subst n_161
            rcases hw_161 with ⟨rfl, hw_161_0⟩ | ⟨rfl, hw_161_0⟩
            · skip
              refine lv_if_eq (tgt := 23) hx hb dX3_size_16 (by decide) (fun h9 => absurd h9 (by decide)) (fun _ => ?_)
              refine lv_iconst (v := 1) hx hb dX3_size_19 (by decide) ?_
              refine lv_goto (tgt := 24) hx hb dX3_size_20 (by decide) ?_
              refine lv_iadd hx hb dX3_size_24 ?_
              refine lv_topi (fun x_162 ex_162 => ?_)
              obtain rfl : x_162 = (3 : Int32) := ex_162.trans (by decide)
              refine lv_istore_n (lv' := [(1, .int 3), (2, .int 5), (0, .ref (ad 4 0))]) hx hb dX3_size_25 rfl hl (by decide) rfl (fun ls hl => ?_)
              refine lv_iinc (v := (6)) (lv' := [(2, .int 6), (1, .int 3), (0, .ref (ad 4 0))]) hx hb dX3_size_26 hl (k := 1) rfl (by decide) (by decide) rfl (fun ls hl => ?_)
              refine lv_goto (tgt := 4) hx hb dX3_size_29 (by decide) ?_
              refine lv_iload_n hx hb dX3_size_4 rfl (lv_at hl 0 rfl) ?_
              refine lv_bipush (v := 6) hx hb dX3_size_5 (by decide) ?_
              refine lv_icmp_ge (tgt := 32) hx hb dX3_size_7 (by decide) (fun _ => ?_) (fun h9 => absurd (by decide) h9)
              refine lv_iload_n hx hb dX3_size_32 rfl (lv_at hl 1 rfl) ?_
              exact gs_iret hx hb hr hlocks hM hS rfl ⟨gN.rf, trivial⟩ (by exact Nat.le_refl _) (by exact Nat.le_refl _) dX3_size_33
            · skip
              refine lv_if_eq (tgt := 23) hx hb dX3_size_16 (by decide) (fun _ => ?_) (fun h9 => absurd (by decide) h9)
              refine lv_iconst (v := 0) hx hb dX3_size_23 (by decide) ?_
              refine lv_iadd hx hb dX3_size_24 ?_
              refine lv_topi (fun x_163 ex_163 => ?_)
              obtain rfl : x_163 = (2 : Int32) := ex_163.trans (by decide)
              refine lv_istore_n (lv' := [(1, .int 2), (2, .int 5), (0, .ref (ad 4 0))]) hx hb dX3_size_25 rfl hl (by decide) rfl (fun ls hl => ?_)
              refine lv_iinc (v := (6)) (lv' := [(2, .int 6), (1, .int 2), (0, .ref (ad 4 0))]) hx hb dX3_size_26 hl (k := 1) rfl (by decide) (by decide) rfl (fun ls hl => ?_)
              refine lv_goto (tgt := 4) hx hb dX3_size_29 (by decide) ?_
              refine lv_iload_n hx hb dX3_size_4 rfl (lv_at hl 0 rfl) ?_
              refine lv_bipush (v := 6) hx hb dX3_size_5 (by decide) ?_
              refine lv_icmp_ge (tgt := 32) hx hb dX3_size_7 (by decide) (fun _ => ?_) (fun h9 => absurd (by decide) h9)
              refine lv_iload_n hx hb dX3_size_32 rfl (lv_at hl 1 rfl) ?_
              exact gs_iret hx hb hr hlocks hM hS rfl ⟨gN.rf, trivial⟩ (by exact Nat.le_refl _) (by exact Nat.le_refl _) dX3_size_33
          · skip
            refine lv_if_eq (tgt := 23) hx hb dX3_size_16 (by decide) (fun _ => ?_) (fun h9 => absurd (by decide) h9)
            refine lv_iconst (v := 0) hx hb dX3_size_23 (by decide) ?_
            refine lv_iadd hx hb dX3_size_24 ?_
            refine lv_topi (fun x_164 ex_164 => ?_)
            obtain rfl : x_164 = (1 : Int32) := ex_164.trans (by decide)
            refine lv_istore_n (lv' := [(1, .int 1), (2, .int 4), (0, .ref (ad 4 0))]) hx hb dX3_size_25 rfl hl (by decide) rfl (fun ls hl => ?_)
            refine lv_iinc (v := (5)) (lv' := [(2, .int 5), (1, .int 1), (0, .ref (ad 4 0))]) hx hb dX3_size_26 hl (k := 1) rfl (by decide) (by decide) rfl (fun ls hl => ?_)
            refine lv_goto (tgt := 4) hx hb dX3_size_29 (by decide) ?_
            refine lv_iload_n hx hb dX3_size_4 rfl (lv_at hl 0 rfl) ?_
            refine lv_bipush (v := 6) hx hb dX3_size_5 (by decide) ?_
            refine lv_icmp_ge (tgt := 32) hx hb dX3_size_7 (by decide) (fun h9 => absurd h9 (by decide)) (fun _ => ?_)
            refine lv_iload_n hx hb dX3_size_10 rfl (lv_at hl 1 rfl) ?_
            refine lv_aload_n hx hb dX3_size_11 rfl (lv_at hl 2 rfl) ?_
            refine lv_iload_n hx hb dX3_size_12 rfl (lv_at hl 0 rfl) ?_
            refine gs_calli (va_runV (As := [.int 5]) (rest := [.int 1]) ⟨hx, hb, hml, hown, hts⟩ (s_X3_isThere l G cy sK sV ad H.size st (5 : Int32) 5 (by decide) (by first | decide | omega) (by first | decide | omega)) ⟨(gz_cb (n := 1) hts gm_733 gm_4 gm_350 ⟨by decide +kernel, by decide +kernel, by decide +kernel⟩ ⟨Nat.le_of_ble_eq_true rfl, Nat.le_of_ble_eq_true rfl⟩), hts _ gm_348, hts _ gm_349⟩ (gs_preV hK hov hE hI hM hm hS hA 4 0 (by decide) rfl rfl) rfl rfl hl.1 rfl (lv_room (Nat.le_of_ble_eq_true rfl)) dX3_size_13 ⟨Nat.le_of_ble_eq_true rfl, Nat.le_of_ble_eq_true rfl⟩) hm hS hA (fun r_165 st_165 H locs hw_165 hM hS => ?_)
            obtain ⟨n_165, hw_165⟩ := hw_165
            have n_165 := gN0 n_165
            subst n_165
            rcases hw_165 with ⟨rfl, hw_165_0⟩ | ⟨rfl, hw_165_0⟩
            · skip
              refine lv_if_eq (tgt := 23) hx hb dX3_size_16 (by decide) (fun h9 => absurd h9 (by decide)) (fun _ => ?_)
              refine lv_iconst (v := 1) hx hb dX3_size_19 (by decide) ?_
              refine lv_goto (tgt := 24) hx hb dX3_size_20 (by decide) ?_
              refine lv_iadd hx hb dX3_size_24 ?_
              refine lv_topi (fun x_166 ex_166 => ?_)
              obtain rfl : x_166 = (2 : Int32) := ex_166.trans (by decide)
              refine lv_istore_n (lv' := [(1, .int 2), (2, .int 5), (0, .ref (ad 4 0))]) hx hb dX3_size_25 rfl hl (by decide) rfl (fun ls hl => ?_)
              refine lv_iinc (v := (6)) (lv' := [(2, .int 6), (1, .int 2), (0, .ref (ad 4 0))]) hx hb dX3_size_26 hl (k := 1) rfl (by decide) (by decide) rfl (fun ls hl => ?_)
              refine lv_goto (tgt := 4) hx hb dX3_size_29 (by decide) ?_
              refine lv_iload_n hx hb dX3_size_4 rfl (lv_at hl 0 rfl) ?_
              refine lv_bipush (v := 6) hx hb dX3_size_5 (by decide) ?_
              refine lv_icmp_ge (tgt := 32) hx hb dX3_size_7 (by decide) (fun _ => ?_) (fun h9 => absurd (by decide) h9)
              refine lv_iload_n hx hb dX3_size_32 rfl (lv_at hl 1 rfl) ?_
              exact gs_iret hx hb hr hlocks hM hS rfl ⟨gN.rf, trivial⟩ (by exact Nat.le_refl _) (by exact Nat.le_refl _) dX3_size_33
            · skip
              refine lv_if_eq (tgt := 23) hx hb dX3_size_16 (by decide) (fun _ => ?_) (fun h9 => absurd (by decide) h9)
              refine lv_iconst (v := 0) hx hb dX3_size_23 (by decide) ?_
              refine lv_iadd hx hb dX3_size_24 ?_
              refine lv_topi (fun x_167 ex_167 => ?_)
              obtain rfl : x_167 = (1 : Int32) := ex_167.trans (by decide)
              refine lv_istore_n (lv' := [(1, .int 1), (2, .int 5), (0, .ref (ad 4 0))]) hx hb dX3_size_25 rfl hl (by decide) rfl (fun ls hl => ?_)
              refine lv_iinc (v := (6)) (lv' := [(2, .int 6), (1, .int 1), (0, .ref (ad 4 0))]) hx hb dX3_size_26 hl (k := 1) rfl (by decide) (by decide) rfl (fun ls hl => ?_)
              refine lv_goto (tgt := 4) hx hb dX3_size_29 (by decide) ?_
              refine lv_iload_n hx hb dX3_size_4 rfl (lv_at hl 0 rfl) ?_
              refine lv_bipush (v := 6) hx hb dX3_size_5 (by decide) ?_
              refine lv_icmp_ge (tgt := 32) hx hb dX3_size_7 (by decide) (fun _ => ?_) (fun h9 => absurd (by decide) h9)
              refine lv_iload_n hx hb dX3_size_32 rfl (lv_at hl 1 rfl) ?_
              exact gs_iret hx hb hr hlocks hM hS rfl ⟨gN.rf, trivial⟩ (by exact Nat.le_refl _) (by exact Nat.le_refl _) dX3_size_33
      · skip
        refine lv_if_eq (tgt := 23) hx hb dX3_size_16 (by decide) (fun _ => ?_) (fun h9 => absurd (by decide) h9)
        refine lv_iconst (v := 0) hx hb dX3_size_23 (by decide) ?_
        refine lv_iadd hx hb dX3_size_24 ?_
        refine lv_topi (fun x_168 ex_168 => ?_)
        obtain rfl : x_168 = (0 : Int32) := ex_168.trans (by decide)
        refine lv_istore_n (lv' := [(1, .int 0), (2, .int 2), (0, .ref (ad 4 0))]) hx hb dX3_size_25 rfl hl (by decide) rfl (fun ls hl => ?_)
        refine lv_iinc (v := (3)) (lv' := [(2, .int 3), (1, .int 0), (0, .ref (ad 4 0))]) hx hb dX3_size_26 hl (k := 1) rfl (by decide) (by decide) rfl (fun ls hl => ?_)
        refine lv_goto (tgt := 4) hx hb dX3_size_29 (by decide) ?_
        refine lv_iload_n hx hb dX3_size_4 rfl (lv_at hl 0 rfl) ?_
        refine lv_bipush (v := 6) hx hb dX3_size_5 (by decide) ?_
        refine lv_icmp_ge (tgt := 32) hx hb dX3_size_7 (by decide) (fun h9 => absurd h9 (by decide)) (fun _ => ?_)
        refine lv_iload_n hx hb dX3_size_10 rfl (lv_at hl 1 rfl) ?_
        refine lv_aload_n hx hb dX3_size_11 rfl (lv_at hl 2 rfl) ?_
        refine lv_iload_n hx hb dX3_size_12 rfl (lv_at hl 0 rfl) ?_
        refine gs_calli (va_runV (As := [.int 3]) (rest := [.int 0]) ⟨hx, hb, hml, hown, hts⟩ (s_X3_isThere l G cy sK sV ad H.size st (3 : Int32) 3 (by decide) (by first | decide | omega) (by first | decide | omega)) ⟨(gz_cb (n := 1) hts gm_733 gm_4 gm_350 ⟨by decide +kernel, by decide +kernel, by decide +kernel⟩ ⟨Nat.le_of_ble_eq_true rfl, Nat.le_of_ble_eq_true rfl⟩), hts _ gm_348, hts _ gm_349⟩ (gs_preV hK hov hE hI hM hm hS hA 4 0 (by decide) rfl rfl) rfl rfl hl.1 rfl (lv_room (Nat.le_of_ble_eq_true rfl)) dX3_size_13 ⟨Nat.le_of_ble_eq_true rfl, Nat.le_of_ble_eq_true rfl⟩) hm hS hA (fun r_169 st_169 H locs hw_169 hM hS => ?_)
        obtain ⟨n_169, hw_169⟩ := hw_169
        have n_169 := gN0 n_169
        subst n_169
        rcases hw_169 with ⟨rfl, hw_169_0⟩ | ⟨rfl, hw_169_0⟩
        · skip
          refine lv_if_eq (tgt := 23) hx hb dX3_size_16 (by decide) (fun h9 => absurd h9 (by decide)) (fun _ => ?_)
          refine lv_iconst (v := 1) hx hb dX3_size_19 (by decide) ?_
          refine lv_goto (tgt := 24) hx hb dX3_size_20 (by decide) ?_
          refine lv_iadd hx hb dX3_size_24 ?_
          refine lv_topi (fun x_170 ex_170 => ?_)
          obtain rfl : x_170 = (1 : Int32) := ex_170.trans (by decide)
          refine lv_istore_n (lv' := [(1, .int 1), (2, .int 3), (0, .ref (ad 4 0))]) hx hb dX3_size_25 rfl hl (by decide) rfl (fun ls hl => ?_)
          refine lv_iinc (v := (4)) (lv' := [(2, .int 4), (1, .int 1), (0, .ref (ad 4 0))]) hx hb dX3_size_26 hl (k := 1) rfl (by decide) (by decide) rfl (fun ls hl => ?_)
          refine lv_goto (tgt := 4) hx hb dX3_size_29 (by decide) ?_
          refine lv_iload_n hx hb dX3_size_4 rfl (lv_at hl 0 rfl) ?_
          refine lv_bipush (v := 6) hx hb dX3_size_5 (by decide) ?_
          refine lv_icmp_ge (tgt := 32) hx hb dX3_size_7 (by decide) (fun h9 => absurd h9 (by decide)) (fun _ => ?_)
          refine lv_iload_n hx hb dX3_size_10 rfl (lv_at hl 1 rfl) ?_
          refine lv_aload_n hx hb dX3_size_11 rfl (lv_at hl 2 rfl) ?_
          refine lv_iload_n hx hb dX3_size_12 rfl (lv_at hl 0 rfl) ?_
          refine gs_calli (va_runV (As := [.int 4]) (rest := [.int 1]) ⟨hx, hb, hml, hown, hts⟩ (s_X3_isThere l G cy sK sV ad H.size st (4 : Int32) 4 (by decide) (by first | decide | omega) (by first | decide | omega)) ⟨(gz_cb (n := 1) hts gm_733 gm_4 gm_350 ⟨by decide +kernel, by decide +kernel, by decide +kernel⟩ ⟨Nat.le_of_ble_eq_true rfl, Nat.le_of_ble_eq_true rfl⟩), hts _ gm_348, hts _ gm_349⟩ (gs_preV hK hov hE hI hM hm hS hA 4 0 (by decide) rfl rfl) rfl rfl hl.1 rfl (lv_room (Nat.le_of_ble_eq_true rfl)) dX3_size_13 ⟨Nat.le_of_ble_eq_true rfl, Nat.le_of_ble_eq_true rfl⟩) hm hS hA (fun r_171 st_171 H locs hw_171 hM hS => ?_)
          obtain ⟨n_171, hw_171⟩ := hw_171
          have n_171 := gN0 n_171
          subst n_171
          rcases hw_171 with ⟨rfl, hw_171_0⟩ | ⟨rfl, hw_171_0⟩
          · skip
            refine lv_if_eq (tgt := 23) hx hb dX3_size_16 (by decide) (fun h9 => absurd h9 (by decide)) (fun _ => ?_)
            refine lv_iconst (v := 1) hx hb dX3_size_19 (by decide) ?_
            refine lv_goto (tgt := 24) hx hb dX3_size_20 (by decide) ?_
            refine lv_iadd hx hb dX3_size_24 ?_
            refine lv_topi (fun x_172 ex_172 => ?_)
            obtain rfl : x_172 = (2 : Int32) := ex_172.trans (by decide)
            refine lv_istore_n (lv' := [(1, .int 2), (2, .int 4), (0, .ref (ad 4 0))]) hx hb dX3_size_25 rfl hl (by decide) rfl (fun ls hl => ?_)
            refine lv_iinc (v := (5)) (lv' := [(2, .int 5), (1, .int 2), (0, .ref (ad 4 0))]) hx hb dX3_size_26 hl (k := 1) rfl (by decide) (by decide) rfl (fun ls hl => ?_)
            refine lv_goto (tgt := 4) hx hb dX3_size_29 (by decide) ?_
            refine lv_iload_n hx hb dX3_size_4 rfl (lv_at hl 0 rfl) ?_
            refine lv_bipush (v := 6) hx hb dX3_size_5 (by decide) ?_
            refine lv_icmp_ge (tgt := 32) hx hb dX3_size_7 (by decide) (fun h9 => absurd h9 (by decide)) (fun _ => ?_)
            refine lv_iload_n hx hb dX3_size_10 rfl (lv_at hl 1 rfl) ?_
            refine lv_aload_n hx hb dX3_size_11 rfl (lv_at hl 2 rfl) ?_
            refine lv_iload_n hx hb dX3_size_12 rfl (lv_at hl 0 rfl) ?_
            refine gs_calli (va_runV (As := [.int 5]) (rest := [.int 2]) ⟨hx, hb, hml, hown, hts⟩ (s_X3_isThere l G cy sK sV ad H.size st (5 : Int32) 5 (by decide) (by first | decide | omega) (by first | decide | omega)) ⟨(gz_cb (n := 1) hts gm_733 gm_4 gm_350 ⟨by decide +kernel, by decide +kernel, by decide +kernel⟩ ⟨Nat.le_of_ble_eq_true rfl, Nat.le_of_ble_eq_true rfl⟩), hts _ gm_348, hts _ gm_349⟩ (gs_preV hK hov hE hI hM hm hS hA 4 0 (by decide) rfl rfl) rfl rfl hl.1 rfl (lv_room (Nat.le_of_ble_eq_true rfl)) dX3_size_13 ⟨Nat.le_of_ble_eq_true rfl, Nat.le_of_ble_eq_true rfl⟩) hm hS hA (fun r_173 st_173 H locs hw_173 hM hS => ?_)
            obtain ⟨n_173, hw_173⟩ := hw_173
            have n_173 := gN0 n_173
            subst n_173
            rcases hw_173 with ⟨rfl, hw_173_0⟩ | ⟨rfl, hw_173_0⟩
            · skip
              refine lv_if_eq (tgt := 23) hx hb dX3_size_16 (by decide) (fun h9 => absurd h9 (by decide)) (fun _ => ?_)
              refine lv_iconst (v := 1) hx hb dX3_size_19 (by decide) ?_
              refine lv_goto (tgt := 24) hx hb dX3_size_20 (by decide) ?_
              refine lv_iadd hx hb dX3_size_24 ?_
              refine lv_topi (fun x_174 ex_174 => ?_)
              obtain rfl : x_174 = (3 : Int32) := ex_174.trans (by decide)
              refine lv_istore_n (lv' := [(1, .int 3), (2, .int 5), (0, .ref (ad 4 0))]) hx hb dX3_size_25 rfl hl (by decide) rfl (fun ls hl => ?_)
              refine lv_iinc (v := (6)) (lv' := [(2, .int 6), (1, .int 3), (0, .ref (ad 4 0))]) hx hb dX3_size_26 hl (k := 1) rfl (by decide) (by decide) rfl (fun ls hl => ?_)
              refine lv_goto (tgt := 4) hx hb dX3_size_29 (by decide) ?_
              refine lv_iload_n hx hb dX3_size_4 rfl (lv_at hl 0 rfl) ?_
              refine lv_bipush (v := 6) hx hb dX3_size_5 (by decide) ?_
              refine lv_icmp_ge (tgt := 32) hx hb dX3_size_7 (by decide) (fun _ => ?_) (fun h9 => absurd (by decide) h9)
              refine lv_iload_n hx hb dX3_size_32 rfl (lv_at hl 1 rfl) ?_
              exact gs_iret hx hb hr hlocks hM hS rfl ⟨gN.rf, trivial⟩ (by exact Nat.le_refl _) (by exact Nat.le_refl _) dX3_size_33
            · skip
              refine lv_if_eq (tgt := 23) hx hb dX3_size_16 (by decide) (fun _ => ?_) (fun h9 => absurd (by decide) h9)
              refine lv_iconst (v := 0) hx hb dX3_size_23 (by decide) ?_
              refine lv_iadd hx hb dX3_size_24 ?_
              refine lv_topi (fun x_175 ex_175 => ?_)
              obtain rfl : x_175 = (2 : Int32) := ex_175.trans (by decide)
              refine lv_istore_n (lv' := [(1, .int 2), (2, .int 5), (0, .ref (ad 4 0))]) hx hb dX3_size_25 rfl hl (by decide) rfl (fun ls hl => ?_)
              refine lv_iinc (v := (6)) (lv' := [(2, .int 6), (1, .int 2), (0, .ref (ad 4 0))]) hx hb dX3_size_26 hl (k := 1) rfl (by decide) (by decide) rfl (fun ls hl => ?_)
              refine lv_goto (tgt := 4) hx hb dX3_size_29 (by decide) ?_
              refine lv_iload_n hx hb dX3_size_4 rfl (lv_at hl 0 rfl) ?_
              refine lv_bipush (v := 6) hx hb dX3_size_5 (by decide) ?_
              refine lv_icmp_ge (tgt := 32) hx hb dX3_size_7 (by decide) (fun _ => ?_) (fun h9 => absurd (by decide) h9)
              refine lv_iload_n hx hb dX3_size_32 rfl (lv_at hl 1 rfl) ?_
              exact gs_iret hx hb hr hlocks hM hS rfl ⟨gN.rf, trivial⟩ (by exact Nat.le_refl _) (by exact Nat.le_refl _) dX3_size_33
          · skip
            refine lv_if_eq (tgt := 23) hx hb dX3_size_16 (by decide) (fun _ => ?_) (fun h9 => absurd (by decide) h9)
            refine lv_iconst (v := 0) hx hb dX3_size_23 (by decide) ?_
            refine lv_iadd hx hb dX3_size_24 ?_
            refine lv_topi (fun x_176 ex_176 => ?_)
            obtain rfl : x_176 = (1 : Int32) := ex_176.trans (by decide)
            refine lv_istore_n (lv' := [(1, .int 1), (2, .int 4), (0, .ref (ad 4 0))]) hx hb dX3_size_25 rfl hl (by decide) rfl (fun ls hl => ?_)
            refine lv_iinc (v := (5)) (lv' := [(2, .int 5), (1, .int 1), (0, .ref (ad 4 0))]) hx hb dX3_size_26 hl (k := 1) rfl (by decide) (by decide) rfl (fun ls hl => ?_)
            refine lv_goto (tgt := 4) hx hb dX3_size_29 (by decide) ?_
            refine lv_iload_n hx hb dX3_size_4 rfl (lv_at hl 0 rfl) ?_
            refine lv_bipush (v := 6) hx hb dX3_size_5 (by decide) ?_
            refine lv_icmp_ge (tgt := 32) hx hb dX3_size_7 (by decide) (fun h9 => absurd h9 (by decide)) (fun _ => ?_)
            refine lv_iload_n hx hb dX3_size_10 rfl (lv_at hl 1 rfl) ?_
            refine lv_aload_n hx hb dX3_size_11 rfl (lv_at hl 2 rfl) ?_
            refine lv_iload_n hx hb dX3_size_12 rfl (lv_at hl 0 rfl) ?_
            refine gs_calli (va_runV (As := [.int 5]) (rest := [.int 1]) ⟨hx, hb, hml, hown, hts⟩ (s_X3_isThere l G cy sK sV ad H.size st (5 : Int32) 5 (by decide) (by first | decide | omega) (by first | decide | omega)) ⟨(gz_cb (n := 1) hts gm_733 gm_4 gm_350 ⟨by decide +kernel, by decide +kernel, by decide +kernel⟩ ⟨Nat.le_of_ble_eq_true rfl, Nat.le_of_ble_eq_true rfl⟩), hts _ gm_348, hts _ gm_349⟩ (gs_preV hK hov hE hI hM hm hS hA 4 0 (by decide) rfl rfl) rfl rfl hl.1 rfl (lv_room (Nat.le_of_ble_eq_true rfl)) dX3_size_13 ⟨Nat.le_of_ble_eq_true rfl, Nat.le_of_ble_eq_true rfl⟩) hm hS hA (fun r_177 st_177 H locs hw_177 hM hS => ?_)
            obtain ⟨n_177, hw_177⟩ := hw_177
            have n_177 := gN0 n_177
            subst n_177
            rcases hw_177 with ⟨rfl, hw_177_0⟩ | ⟨rfl, hw_177_0⟩
            · skip
              refine lv_if_eq (tgt := 23) hx hb dX3_size_16 (by decide) (fun h9 => absurd h9 (by decide)) (fun _ => ?_)
              refine lv_iconst (v := 1) hx hb dX3_size_19 (by decide) ?_
              refine lv_goto (tgt := 24) hx hb dX3_size_20 (by decide) ?_
              refine lv_iadd hx hb dX3_size_24 ?_
              refine lv_topi (fun x_178 ex_178 => ?_)
              obtain rfl : x_178 = (2 : Int32) := ex_178.trans (by decide)
              refine lv_istore_n (lv' := [(1, .int 2), (2, .int 5), (0, .ref (ad 4 0))]) hx hb dX3_size_25 rfl hl (by decide) rfl (fun ls hl => ?_)
              refine lv_iinc (v := (6)) (lv' := [(2, .int 6), (1, .int 2), (0, .ref (ad 4 0))]) hx hb dX3_size_26 hl (k := 1) rfl (by decide) (by decide) rfl (fun ls hl => ?_)
              refine lv_goto (tgt := 4) hx hb dX3_size_29 (by decide) ?_
              refine lv_iload_n hx hb dX3_size_4 rfl (lv_at hl 0 rfl) ?_
              refine lv_bipush (v := 6) hx hb dX3_size_5 (by decide) ?_
              refine lv_icmp_ge (tgt := 32) hx hb dX3_size_7 (by decide) (fun _ => ?_) (fun h9 => absurd (by decide) h9)
              refine lv_iload_n hx hb dX3_size_32 rfl (lv_at hl 1 rfl) ?_
              exact gs_iret hx hb hr hlocks hM hS rfl ⟨gN.rf, trivial⟩ (by exact Nat.le_refl _) (by exact Nat.le_refl _) dX3_size_33
            · skip
              refine lv_if_eq (tgt := 23) hx hb dX3_size_16 (by decide) (fun _ => ?_) (fun h9 => absurd (by decide) h9)
              refine lv_iconst (v := 0) hx hb dX3_size_23 (by decide) ?_
              refine lv_iadd hx hb dX3_size_24 ?_
              refine lv_topi (fun x_179 ex_179 => ?_)
              obtain rfl : x_179 = (1 : Int32) := ex_179.trans (by decide)
              refine lv_istore_n (lv' := [(1, .int 1), (2, .int 5), (0, .ref (ad 4 0))]) hx hb dX3_size_25 rfl hl (by decide) rfl (fun ls hl => ?_)
              refine lv_iinc (v := (6)) (lv' := [(2, .int 6), (1, .int 1), (0, .ref (ad 4 0))]) hx hb dX3_size_26 hl (k := 1) rfl (by decide) (by decide) rfl (fun ls hl => ?_)
              refine lv_goto (tgt := 4) hx hb dX3_size_29 (by decide) ?_
              refine lv_iload_n hx hb dX3_size_4 rfl (lv_at hl 0 rfl) ?_
              refine lv_bipush (v := 6) hx hb dX3_size_5 (by decide) ?_
              refine lv_icmp_ge (tgt := 32) hx hb dX3_size_7 (by decide) (fun _ => ?_) (fun h9 => absurd (by decide) h9)
              refine lv_iload_n hx hb dX3_size_32 rfl (lv_at hl 1 rfl) ?_
              exact gs_iret hx hb hr hlocks hM hS rfl ⟨gN.rf, trivial⟩ (by exact Nat.le_refl _) (by exact Nat.le_refl _) dX3_size_33
        · skip
          refine lv_if_eq (tgt := 23) hx hb dX3_size_16 (by decide) (fun _ => ?_) (fun h9 => absurd (by decide) h9)
          refine lv_iconst (v := 0) hx hb dX3_size_23 (by decide) ?_
          refine lv_iadd hx hb dX3_size_24 ?_
          refine lv_topi (fun x_180 ex_180 => ?_)
          obtain rfl : x_180 = (0 : Int32) := ex_180.trans (by decide)
          refine lv_istore_n (lv' := [(1, .int 0), (2, .int 3), (0, .ref (ad 4 0))]) hx hb dX3_size_25 rfl hl (by decide) rfl (fun ls hl => ?_)
          refine lv_iinc (v := (4)) (lv' := [(2, .int 4), (1, .int 0), (0, .ref (ad 4 0))]) hx hb dX3_size_26 hl (k := 1) rfl (by decide) (by decide) rfl (fun ls hl => ?_)
          refine lv_goto (tgt := 4) hx hb dX3_size_29 (by decide) ?_
          refine lv_iload_n hx hb dX3_size_4 rfl (lv_at hl 0 rfl) ?_
          refine lv_bipush (v := 6) hx hb dX3_size_5 (by decide) ?_
          refine lv_icmp_ge (tgt := 32) hx hb dX3_size_7 (by decide) (fun h9 => absurd h9 (by decide)) (fun _ => ?_)
          refine lv_iload_n hx hb dX3_size_10 rfl (lv_at hl 1 rfl) ?_
          refine lv_aload_n hx hb dX3_size_11 rfl (lv_at hl 2 rfl) ?_
          refine lv_iload_n hx hb dX3_size_12 rfl (lv_at hl 0 rfl) ?_
          refine gs_calli (va_runV (As := [.int 4]) (rest := [.int 0]) ⟨hx, hb, hml, hown, hts⟩ (s_X3_isThere l G cy sK sV ad H.size st (4 : Int32) 4 (by decide) (by first | decide | omega) (by first | decide | omega)) ⟨(gz_cb (n := 1) hts gm_733 gm_4 gm_350 ⟨by decide +kernel, by decide +kernel, by decide +kernel⟩ ⟨Nat.le_of_ble_eq_true rfl, Nat.le_of_ble_eq_true rfl⟩), hts _ gm_348, hts _ gm_349⟩ (gs_preV hK hov hE hI hM hm hS hA 4 0 (by decide) rfl rfl) rfl rfl hl.1 rfl (lv_room (Nat.le_of_ble_eq_true rfl)) dX3_size_13 ⟨Nat.le_of_ble_eq_true rfl, Nat.le_of_ble_eq_true rfl⟩) hm hS hA (fun r_181 st_181 H locs hw_181 hM hS => ?_)
          obtain ⟨n_181, hw_181⟩ := hw_181
          have n_181 := gN0 n_181
          subst n_181
          rcases hw_181 with ⟨rfl, hw_181_0⟩ | ⟨rfl, hw_181_0⟩
          · skip
            refine lv_if_eq (tgt := 23) hx hb dX3_size_16 (by decide) (fun h9 => absurd h9 (by decide)) (fun _ => ?_)
            refine lv_iconst (v := 1) hx hb dX3_size_19 (by decide) ?_
            refine lv_goto (tgt := 24) hx hb dX3_size_20 (by decide) ?_
            refine lv_iadd hx hb dX3_size_24 ?_
            refine lv_topi (fun x_182 ex_182 => ?_)
            obtain rfl : x_182 = (1 : Int32) := ex_182.trans (by decide)
            refine lv_istore_n (lv' := [(1, .int 1), (2, .int 4), (0, .ref (ad 4 0))]) hx hb dX3_size_25 rfl hl (by decide) rfl (fun ls hl => ?_)
            refine lv_iinc (v := (5)) (lv' := [(2, .int 5), (1, .int 1), (0, .ref (ad 4 0))]) hx hb dX3_size_26 hl (k := 1) rfl (by decide) (by decide) rfl (fun ls hl => ?_)
            refine lv_goto (tgt := 4) hx hb dX3_size_29 (by decide) ?_
            refine lv_iload_n hx hb dX3_size_4 rfl (lv_at hl 0 rfl) ?_
            refine lv_bipush (v := 6) hx hb dX3_size_5 (by decide) ?_
            refine lv_icmp_ge (tgt := 32) hx hb dX3_size_7 (by decide) (fun h9 => absurd h9 (by decide)) (fun _ => ?_)
            refine lv_iload_n hx hb dX3_size_10 rfl (lv_at hl 1 rfl) ?_
            refine lv_aload_n hx hb dX3_size_11 rfl (lv_at hl 2 rfl) ?_
            refine lv_iload_n hx hb dX3_size_12 rfl (lv_at hl 0 rfl) ?_
            refine gs_calli (va_runV (As := [.int 5]) (rest := [.int 1]) ⟨hx, hb, hml, hown, hts⟩ (s_X3_isThere l G cy sK sV ad H.size st (5 : Int32) 5 (by decide) (by first | decide | omega) (by first | decide | omega)) ⟨(gz_cb (n := 1) hts gm_733 gm_4 gm_350 ⟨by decide +kernel, by decide +kernel, by decide +kernel⟩ ⟨Nat.le_of_ble_eq_true rfl, Nat.le_of_ble_eq_true rfl⟩), hts _ gm_348, hts _ gm_349⟩ (gs_preV hK hov hE hI hM hm hS hA 4 0 (by decide) rfl rfl) rfl rfl hl.1 rfl (lv_room (Nat.le_of_ble_eq_true rfl)) dX3_size_13 ⟨Nat.le_of_ble_eq_true rfl, Nat.le_of_ble_eq_true rfl⟩) hm hS hA (fun r_183 st_183 H locs hw_183 hM hS => ?_)
            obtain ⟨n_183, hw_183⟩ := hw_183
            have n_183 := gN0 n_183
            subst n_183
            rcases hw_183 with ⟨rfl, hw_183_0⟩ | ⟨rfl, hw_183_0⟩
            · skip
              refine lv_if_eq (tgt := 23) hx hb dX3_size_16 (by decide) (fun h9 => absurd h9 (by decide)) (fun _ => ?_)
              refine lv_iconst (v := 1) hx hb dX3_size_19 (by decide) ?_
              refine lv_goto (tgt := 24) hx hb dX3_size_20 (by decide) ?_
              refine lv_iadd hx hb dX3_size_24 ?_
              refine lv_topi (fun x_184 ex_184 => ?_)
              obtain rfl : x_184 = (2 : Int32) := ex_184.trans (by decide)
              refine lv_istore_n (lv' := [(1, .int 2), (2, .int 5), (0, .ref (ad 4 0))]) hx hb dX3_size_25 rfl hl (by decide) rfl (fun ls hl => ?_)
              refine lv_iinc (v := (6)) (lv' := [(2, .int 6), (1, .int 2), (0, .ref (ad 4 0))]) hx hb dX3_size_26 hl (k := 1) rfl (by decide) (by decide) rfl (fun ls hl => ?_)
              refine lv_goto (tgt := 4) hx hb dX3_size_29 (by decide) ?_
              refine lv_iload_n hx hb dX3_size_4 rfl (lv_at hl 0 rfl) ?_
              refine lv_bipush (v := 6) hx hb dX3_size_5 (by decide) ?_
              refine lv_icmp_ge (tgt := 32) hx hb dX3_size_7 (by decide) (fun _ => ?_) (fun h9 => absurd (by decide) h9)
              refine lv_iload_n hx hb dX3_size_32 rfl (lv_at hl 1 rfl) ?_
              exact gs_iret hx hb hr hlocks hM hS rfl ⟨gN.rf, trivial⟩ (by exact Nat.le_refl _) (by exact Nat.le_refl _) dX3_size_33
            · skip
              refine lv_if_eq (tgt := 23) hx hb dX3_size_16 (by decide) (fun _ => ?_) (fun h9 => absurd (by decide) h9)
              refine lv_iconst (v := 0) hx hb dX3_size_23 (by decide) ?_
              refine lv_iadd hx hb dX3_size_24 ?_
              refine lv_topi (fun x_185 ex_185 => ?_)
              obtain rfl : x_185 = (1 : Int32) := ex_185.trans (by decide)
              refine lv_istore_n (lv' := [(1, .int 1), (2, .int 5), (0, .ref (ad 4 0))]) hx hb dX3_size_25 rfl hl (by decide) rfl (fun ls hl => ?_)
              refine lv_iinc (v := (6)) (lv' := [(2, .int 6), (1, .int 1), (0, .ref (ad 4 0))]) hx hb dX3_size_26 hl (k := 1) rfl (by decide) (by decide) rfl (fun ls hl => ?_)
              refine lv_goto (tgt := 4) hx hb dX3_size_29 (by decide) ?_
              refine lv_iload_n hx hb dX3_size_4 rfl (lv_at hl 0 rfl) ?_
              refine lv_bipush (v := 6) hx hb dX3_size_5 (by decide) ?_
              refine lv_icmp_ge (tgt := 32) hx hb dX3_size_7 (by decide) (fun _ => ?_) (fun h9 => absurd (by decide) h9)
              refine lv_iload_n hx hb dX3_size_32 rfl (lv_at hl 1 rfl) ?_
              exact gs_iret hx hb hr hlocks hM hS rfl ⟨gN.rf, trivial⟩ (by exact Nat.le_refl _) (by exact Nat.le_refl _) dX3_size_33
          · skip
            refine lv_if_eq (tgt := 23) hx hb dX3_size_16 (by decide) (fun _ => ?_) (fun h9 => absurd (by decide) h9)
            refine lv_iconst (v := 0) hx hb dX3_size_23 (by decide) ?_
            refine lv_iadd hx hb dX3_size_24 ?_
            refine lv_topi (fun x_186 ex_186 => ?_)
            obtain rfl : x_186 = (0 : Int32) := ex_186.trans (by decide)
            refine lv_istore_n (lv' := [(1, .int 0), (2, .int 4), (0, .ref (ad 4 0))]) hx hb dX3_size_25 rfl hl (by decide) rfl (fun ls hl => ?_)
            refine lv_iinc (v := (5)) (lv' := [(2, .int 5), (1, .int 0), (0, .ref (ad 4 0))]) hx hb dX3_size_26 hl (k := 1) rfl (by decide) (by decide) rfl (fun ls hl => ?_)
            refine lv_goto (tgt := 4) hx hb dX3_size_29 (by decide) ?_
            refine lv_iload_n hx hb dX3_size_4 rfl (lv_at hl 0 rfl) ?_
            refine lv_bipush (v := 6) hx hb dX3_size_5 (by decide) ?_
            refine lv_icmp_ge (tgt := 32) hx hb dX3_size_7 (by decide) (fun h9 => absurd h9 (by decide)) (fun _ => ?_)
            refine lv_iload_n hx hb dX3_size_10 rfl (lv_at hl 1 rfl) ?_
            refine lv_aload_n hx hb dX3_size_11 rfl (lv_at hl 2 rfl) ?_
            refine lv_iload_n hx hb dX3_size_12 rfl (lv_at hl 0 rfl) ?_
            refine gs_calli (va_runV (As := [.int 5]) (rest := [.int 0]) ⟨hx, hb, hml, hown, hts⟩ (s_X3_isThere l G cy sK sV ad H.size st (5 : Int32) 5 (by decide) (by first | decide | omega) (by first | decide | omega)) ⟨(gz_cb (n := 1) hts gm_733 gm_4 gm_350 ⟨by decide +kernel, by decide +kernel, by decide +kernel⟩ ⟨Nat.le_of_ble_eq_true rfl, Nat.le_of_ble_eq_true rfl⟩), hts _ gm_348, hts _ gm_349⟩ (gs_preV hK hov hE hI hM hm hS hA 4 0 (by decide) rfl rfl) rfl rfl hl.1 rfl (lv_room (Nat.le_of_ble_eq_true rfl)) dX3_size_13 ⟨Nat.le_of_ble_eq_true rfl, Nat.le_of_ble_eq_true rfl⟩) hm hS hA (fun r_187 st_187 H locs hw_187 hM hS => ?_)
            obtain ⟨n_187, hw_187⟩ := hw_187
            have n_187 := gN0 n_187
            subst n_187
            rcases hw_187 with ⟨rfl, hw_187_0⟩ | ⟨rfl, hw_187_0⟩
            · skip
              refine lv_if_eq (tgt := 23) hx hb dX3_size_16 (by decide) (fun h9 => absurd h9 (by decide)) (fun _ => ?_)
              refine lv_iconst (v := 1) hx hb dX3_size_19 (by decide) ?_
              refine lv_goto (tgt := 24) hx hb dX3_size_20 (by decide) ?_
              refine lv_iadd hx hb dX3_size_24 ?_
              refine lv_topi (fun x_188 ex_188 => ?_)
              obtain rfl : x_188 = (1 : Int32) := ex_188.trans (by decide)
              refine lv_istore_n (lv' := [(1, .int 1), (2, .int 5), (0, .ref (ad 4 0))]) hx hb dX3_size_25 rfl hl (by decide) rfl (fun ls hl => ?_)
              refine lv_iinc (v := (6)) (lv' := [(2, .int 6), (1, .int 1), (0, .ref (ad 4 0))]) hx hb dX3_size_26 hl (k := 1) rfl (by decide) (by decide) rfl (fun ls hl => ?_)
              refine lv_goto (tgt := 4) hx hb dX3_size_29 (by decide) ?_
              refine lv_iload_n hx hb dX3_size_4 rfl (lv_at hl 0 rfl) ?_
              refine lv_bipush (v := 6) hx hb dX3_size_5 (by decide) ?_
              refine lv_icmp_ge (tgt := 32) hx hb dX3_size_7 (by decide) (fun _ => ?_) (fun h9 => absurd (by decide) h9)
              refine lv_iload_n hx hb dX3_size_32 rfl (lv_at hl 1 rfl) ?_
              exact gs_iret hx hb hr hlocks hM hS rfl ⟨gN.rf, trivial⟩ (by exact Nat.le_refl _) (by exact Nat.le_refl _) dX3_size_33
            · skip
              refine lv_if_eq (tgt := 23) hx hb dX3_size_16 (by decide) (fun _ => ?_) (fun h9 => absurd (by decide) h9)
              refine lv_iconst (v := 0) hx hb dX3_size_23 (by decide) ?_
              refine lv_iadd hx hb dX3_size_24 ?_
              refine lv_topi (fun x_189 ex_189 => ?_)
              obtain rfl : x_189 = (0 : Int32) := ex_189.trans (by decide)
              refine lv_istore_n (lv' := [(1, .int 0), (2, .int 5), (0, .ref (ad 4 0))]) hx hb dX3_size_25 rfl hl (by decide) rfl (fun ls hl => ?_)
              refine lv_iinc (v := (6)) (lv' := [(2, .int 6), (1, .int 0), (0, .ref (ad 4 0))]) hx hb dX3_size_26 hl (k := 1) rfl (by decide) (by decide) rfl (fun ls hl => ?_)
              refine lv_goto (tgt := 4) hx hb dX3_size_29 (by decide) ?_
              refine lv_iload_n hx hb dX3_size_4 rfl (lv_at hl 0 rfl) ?_
              refine lv_bipush (v := 6) hx hb dX3_size_5 (by decide) ?_
              refine lv_icmp_ge (tgt := 32) hx hb dX3_size_7 (by decide) (fun _ => ?_) (fun h9 => absurd (by decide) h9)
              refine lv_iload_n hx hb dX3_size_32 rfl (lv_at hl 1 rfl) ?_
              exact gs_iret hx hb hr hlocks hM hS rfl ⟨gN.rf, trivial⟩ (by exact Nat.le_refl _) (by exact Nat.le_refl _) dX3_size_33

set_option maxHeartbeats 4000000 in
set_option maxRecDepth 100000 in
/-- WellCourt$Flock.size -/
theorem s_X2_size (l : Launch) (G : va_G) (cy : Nat → ClassId) (sK sV : Nat → Nat) (ad : Nat → Nat → Nat) (sz : Nat) (st : gS)       : gsMi l yX2_size cX2_size 3 (some .int) ({ frames := 1, cells := 0, slots := 0, locals := 21 } : Room) G cy sK sV (shX cy ad) cnX ad sz [.ref (ad 19 0)] st (fun (r : Int32) (u : gS) => gN [] st u ∧ (True)) := by
  refine gs_start (fun A => gsQi G (shX cy ad) cnX ad _ A) (by decide) (Nat.le_of_ble_eq_true rfl) ?_
  intro p e s m below meth c A ls H hx hb hr hml hlocks hown hts hK hov hE hI hM hm hS hA hl
  have hl : lv_has ls 3 [(0, .ref (ad 19 0))] := hl
  refine lv_iconst (v := 0) hx hb dX2_size_0 (by decide) ?_
  refine lv_istore_n (lv' := [(1, .int 0), (0, .ref (ad 19 0))]) hx hb dX2_size_1 rfl hl (by decide) rfl (fun ls hl => ?_)
  refine lv_iconst (v := 0) hx hb dX2_size_2 (by decide) ?_
  refine lv_istore_n (lv' := [(2, .int 0), (1, .int 0), (0, .ref (ad 19 0))]) hx hb dX2_size_3 rfl hl (by decide) rfl (fun ls hl => ?_)
  refine lv_iload_n hx hb dX2_size_4 rfl (lv_at hl 0 rfl) ?_
  refine lv_iconst (v := 4) hx hb dX2_size_5 (by decide) ?_
  refine lv_icmp_ge (tgt := 31) hx hb dX2_size_6 (by decide) (fun h9 => absurd h9 (by decide)) (fun _ => ?_)
  refine lv_iload_n hx hb dX2_size_9 rfl (lv_at hl 1 rfl) ?_
  refine lv_aload_n hx hb dX2_size_10 rfl (lv_at hl 2 rfl) ?_
  refine lv_iload_n hx hb dX2_size_11 rfl (lv_at hl 0 rfl) ?_
  refine gs_calli (va_runV (As := [.int 0]) (rest := [.int 0]) ⟨hx, hb, hml, hown, hts⟩ (s_X2_isThere l G cy sK sV ad H.size st (0 : Int32) 0 (by decide) (by first | decide | omega) (by first | decide | omega)) ⟨(gz_cb (n := 1) hts gm_738 gm_9 gm_707 ⟨by decide +kernel, by decide +kernel, by decide +kernel⟩ ⟨Nat.le_of_ble_eq_true rfl, Nat.le_of_ble_eq_true rfl⟩), hts _ gm_705, hts _ gm_706⟩ (gs_preV hK hov hE hI hM hm hS hA 19 0 (by decide) rfl rfl) rfl rfl hl.1 rfl (lv_room (Nat.le_of_ble_eq_true rfl)) dX2_size_12 ⟨Nat.le_of_ble_eq_true rfl, Nat.le_of_ble_eq_true rfl⟩) hm hS hA (fun r_1 st_1 H locs hw_1 hM hS => ?_)
  obtain ⟨n_1, hw_1⟩ := hw_1
  have n_1 := gN0 n_1
  subst n_1
  rcases hw_1 with ⟨rfl, hw_1_0⟩ | ⟨rfl, hw_1_0⟩
  · skip
    refine lv_if_eq (tgt := 22) hx hb dX2_size_15 (by decide) (fun h9 => absurd h9 (by decide)) (fun _ => ?_)
    refine lv_iconst (v := 1) hx hb dX2_size_18 (by decide) ?_
    refine lv_goto (tgt := 23) hx hb dX2_size_19 (by decide) ?_
    refine lv_iadd hx hb dX2_size_23 ?_
    refine lv_topi (fun x_2 ex_2 => ?_)
    obtain rfl : x_2 = (1 : Int32) := ex_2.trans (by decide)
    refine lv_istore_n (lv' := [(1, .int 1), (2, .int 0), (0, .ref (ad 19 0))]) hx hb dX2_size_24 rfl hl (by decide) rfl (fun ls hl => ?_)
    refine lv_iinc (v := (1)) (lv' := [(2, .int 1), (1, .int 1), (0, .ref (ad 19 0))]) hx hb dX2_size_25 hl (k := 1) rfl (by decide) (by decide) rfl (fun ls hl => ?_)
    refine lv_goto (tgt := 4) hx hb dX2_size_28 (by decide) ?_
    refine lv_iload_n hx hb dX2_size_4 rfl (lv_at hl 0 rfl) ?_
    refine lv_iconst (v := 4) hx hb dX2_size_5 (by decide) ?_
    refine lv_icmp_ge (tgt := 31) hx hb dX2_size_6 (by decide) (fun h9 => absurd h9 (by decide)) (fun _ => ?_)
    refine lv_iload_n hx hb dX2_size_9 rfl (lv_at hl 1 rfl) ?_
    refine lv_aload_n hx hb dX2_size_10 rfl (lv_at hl 2 rfl) ?_
    refine lv_iload_n hx hb dX2_size_11 rfl (lv_at hl 0 rfl) ?_
    refine gs_calli (va_runV (As := [.int 1]) (rest := [.int 1]) ⟨hx, hb, hml, hown, hts⟩ (s_X2_isThere l G cy sK sV ad H.size st (1 : Int32) 1 (by decide) (by first | decide | omega) (by first | decide | omega)) ⟨(gz_cb (n := 1) hts gm_738 gm_9 gm_707 ⟨by decide +kernel, by decide +kernel, by decide +kernel⟩ ⟨Nat.le_of_ble_eq_true rfl, Nat.le_of_ble_eq_true rfl⟩), hts _ gm_705, hts _ gm_706⟩ (gs_preV hK hov hE hI hM hm hS hA 19 0 (by decide) rfl rfl) rfl rfl hl.1 rfl (lv_room (Nat.le_of_ble_eq_true rfl)) dX2_size_12 ⟨Nat.le_of_ble_eq_true rfl, Nat.le_of_ble_eq_true rfl⟩) hm hS hA (fun r_3 st_3 H locs hw_3 hM hS => ?_)
    obtain ⟨n_3, hw_3⟩ := hw_3
    have n_3 := gN0 n_3
    subst n_3
    rcases hw_3 with ⟨rfl, hw_3_0⟩ | ⟨rfl, hw_3_0⟩
    · skip
      refine lv_if_eq (tgt := 22) hx hb dX2_size_15 (by decide) (fun h9 => absurd h9 (by decide)) (fun _ => ?_)
      refine lv_iconst (v := 1) hx hb dX2_size_18 (by decide) ?_
      refine lv_goto (tgt := 23) hx hb dX2_size_19 (by decide) ?_
      refine lv_iadd hx hb dX2_size_23 ?_
      refine lv_topi (fun x_4 ex_4 => ?_)
      obtain rfl : x_4 = (2 : Int32) := ex_4.trans (by decide)
      refine lv_istore_n (lv' := [(1, .int 2), (2, .int 1), (0, .ref (ad 19 0))]) hx hb dX2_size_24 rfl hl (by decide) rfl (fun ls hl => ?_)
      refine lv_iinc (v := (2)) (lv' := [(2, .int 2), (1, .int 2), (0, .ref (ad 19 0))]) hx hb dX2_size_25 hl (k := 1) rfl (by decide) (by decide) rfl (fun ls hl => ?_)
      refine lv_goto (tgt := 4) hx hb dX2_size_28 (by decide) ?_
      refine lv_iload_n hx hb dX2_size_4 rfl (lv_at hl 0 rfl) ?_
      refine lv_iconst (v := 4) hx hb dX2_size_5 (by decide) ?_
      refine lv_icmp_ge (tgt := 31) hx hb dX2_size_6 (by decide) (fun h9 => absurd h9 (by decide)) (fun _ => ?_)
      refine lv_iload_n hx hb dX2_size_9 rfl (lv_at hl 1 rfl) ?_
      refine lv_aload_n hx hb dX2_size_10 rfl (lv_at hl 2 rfl) ?_
      refine lv_iload_n hx hb dX2_size_11 rfl (lv_at hl 0 rfl) ?_
      refine gs_calli (va_runV (As := [.int 2]) (rest := [.int 2]) ⟨hx, hb, hml, hown, hts⟩ (s_X2_isThere l G cy sK sV ad H.size st (2 : Int32) 2 (by decide) (by first | decide | omega) (by first | decide | omega)) ⟨(gz_cb (n := 1) hts gm_738 gm_9 gm_707 ⟨by decide +kernel, by decide +kernel, by decide +kernel⟩ ⟨Nat.le_of_ble_eq_true rfl, Nat.le_of_ble_eq_true rfl⟩), hts _ gm_705, hts _ gm_706⟩ (gs_preV hK hov hE hI hM hm hS hA 19 0 (by decide) rfl rfl) rfl rfl hl.1 rfl (lv_room (Nat.le_of_ble_eq_true rfl)) dX2_size_12 ⟨Nat.le_of_ble_eq_true rfl, Nat.le_of_ble_eq_true rfl⟩) hm hS hA (fun r_5 st_5 H locs hw_5 hM hS => ?_)
      obtain ⟨n_5, hw_5⟩ := hw_5
      have n_5 := gN0 n_5
      subst n_5
      rcases hw_5 with ⟨rfl, hw_5_0⟩ | ⟨rfl, hw_5_0⟩
      · skip
        refine lv_if_eq (tgt := 22) hx hb dX2_size_15 (by decide) (fun h9 => absurd h9 (by decide)) (fun _ => ?_)
        refine lv_iconst (v := 1) hx hb dX2_size_18 (by decide) ?_
        refine lv_goto (tgt := 23) hx hb dX2_size_19 (by decide) ?_
        refine lv_iadd hx hb dX2_size_23 ?_
        refine lv_topi (fun x_6 ex_6 => ?_)
        obtain rfl : x_6 = (3 : Int32) := ex_6.trans (by decide)
        refine lv_istore_n (lv' := [(1, .int 3), (2, .int 2), (0, .ref (ad 19 0))]) hx hb dX2_size_24 rfl hl (by decide) rfl (fun ls hl => ?_)
        refine lv_iinc (v := (3)) (lv' := [(2, .int 3), (1, .int 3), (0, .ref (ad 19 0))]) hx hb dX2_size_25 hl (k := 1) rfl (by decide) (by decide) rfl (fun ls hl => ?_)
        refine lv_goto (tgt := 4) hx hb dX2_size_28 (by decide) ?_
        refine lv_iload_n hx hb dX2_size_4 rfl (lv_at hl 0 rfl) ?_
        refine lv_iconst (v := 4) hx hb dX2_size_5 (by decide) ?_
        refine lv_icmp_ge (tgt := 31) hx hb dX2_size_6 (by decide) (fun h9 => absurd h9 (by decide)) (fun _ => ?_)
        refine lv_iload_n hx hb dX2_size_9 rfl (lv_at hl 1 rfl) ?_
        refine lv_aload_n hx hb dX2_size_10 rfl (lv_at hl 2 rfl) ?_
        refine lv_iload_n hx hb dX2_size_11 rfl (lv_at hl 0 rfl) ?_
        refine gs_calli (va_runV (As := [.int 3]) (rest := [.int 3]) ⟨hx, hb, hml, hown, hts⟩ (s_X2_isThere l G cy sK sV ad H.size st (3 : Int32) 3 (by decide) (by first | decide | omega) (by first | decide | omega)) ⟨(gz_cb (n := 1) hts gm_738 gm_9 gm_707 ⟨by decide +kernel, by decide +kernel, by decide +kernel⟩ ⟨Nat.le_of_ble_eq_true rfl, Nat.le_of_ble_eq_true rfl⟩), hts _ gm_705, hts _ gm_706⟩ (gs_preV hK hov hE hI hM hm hS hA 19 0 (by decide) rfl rfl) rfl rfl hl.1 rfl (lv_room (Nat.le_of_ble_eq_true rfl)) dX2_size_12 ⟨Nat.le_of_ble_eq_true rfl, Nat.le_of_ble_eq_true rfl⟩) hm hS hA (fun r_7 st_7 H locs hw_7 hM hS => ?_)
        obtain ⟨n_7, hw_7⟩ := hw_7
        have n_7 := gN0 n_7
        subst n_7
        rcases hw_7 with ⟨rfl, hw_7_0⟩ | ⟨rfl, hw_7_0⟩
        · skip
          refine lv_if_eq (tgt := 22) hx hb dX2_size_15 (by decide) (fun h9 => absurd h9 (by decide)) (fun _ => ?_)
          refine lv_iconst (v := 1) hx hb dX2_size_18 (by decide) ?_
          refine lv_goto (tgt := 23) hx hb dX2_size_19 (by decide) ?_
          refine lv_iadd hx hb dX2_size_23 ?_
          refine lv_topi (fun x_8 ex_8 => ?_)
          obtain rfl : x_8 = (4 : Int32) := ex_8.trans (by decide)
          refine lv_istore_n (lv' := [(1, .int 4), (2, .int 3), (0, .ref (ad 19 0))]) hx hb dX2_size_24 rfl hl (by decide) rfl (fun ls hl => ?_)
          refine lv_iinc (v := (4)) (lv' := [(2, .int 4), (1, .int 4), (0, .ref (ad 19 0))]) hx hb dX2_size_25 hl (k := 1) rfl (by decide) (by decide) rfl (fun ls hl => ?_)
          refine lv_goto (tgt := 4) hx hb dX2_size_28 (by decide) ?_
          refine lv_iload_n hx hb dX2_size_4 rfl (lv_at hl 0 rfl) ?_
          refine lv_iconst (v := 4) hx hb dX2_size_5 (by decide) ?_
          refine lv_icmp_ge (tgt := 31) hx hb dX2_size_6 (by decide) (fun _ => ?_) (fun h9 => absurd (by decide) h9)
          refine lv_iload_n hx hb dX2_size_31 rfl (lv_at hl 1 rfl) ?_
          exact gs_iret hx hb hr hlocks hM hS rfl ⟨gN.rf, trivial⟩ (by exact Nat.le_refl _) (by exact Nat.le_refl _) dX2_size_32
        · skip
          refine lv_if_eq (tgt := 22) hx hb dX2_size_15 (by decide) (fun _ => ?_) (fun h9 => absurd (by decide) h9)
          refine lv_iconst (v := 0) hx hb dX2_size_22 (by decide) ?_
          refine lv_iadd hx hb dX2_size_23 ?_
          refine lv_topi (fun x_9 ex_9 => ?_)
          obtain rfl : x_9 = (3 : Int32) := ex_9.trans (by decide)
          refine lv_istore_n (lv' := [(1, .int 3), (2, .int 3), (0, .ref (ad 19 0))]) hx hb dX2_size_24 rfl hl (by decide) rfl (fun ls hl => ?_)
          refine lv_iinc (v := (4)) (lv' := [(2, .int 4), (1, .int 3), (0, .ref (ad 19 0))]) hx hb dX2_size_25 hl (k := 1) rfl (by decide) (by decide) rfl (fun ls hl => ?_)
          refine lv_goto (tgt := 4) hx hb dX2_size_28 (by decide) ?_
          refine lv_iload_n hx hb dX2_size_4 rfl (lv_at hl 0 rfl) ?_
          refine lv_iconst (v := 4) hx hb dX2_size_5 (by decide) ?_
          refine lv_icmp_ge (tgt := 31) hx hb dX2_size_6 (by decide) (fun _ => ?_) (fun h9 => absurd (by decide) h9)
          refine lv_iload_n hx hb dX2_size_31 rfl (lv_at hl 1 rfl) ?_
          exact gs_iret hx hb hr hlocks hM hS rfl ⟨gN.rf, trivial⟩ (by exact Nat.le_refl _) (by exact Nat.le_refl _) dX2_size_32
      · skip
        refine lv_if_eq (tgt := 22) hx hb dX2_size_15 (by decide) (fun _ => ?_) (fun h9 => absurd (by decide) h9)
        refine lv_iconst (v := 0) hx hb dX2_size_22 (by decide) ?_
        refine lv_iadd hx hb dX2_size_23 ?_
        refine lv_topi (fun x_10 ex_10 => ?_)
        obtain rfl : x_10 = (2 : Int32) := ex_10.trans (by decide)
        refine lv_istore_n (lv' := [(1, .int 2), (2, .int 2), (0, .ref (ad 19 0))]) hx hb dX2_size_24 rfl hl (by decide) rfl (fun ls hl => ?_)
        refine lv_iinc (v := (3)) (lv' := [(2, .int 3), (1, .int 2), (0, .ref (ad 19 0))]) hx hb dX2_size_25 hl (k := 1) rfl (by decide) (by decide) rfl (fun ls hl => ?_)
        refine lv_goto (tgt := 4) hx hb dX2_size_28 (by decide) ?_
        refine lv_iload_n hx hb dX2_size_4 rfl (lv_at hl 0 rfl) ?_
        refine lv_iconst (v := 4) hx hb dX2_size_5 (by decide) ?_
        refine lv_icmp_ge (tgt := 31) hx hb dX2_size_6 (by decide) (fun h9 => absurd h9 (by decide)) (fun _ => ?_)
        refine lv_iload_n hx hb dX2_size_9 rfl (lv_at hl 1 rfl) ?_
        refine lv_aload_n hx hb dX2_size_10 rfl (lv_at hl 2 rfl) ?_
        refine lv_iload_n hx hb dX2_size_11 rfl (lv_at hl 0 rfl) ?_
        refine gs_calli (va_runV (As := [.int 3]) (rest := [.int 2]) ⟨hx, hb, hml, hown, hts⟩ (s_X2_isThere l G cy sK sV ad H.size st (3 : Int32) 3 (by decide) (by first | decide | omega) (by first | decide | omega)) ⟨(gz_cb (n := 1) hts gm_738 gm_9 gm_707 ⟨by decide +kernel, by decide +kernel, by decide +kernel⟩ ⟨Nat.le_of_ble_eq_true rfl, Nat.le_of_ble_eq_true rfl⟩), hts _ gm_705, hts _ gm_706⟩ (gs_preV hK hov hE hI hM hm hS hA 19 0 (by decide) rfl rfl) rfl rfl hl.1 rfl (lv_room (Nat.le_of_ble_eq_true rfl)) dX2_size_12 ⟨Nat.le_of_ble_eq_true rfl, Nat.le_of_ble_eq_true rfl⟩) hm hS hA (fun r_11 st_11 H locs hw_11 hM hS => ?_)
        obtain ⟨n_11, hw_11⟩ := hw_11
        have n_11 := gN0 n_11
        subst n_11
        rcases hw_11 with ⟨rfl, hw_11_0⟩ | ⟨rfl, hw_11_0⟩
        · skip
          refine lv_if_eq (tgt := 22) hx hb dX2_size_15 (by decide) (fun h9 => absurd h9 (by decide)) (fun _ => ?_)
          refine lv_iconst (v := 1) hx hb dX2_size_18 (by decide) ?_
          refine lv_goto (tgt := 23) hx hb dX2_size_19 (by decide) ?_
          refine lv_iadd hx hb dX2_size_23 ?_
          refine lv_topi (fun x_12 ex_12 => ?_)
          obtain rfl : x_12 = (3 : Int32) := ex_12.trans (by decide)
          refine lv_istore_n (lv' := [(1, .int 3), (2, .int 3), (0, .ref (ad 19 0))]) hx hb dX2_size_24 rfl hl (by decide) rfl (fun ls hl => ?_)
          refine lv_iinc (v := (4)) (lv' := [(2, .int 4), (1, .int 3), (0, .ref (ad 19 0))]) hx hb dX2_size_25 hl (k := 1) rfl (by decide) (by decide) rfl (fun ls hl => ?_)
          refine lv_goto (tgt := 4) hx hb dX2_size_28 (by decide) ?_
          refine lv_iload_n hx hb dX2_size_4 rfl (lv_at hl 0 rfl) ?_
          refine lv_iconst (v := 4) hx hb dX2_size_5 (by decide) ?_
          refine lv_icmp_ge (tgt := 31) hx hb dX2_size_6 (by decide) (fun _ => ?_) (fun h9 => absurd (by decide) h9)
          refine lv_iload_n hx hb dX2_size_31 rfl (lv_at hl 1 rfl) ?_
          exact gs_iret hx hb hr hlocks hM hS rfl ⟨gN.rf, trivial⟩ (by exact Nat.le_refl _) (by exact Nat.le_refl _) dX2_size_32
        · skip
          refine lv_if_eq (tgt := 22) hx hb dX2_size_15 (by decide) (fun _ => ?_) (fun h9 => absurd (by decide) h9)
          refine lv_iconst (v := 0) hx hb dX2_size_22 (by decide) ?_
          refine lv_iadd hx hb dX2_size_23 ?_
          refine lv_topi (fun x_13 ex_13 => ?_)
          obtain rfl : x_13 = (2 : Int32) := ex_13.trans (by decide)
          refine lv_istore_n (lv' := [(1, .int 2), (2, .int 3), (0, .ref (ad 19 0))]) hx hb dX2_size_24 rfl hl (by decide) rfl (fun ls hl => ?_)
          refine lv_iinc (v := (4)) (lv' := [(2, .int 4), (1, .int 2), (0, .ref (ad 19 0))]) hx hb dX2_size_25 hl (k := 1) rfl (by decide) (by decide) rfl (fun ls hl => ?_)
          refine lv_goto (tgt := 4) hx hb dX2_size_28 (by decide) ?_
          refine lv_iload_n hx hb dX2_size_4 rfl (lv_at hl 0 rfl) ?_
          refine lv_iconst (v := 4) hx hb dX2_size_5 (by decide) ?_
          refine lv_icmp_ge (tgt := 31) hx hb dX2_size_6 (by decide) (fun _ => ?_) (fun h9 => absurd (by decide) h9)
          refine lv_iload_n hx hb dX2_size_31 rfl (lv_at hl 1 rfl) ?_
          exact gs_iret hx hb hr hlocks hM hS rfl ⟨gN.rf, trivial⟩ (by exact Nat.le_refl _) (by exact Nat.le_refl _) dX2_size_32
    · skip
      refine lv_if_eq (tgt := 22) hx hb dX2_size_15 (by decide) (fun _ => ?_) (fun h9 => absurd (by decide) h9)
      refine lv_iconst (v := 0) hx hb dX2_size_22 (by decide) ?_
      refine lv_iadd hx hb dX2_size_23 ?_
      refine lv_topi (fun x_14 ex_14 => ?_)
      obtain rfl : x_14 = (1 : Int32) := ex_14.trans (by decide)
      refine lv_istore_n (lv' := [(1, .int 1), (2, .int 1), (0, .ref (ad 19 0))]) hx hb dX2_size_24 rfl hl (by decide) rfl (fun ls hl => ?_)
      refine lv_iinc (v := (2)) (lv' := [(2, .int 2), (1, .int 1), (0, .ref (ad 19 0))]) hx hb dX2_size_25 hl (k := 1) rfl (by decide) (by decide) rfl (fun ls hl => ?_)
      refine lv_goto (tgt := 4) hx hb dX2_size_28 (by decide) ?_
      refine lv_iload_n hx hb dX2_size_4 rfl (lv_at hl 0 rfl) ?_
      refine lv_iconst (v := 4) hx hb dX2_size_5 (by decide) ?_
      refine lv_icmp_ge (tgt := 31) hx hb dX2_size_6 (by decide) (fun h9 => absurd h9 (by decide)) (fun _ => ?_)
      refine lv_iload_n hx hb dX2_size_9 rfl (lv_at hl 1 rfl) ?_
      refine lv_aload_n hx hb dX2_size_10 rfl (lv_at hl 2 rfl) ?_
      refine lv_iload_n hx hb dX2_size_11 rfl (lv_at hl 0 rfl) ?_
      refine gs_calli (va_runV (As := [.int 2]) (rest := [.int 1]) ⟨hx, hb, hml, hown, hts⟩ (s_X2_isThere l G cy sK sV ad H.size st (2 : Int32) 2 (by decide) (by first | decide | omega) (by first | decide | omega)) ⟨(gz_cb (n := 1) hts gm_738 gm_9 gm_707 ⟨by decide +kernel, by decide +kernel, by decide +kernel⟩ ⟨Nat.le_of_ble_eq_true rfl, Nat.le_of_ble_eq_true rfl⟩), hts _ gm_705, hts _ gm_706⟩ (gs_preV hK hov hE hI hM hm hS hA 19 0 (by decide) rfl rfl) rfl rfl hl.1 rfl (lv_room (Nat.le_of_ble_eq_true rfl)) dX2_size_12 ⟨Nat.le_of_ble_eq_true rfl, Nat.le_of_ble_eq_true rfl⟩) hm hS hA (fun r_15 st_15 H locs hw_15 hM hS => ?_)
      obtain ⟨n_15, hw_15⟩ := hw_15
      have n_15 := gN0 n_15
      subst n_15
      rcases hw_15 with ⟨rfl, hw_15_0⟩ | ⟨rfl, hw_15_0⟩
      · skip
        refine lv_if_eq (tgt := 22) hx hb dX2_size_15 (by decide) (fun h9 => absurd h9 (by decide)) (fun _ => ?_)
        refine lv_iconst (v := 1) hx hb dX2_size_18 (by decide) ?_
        refine lv_goto (tgt := 23) hx hb dX2_size_19 (by decide) ?_
        refine lv_iadd hx hb dX2_size_23 ?_
        refine lv_topi (fun x_16 ex_16 => ?_)
        obtain rfl : x_16 = (2 : Int32) := ex_16.trans (by decide)
        refine lv_istore_n (lv' := [(1, .int 2), (2, .int 2), (0, .ref (ad 19 0))]) hx hb dX2_size_24 rfl hl (by decide) rfl (fun ls hl => ?_)
        refine lv_iinc (v := (3)) (lv' := [(2, .int 3), (1, .int 2), (0, .ref (ad 19 0))]) hx hb dX2_size_25 hl (k := 1) rfl (by decide) (by decide) rfl (fun ls hl => ?_)
        refine lv_goto (tgt := 4) hx hb dX2_size_28 (by decide) ?_
        refine lv_iload_n hx hb dX2_size_4 rfl (lv_at hl 0 rfl) ?_
        refine lv_iconst (v := 4) hx hb dX2_size_5 (by decide) ?_
        refine lv_icmp_ge (tgt := 31) hx hb dX2_size_6 (by decide) (fun h9 => absurd h9 (by decide)) (fun _ => ?_)
        refine lv_iload_n hx hb dX2_size_9 rfl (lv_at hl 1 rfl) ?_
        refine lv_aload_n hx hb dX2_size_10 rfl (lv_at hl 2 rfl) ?_
        refine lv_iload_n hx hb dX2_size_11 rfl (lv_at hl 0 rfl) ?_
        refine gs_calli (va_runV (As := [.int 3]) (rest := [.int 2]) ⟨hx, hb, hml, hown, hts⟩ (s_X2_isThere l G cy sK sV ad H.size st (3 : Int32) 3 (by decide) (by first | decide | omega) (by first | decide | omega)) ⟨(gz_cb (n := 1) hts gm_738 gm_9 gm_707 ⟨by decide +kernel, by decide +kernel, by decide +kernel⟩ ⟨Nat.le_of_ble_eq_true rfl, Nat.le_of_ble_eq_true rfl⟩), hts _ gm_705, hts _ gm_706⟩ (gs_preV hK hov hE hI hM hm hS hA 19 0 (by decide) rfl rfl) rfl rfl hl.1 rfl (lv_room (Nat.le_of_ble_eq_true rfl)) dX2_size_12 ⟨Nat.le_of_ble_eq_true rfl, Nat.le_of_ble_eq_true rfl⟩) hm hS hA (fun r_17 st_17 H locs hw_17 hM hS => ?_)
        obtain ⟨n_17, hw_17⟩ := hw_17
        have n_17 := gN0 n_17
        subst n_17
        rcases hw_17 with ⟨rfl, hw_17_0⟩ | ⟨rfl, hw_17_0⟩
        · skip
          refine lv_if_eq (tgt := 22) hx hb dX2_size_15 (by decide) (fun h9 => absurd h9 (by decide)) (fun _ => ?_)
          refine lv_iconst (v := 1) hx hb dX2_size_18 (by decide) ?_
          refine lv_goto (tgt := 23) hx hb dX2_size_19 (by decide) ?_
          refine lv_iadd hx hb dX2_size_23 ?_
          refine lv_topi (fun x_18 ex_18 => ?_)
          obtain rfl : x_18 = (3 : Int32) := ex_18.trans (by decide)
          refine lv_istore_n (lv' := [(1, .int 3), (2, .int 3), (0, .ref (ad 19 0))]) hx hb dX2_size_24 rfl hl (by decide) rfl (fun ls hl => ?_)
          refine lv_iinc (v := (4)) (lv' := [(2, .int 4), (1, .int 3), (0, .ref (ad 19 0))]) hx hb dX2_size_25 hl (k := 1) rfl (by decide) (by decide) rfl (fun ls hl => ?_)
          refine lv_goto (tgt := 4) hx hb dX2_size_28 (by decide) ?_
          refine lv_iload_n hx hb dX2_size_4 rfl (lv_at hl 0 rfl) ?_
          refine lv_iconst (v := 4) hx hb dX2_size_5 (by decide) ?_
          refine lv_icmp_ge (tgt := 31) hx hb dX2_size_6 (by decide) (fun _ => ?_) (fun h9 => absurd (by decide) h9)
          refine lv_iload_n hx hb dX2_size_31 rfl (lv_at hl 1 rfl) ?_
          exact gs_iret hx hb hr hlocks hM hS rfl ⟨gN.rf, trivial⟩ (by exact Nat.le_refl _) (by exact Nat.le_refl _) dX2_size_32
        · skip
          refine lv_if_eq (tgt := 22) hx hb dX2_size_15 (by decide) (fun _ => ?_) (fun h9 => absurd (by decide) h9)
          refine lv_iconst (v := 0) hx hb dX2_size_22 (by decide) ?_
          refine lv_iadd hx hb dX2_size_23 ?_
          refine lv_topi (fun x_19 ex_19 => ?_)
          obtain rfl : x_19 = (2 : Int32) := ex_19.trans (by decide)
          refine lv_istore_n (lv' := [(1, .int 2), (2, .int 3), (0, .ref (ad 19 0))]) hx hb dX2_size_24 rfl hl (by decide) rfl (fun ls hl => ?_)
          refine lv_iinc (v := (4)) (lv' := [(2, .int 4), (1, .int 2), (0, .ref (ad 19 0))]) hx hb dX2_size_25 hl (k := 1) rfl (by decide) (by decide) rfl (fun ls hl => ?_)
          refine lv_goto (tgt := 4) hx hb dX2_size_28 (by decide) ?_
          refine lv_iload_n hx hb dX2_size_4 rfl (lv_at hl 0 rfl) ?_
          refine lv_iconst (v := 4) hx hb dX2_size_5 (by decide) ?_
          refine lv_icmp_ge (tgt := 31) hx hb dX2_size_6 (by decide) (fun _ => ?_) (fun h9 => absurd (by decide) h9)
          refine lv_iload_n hx hb dX2_size_31 rfl (lv_at hl 1 rfl) ?_
          exact gs_iret hx hb hr hlocks hM hS rfl ⟨gN.rf, trivial⟩ (by exact Nat.le_refl _) (by exact Nat.le_refl _) dX2_size_32
      · skip
        refine lv_if_eq (tgt := 22) hx hb dX2_size_15 (by decide) (fun _ => ?_) (fun h9 => absurd (by decide) h9)
        refine lv_iconst (v := 0) hx hb dX2_size_22 (by decide) ?_
        refine lv_iadd hx hb dX2_size_23 ?_
        refine lv_topi (fun x_20 ex_20 => ?_)
        obtain rfl : x_20 = (1 : Int32) := ex_20.trans (by decide)
        refine lv_istore_n (lv' := [(1, .int 1), (2, .int 2), (0, .ref (ad 19 0))]) hx hb dX2_size_24 rfl hl (by decide) rfl (fun ls hl => ?_)
        refine lv_iinc (v := (3)) (lv' := [(2, .int 3), (1, .int 1), (0, .ref (ad 19 0))]) hx hb dX2_size_25 hl (k := 1) rfl (by decide) (by decide) rfl (fun ls hl => ?_)
        refine lv_goto (tgt := 4) hx hb dX2_size_28 (by decide) ?_
        refine lv_iload_n hx hb dX2_size_4 rfl (lv_at hl 0 rfl) ?_
        refine lv_iconst (v := 4) hx hb dX2_size_5 (by decide) ?_
        refine lv_icmp_ge (tgt := 31) hx hb dX2_size_6 (by decide) (fun h9 => absurd h9 (by decide)) (fun _ => ?_)
        refine lv_iload_n hx hb dX2_size_9 rfl (lv_at hl 1 rfl) ?_
        refine lv_aload_n hx hb dX2_size_10 rfl (lv_at hl 2 rfl) ?_
        refine lv_iload_n hx hb dX2_size_11 rfl (lv_at hl 0 rfl) ?_
        refine gs_calli (va_runV (As := [.int 3]) (rest := [.int 1]) ⟨hx, hb, hml, hown, hts⟩ (s_X2_isThere l G cy sK sV ad H.size st (3 : Int32) 3 (by decide) (by first | decide | omega) (by first | decide | omega)) ⟨(gz_cb (n := 1) hts gm_738 gm_9 gm_707 ⟨by decide +kernel, by decide +kernel, by decide +kernel⟩ ⟨Nat.le_of_ble_eq_true rfl, Nat.le_of_ble_eq_true rfl⟩), hts _ gm_705, hts _ gm_706⟩ (gs_preV hK hov hE hI hM hm hS hA 19 0 (by decide) rfl rfl) rfl rfl hl.1 rfl (lv_room (Nat.le_of_ble_eq_true rfl)) dX2_size_12 ⟨Nat.le_of_ble_eq_true rfl, Nat.le_of_ble_eq_true rfl⟩) hm hS hA (fun r_21 st_21 H locs hw_21 hM hS => ?_)
        obtain ⟨n_21, hw_21⟩ := hw_21
        have n_21 := gN0 n_21
        subst n_21
        rcases hw_21 with ⟨rfl, hw_21_0⟩ | ⟨rfl, hw_21_0⟩
        · skip
          refine lv_if_eq (tgt := 22) hx hb dX2_size_15 (by decide) (fun h9 => absurd h9 (by decide)) (fun _ => ?_)
          refine lv_iconst (v := 1) hx hb dX2_size_18 (by decide) ?_
          refine lv_goto (tgt := 23) hx hb dX2_size_19 (by decide) ?_
          refine lv_iadd hx hb dX2_size_23 ?_
          refine lv_topi (fun x_22 ex_22 => ?_)
          obtain rfl : x_22 = (2 : Int32) := ex_22.trans (by decide)
          refine lv_istore_n (lv' := [(1, .int 2), (2, .int 3), (0, .ref (ad 19 0))]) hx hb dX2_size_24 rfl hl (by decide) rfl (fun ls hl => ?_)
          refine lv_iinc (v := (4)) (lv' := [(2, .int 4), (1, .int 2), (0, .ref (ad 19 0))]) hx hb dX2_size_25 hl (k := 1) rfl (by decide) (by decide) rfl (fun ls hl => ?_)
          refine lv_goto (tgt := 4) hx hb dX2_size_28 (by decide) ?_
          refine lv_iload_n hx hb dX2_size_4 rfl (lv_at hl 0 rfl) ?_
          refine lv_iconst (v := 4) hx hb dX2_size_5 (by decide) ?_
          refine lv_icmp_ge (tgt := 31) hx hb dX2_size_6 (by decide) (fun _ => ?_) (fun h9 => absurd (by decide) h9)
          refine lv_iload_n hx hb dX2_size_31 rfl (lv_at hl 1 rfl) ?_
          exact gs_iret hx hb hr hlocks hM hS rfl ⟨gN.rf, trivial⟩ (by exact Nat.le_refl _) (by exact Nat.le_refl _) dX2_size_32
        · skip
          refine lv_if_eq (tgt := 22) hx hb dX2_size_15 (by decide) (fun _ => ?_) (fun h9 => absurd (by decide) h9)
          refine lv_iconst (v := 0) hx hb dX2_size_22 (by decide) ?_
          refine lv_iadd hx hb dX2_size_23 ?_
          refine lv_topi (fun x_23 ex_23 => ?_)
          obtain rfl : x_23 = (1 : Int32) := ex_23.trans (by decide)
          refine lv_istore_n (lv' := [(1, .int 1), (2, .int 3), (0, .ref (ad 19 0))]) hx hb dX2_size_24 rfl hl (by decide) rfl (fun ls hl => ?_)
          refine lv_iinc (v := (4)) (lv' := [(2, .int 4), (1, .int 1), (0, .ref (ad 19 0))]) hx hb dX2_size_25 hl (k := 1) rfl (by decide) (by decide) rfl (fun ls hl => ?_)
          refine lv_goto (tgt := 4) hx hb dX2_size_28 (by decide) ?_
          refine lv_iload_n hx hb dX2_size_4 rfl (lv_at hl 0 rfl) ?_
          refine lv_iconst (v := 4) hx hb dX2_size_5 (by decide) ?_
          refine lv_icmp_ge (tgt := 31) hx hb dX2_size_6 (by decide) (fun _ => ?_) (fun h9 => absurd (by decide) h9)
          refine lv_iload_n hx hb dX2_size_31 rfl (lv_at hl 1 rfl) ?_
          exact gs_iret hx hb hr hlocks hM hS rfl ⟨gN.rf, trivial⟩ (by exact Nat.le_refl _) (by exact Nat.le_refl _) dX2_size_32
  · skip
    refine lv_if_eq (tgt := 22) hx hb dX2_size_15 (by decide) (fun _ => ?_) (fun h9 => absurd (by decide) h9)
    refine lv_iconst (v := 0) hx hb dX2_size_22 (by decide) ?_
    refine lv_iadd hx hb dX2_size_23 ?_
    refine lv_topi (fun x_24 ex_24 => ?_)
    obtain rfl : x_24 = (0 : Int32) := ex_24.trans (by decide)
    refine lv_istore_n (lv' := [(1, .int 0), (2, .int 0), (0, .ref (ad 19 0))]) hx hb dX2_size_24 rfl hl (by decide) rfl (fun ls hl => ?_)
    refine lv_iinc (v := (1)) (lv' := [(2, .int 1), (1, .int 0), (0, .ref (ad 19 0))]) hx hb dX2_size_25 hl (k := 1) rfl (by decide) (by decide) rfl (fun ls hl => ?_)
    refine lv_goto (tgt := 4) hx hb dX2_size_28 (by decide) ?_
    refine lv_iload_n hx hb dX2_size_4 rfl (lv_at hl 0 rfl) ?_
    refine lv_iconst (v := 4) hx hb dX2_size_5 (by decide) ?_
    refine lv_icmp_ge (tgt := 31) hx hb dX2_size_6 (by decide) (fun h9 => absurd h9 (by decide)) (fun _ => ?_)
    refine lv_iload_n hx hb dX2_size_9 rfl (lv_at hl 1 rfl) ?_
    refine lv_aload_n hx hb dX2_size_10 rfl (lv_at hl 2 rfl) ?_
    refine lv_iload_n hx hb dX2_size_11 rfl (lv_at hl 0 rfl) ?_
    refine gs_calli (va_runV (As := [.int 1]) (rest := [.int 0]) ⟨hx, hb, hml, hown, hts⟩ (s_X2_isThere l G cy sK sV ad H.size st (1 : Int32) 1 (by decide) (by first | decide | omega) (by first | decide | omega)) ⟨(gz_cb (n := 1) hts gm_738 gm_9 gm_707 ⟨by decide +kernel, by decide +kernel, by decide +kernel⟩ ⟨Nat.le_of_ble_eq_true rfl, Nat.le_of_ble_eq_true rfl⟩), hts _ gm_705, hts _ gm_706⟩ (gs_preV hK hov hE hI hM hm hS hA 19 0 (by decide) rfl rfl) rfl rfl hl.1 rfl (lv_room (Nat.le_of_ble_eq_true rfl)) dX2_size_12 ⟨Nat.le_of_ble_eq_true rfl, Nat.le_of_ble_eq_true rfl⟩) hm hS hA (fun r_25 st_25 H locs hw_25 hM hS => ?_)
    obtain ⟨n_25, hw_25⟩ := hw_25
    have n_25 := gN0 n_25
    subst n_25
    rcases hw_25 with ⟨rfl, hw_25_0⟩ | ⟨rfl, hw_25_0⟩
    · skip
      refine lv_if_eq (tgt := 22) hx hb dX2_size_15 (by decide) (fun h9 => absurd h9 (by decide)) (fun _ => ?_)
      refine lv_iconst (v := 1) hx hb dX2_size_18 (by decide) ?_
      refine lv_goto (tgt := 23) hx hb dX2_size_19 (by decide) ?_
      refine lv_iadd hx hb dX2_size_23 ?_
      refine lv_topi (fun x_26 ex_26 => ?_)
      obtain rfl : x_26 = (1 : Int32) := ex_26.trans (by decide)
      refine lv_istore_n (lv' := [(1, .int 1), (2, .int 1), (0, .ref (ad 19 0))]) hx hb dX2_size_24 rfl hl (by decide) rfl (fun ls hl => ?_)
      refine lv_iinc (v := (2)) (lv' := [(2, .int 2), (1, .int 1), (0, .ref (ad 19 0))]) hx hb dX2_size_25 hl (k := 1) rfl (by decide) (by decide) rfl (fun ls hl => ?_)
      refine lv_goto (tgt := 4) hx hb dX2_size_28 (by decide) ?_
      refine lv_iload_n hx hb dX2_size_4 rfl (lv_at hl 0 rfl) ?_
      refine lv_iconst (v := 4) hx hb dX2_size_5 (by decide) ?_
      refine lv_icmp_ge (tgt := 31) hx hb dX2_size_6 (by decide) (fun h9 => absurd h9 (by decide)) (fun _ => ?_)
      refine lv_iload_n hx hb dX2_size_9 rfl (lv_at hl 1 rfl) ?_
      refine lv_aload_n hx hb dX2_size_10 rfl (lv_at hl 2 rfl) ?_
      refine lv_iload_n hx hb dX2_size_11 rfl (lv_at hl 0 rfl) ?_
      refine gs_calli (va_runV (As := [.int 2]) (rest := [.int 1]) ⟨hx, hb, hml, hown, hts⟩ (s_X2_isThere l G cy sK sV ad H.size st (2 : Int32) 2 (by decide) (by first | decide | omega) (by first | decide | omega)) ⟨(gz_cb (n := 1) hts gm_738 gm_9 gm_707 ⟨by decide +kernel, by decide +kernel, by decide +kernel⟩ ⟨Nat.le_of_ble_eq_true rfl, Nat.le_of_ble_eq_true rfl⟩), hts _ gm_705, hts _ gm_706⟩ (gs_preV hK hov hE hI hM hm hS hA 19 0 (by decide) rfl rfl) rfl rfl hl.1 rfl (lv_room (Nat.le_of_ble_eq_true rfl)) dX2_size_12 ⟨Nat.le_of_ble_eq_true rfl, Nat.le_of_ble_eq_true rfl⟩) hm hS hA (fun r_27 st_27 H locs hw_27 hM hS => ?_)
      obtain ⟨n_27, hw_27⟩ := hw_27
      have n_27 := gN0 n_27
      subst n_27
      rcases hw_27 with ⟨rfl, hw_27_0⟩ | ⟨rfl, hw_27_0⟩
      · skip
        refine lv_if_eq (tgt := 22) hx hb dX2_size_15 (by decide) (fun h9 => absurd h9 (by decide)) (fun _ => ?_)
        refine lv_iconst (v := 1) hx hb dX2_size_18 (by decide) ?_
        refine lv_goto (tgt := 23) hx hb dX2_size_19 (by decide) ?_
        refine lv_iadd hx hb dX2_size_23 ?_
        refine lv_topi (fun x_28 ex_28 => ?_)
        obtain rfl : x_28 = (2 : Int32) := ex_28.trans (by decide)
        refine lv_istore_n (lv' := [(1, .int 2), (2, .int 2), (0, .ref (ad 19 0))]) hx hb dX2_size_24 rfl hl (by decide) rfl (fun ls hl => ?_)
        refine lv_iinc (v := (3)) (lv' := [(2, .int 3), (1, .int 2), (0, .ref (ad 19 0))]) hx hb dX2_size_25 hl (k := 1) rfl (by decide) (by decide) rfl (fun ls hl => ?_)
        refine lv_goto (tgt := 4) hx hb dX2_size_28 (by decide) ?_
        refine lv_iload_n hx hb dX2_size_4 rfl (lv_at hl 0 rfl) ?_
        refine lv_iconst (v := 4) hx hb dX2_size_5 (by decide) ?_
        refine lv_icmp_ge (tgt := 31) hx hb dX2_size_6 (by decide) (fun h9 => absurd h9 (by decide)) (fun _ => ?_)
        refine lv_iload_n hx hb dX2_size_9 rfl (lv_at hl 1 rfl) ?_
        refine lv_aload_n hx hb dX2_size_10 rfl (lv_at hl 2 rfl) ?_
        refine lv_iload_n hx hb dX2_size_11 rfl (lv_at hl 0 rfl) ?_
        refine gs_calli (va_runV (As := [.int 3]) (rest := [.int 2]) ⟨hx, hb, hml, hown, hts⟩ (s_X2_isThere l G cy sK sV ad H.size st (3 : Int32) 3 (by decide) (by first | decide | omega) (by first | decide | omega)) ⟨(gz_cb (n := 1) hts gm_738 gm_9 gm_707 ⟨by decide +kernel, by decide +kernel, by decide +kernel⟩ ⟨Nat.le_of_ble_eq_true rfl, Nat.le_of_ble_eq_true rfl⟩), hts _ gm_705, hts _ gm_706⟩ (gs_preV hK hov hE hI hM hm hS hA 19 0 (by decide) rfl rfl) rfl rfl hl.1 rfl (lv_room (Nat.le_of_ble_eq_true rfl)) dX2_size_12 ⟨Nat.le_of_ble_eq_true rfl, Nat.le_of_ble_eq_true rfl⟩) hm hS hA (fun r_29 st_29 H locs hw_29 hM hS => ?_)
        obtain ⟨n_29, hw_29⟩ := hw_29
        have n_29 := gN0 n_29
        subst n_29
        rcases hw_29 with ⟨rfl, hw_29_0⟩ | ⟨rfl, hw_29_0⟩
        · skip
          refine lv_if_eq (tgt := 22) hx hb dX2_size_15 (by decide) (fun h9 => absurd h9 (by decide)) (fun _ => ?_)
          refine lv_iconst (v := 1) hx hb dX2_size_18 (by decide) ?_
          refine lv_goto (tgt := 23) hx hb dX2_size_19 (by decide) ?_
          refine lv_iadd hx hb dX2_size_23 ?_
          refine lv_topi (fun x_30 ex_30 => ?_)
          obtain rfl : x_30 = (3 : Int32) := ex_30.trans (by decide)
          refine lv_istore_n (lv' := [(1, .int 3), (2, .int 3), (0, .ref (ad 19 0))]) hx hb dX2_size_24 rfl hl (by decide) rfl (fun ls hl => ?_)
          refine lv_iinc (v := (4)) (lv' := [(2, .int 4), (1, .int 3), (0, .ref (ad 19 0))]) hx hb dX2_size_25 hl (k := 1) rfl (by decide) (by decide) rfl (fun ls hl => ?_)
          refine lv_goto (tgt := 4) hx hb dX2_size_28 (by decide) ?_
          refine lv_iload_n hx hb dX2_size_4 rfl (lv_at hl 0 rfl) ?_
          refine lv_iconst (v := 4) hx hb dX2_size_5 (by decide) ?_
          refine lv_icmp_ge (tgt := 31) hx hb dX2_size_6 (by decide) (fun _ => ?_) (fun h9 => absurd (by decide) h9)
          refine lv_iload_n hx hb dX2_size_31 rfl (lv_at hl 1 rfl) ?_
          exact gs_iret hx hb hr hlocks hM hS rfl ⟨gN.rf, trivial⟩ (by exact Nat.le_refl _) (by exact Nat.le_refl _) dX2_size_32
        · skip
          refine lv_if_eq (tgt := 22) hx hb dX2_size_15 (by decide) (fun _ => ?_) (fun h9 => absurd (by decide) h9)
          refine lv_iconst (v := 0) hx hb dX2_size_22 (by decide) ?_
          refine lv_iadd hx hb dX2_size_23 ?_
          refine lv_topi (fun x_31 ex_31 => ?_)
          obtain rfl : x_31 = (2 : Int32) := ex_31.trans (by decide)
          refine lv_istore_n (lv' := [(1, .int 2), (2, .int 3), (0, .ref (ad 19 0))]) hx hb dX2_size_24 rfl hl (by decide) rfl (fun ls hl => ?_)
          refine lv_iinc (v := (4)) (lv' := [(2, .int 4), (1, .int 2), (0, .ref (ad 19 0))]) hx hb dX2_size_25 hl (k := 1) rfl (by decide) (by decide) rfl (fun ls hl => ?_)
          refine lv_goto (tgt := 4) hx hb dX2_size_28 (by decide) ?_
          refine lv_iload_n hx hb dX2_size_4 rfl (lv_at hl 0 rfl) ?_
          refine lv_iconst (v := 4) hx hb dX2_size_5 (by decide) ?_
          refine lv_icmp_ge (tgt := 31) hx hb dX2_size_6 (by decide) (fun _ => ?_) (fun h9 => absurd (by decide) h9)
          refine lv_iload_n hx hb dX2_size_31 rfl (lv_at hl 1 rfl) ?_
          exact gs_iret hx hb hr hlocks hM hS rfl ⟨gN.rf, trivial⟩ (by exact Nat.le_refl _) (by exact Nat.le_refl _) dX2_size_32
      · skip
        refine lv_if_eq (tgt := 22) hx hb dX2_size_15 (by decide) (fun _ => ?_) (fun h9 => absurd (by decide) h9)
        refine lv_iconst (v := 0) hx hb dX2_size_22 (by decide) ?_
        refine lv_iadd hx hb dX2_size_23 ?_
        refine lv_topi (fun x_32 ex_32 => ?_)
        obtain rfl : x_32 = (1 : Int32) := ex_32.trans (by decide)
        refine lv_istore_n (lv' := [(1, .int 1), (2, .int 2), (0, .ref (ad 19 0))]) hx hb dX2_size_24 rfl hl (by decide) rfl (fun ls hl => ?_)
        refine lv_iinc (v := (3)) (lv' := [(2, .int 3), (1, .int 1), (0, .ref (ad 19 0))]) hx hb dX2_size_25 hl (k := 1) rfl (by decide) (by decide) rfl (fun ls hl => ?_)
        refine lv_goto (tgt := 4) hx hb dX2_size_28 (by decide) ?_
        refine lv_iload_n hx hb dX2_size_4 rfl (lv_at hl 0 rfl) ?_
        refine lv_iconst (v := 4) hx hb dX2_size_5 (by decide) ?_
        refine lv_icmp_ge (tgt := 31) hx hb dX2_size_6 (by decide) (fun h9 => absurd h9 (by decide)) (fun _ => ?_)
        refine lv_iload_n hx hb dX2_size_9 rfl (lv_at hl 1 rfl) ?_
        refine lv_aload_n hx hb dX2_size_10 rfl (lv_at hl 2 rfl) ?_
        refine lv_iload_n hx hb dX2_size_11 rfl (lv_at hl 0 rfl) ?_
        refine gs_calli (va_runV (As := [.int 3]) (rest := [.int 1]) ⟨hx, hb, hml, hown, hts⟩ (s_X2_isThere l G cy sK sV ad H.size st (3 : Int32) 3 (by decide) (by first | decide | omega) (by first | decide | omega)) ⟨(gz_cb (n := 1) hts gm_738 gm_9 gm_707 ⟨by decide +kernel, by decide +kernel, by decide +kernel⟩ ⟨Nat.le_of_ble_eq_true rfl, Nat.le_of_ble_eq_true rfl⟩), hts _ gm_705, hts _ gm_706⟩ (gs_preV hK hov hE hI hM hm hS hA 19 0 (by decide) rfl rfl) rfl rfl hl.1 rfl (lv_room (Nat.le_of_ble_eq_true rfl)) dX2_size_12 ⟨Nat.le_of_ble_eq_true rfl, Nat.le_of_ble_eq_true rfl⟩) hm hS hA (fun r_33 st_33 H locs hw_33 hM hS => ?_)
        obtain ⟨n_33, hw_33⟩ := hw_33
        have n_33 := gN0 n_33
        subst n_33
        rcases hw_33 with ⟨rfl, hw_33_0⟩ | ⟨rfl, hw_33_0⟩
        · skip
          refine lv_if_eq (tgt := 22) hx hb dX2_size_15 (by decide) (fun h9 => absurd h9 (by decide)) (fun _ => ?_)
          refine lv_iconst (v := 1) hx hb dX2_size_18 (by decide) ?_
          refine lv_goto (tgt := 23) hx hb dX2_size_19 (by decide) ?_
          refine lv_iadd hx hb dX2_size_23 ?_
          refine lv_topi (fun x_34 ex_34 => ?_)
          obtain rfl : x_34 = (2 : Int32) := ex_34.trans (by decide)
          refine lv_istore_n (lv' := [(1, .int 2), (2, .int 3), (0, .ref (ad 19 0))]) hx hb dX2_size_24 rfl hl (by decide) rfl (fun ls hl => ?_)
          refine lv_iinc (v := (4)) (lv' := [(2, .int 4), (1, .int 2), (0, .ref (ad 19 0))]) hx hb dX2_size_25 hl (k := 1) rfl (by decide) (by decide) rfl (fun ls hl => ?_)
          refine lv_goto (tgt := 4) hx hb dX2_size_28 (by decide) ?_
          refine lv_iload_n hx hb dX2_size_4 rfl (lv_at hl 0 rfl) ?_
          refine lv_iconst (v := 4) hx hb dX2_size_5 (by decide) ?_
          refine lv_icmp_ge (tgt := 31) hx hb dX2_size_6 (by decide) (fun _ => ?_) (fun h9 => absurd (by decide) h9)
          refine lv_iload_n hx hb dX2_size_31 rfl (lv_at hl 1 rfl) ?_
          exact gs_iret hx hb hr hlocks hM hS rfl ⟨gN.rf, trivial⟩ (by exact Nat.le_refl _) (by exact Nat.le_refl _) dX2_size_32
        · skip
          refine lv_if_eq (tgt := 22) hx hb dX2_size_15 (by decide) (fun _ => ?_) (fun h9 => absurd (by decide) h9)
          refine lv_iconst (v := 0) hx hb dX2_size_22 (by decide) ?_
          refine lv_iadd hx hb dX2_size_23 ?_
          refine lv_topi (fun x_35 ex_35 => ?_)
          obtain rfl : x_35 = (1 : Int32) := ex_35.trans (by decide)
          refine lv_istore_n (lv' := [(1, .int 1), (2, .int 3), (0, .ref (ad 19 0))]) hx hb dX2_size_24 rfl hl (by decide) rfl (fun ls hl => ?_)
          refine lv_iinc (v := (4)) (lv' := [(2, .int 4), (1, .int 1), (0, .ref (ad 19 0))]) hx hb dX2_size_25 hl (k := 1) rfl (by decide) (by decide) rfl (fun ls hl => ?_)
          refine lv_goto (tgt := 4) hx hb dX2_size_28 (by decide) ?_
          refine lv_iload_n hx hb dX2_size_4 rfl (lv_at hl 0 rfl) ?_
          refine lv_iconst (v := 4) hx hb dX2_size_5 (by decide) ?_
          refine lv_icmp_ge (tgt := 31) hx hb dX2_size_6 (by decide) (fun _ => ?_) (fun h9 => absurd (by decide) h9)
          refine lv_iload_n hx hb dX2_size_31 rfl (lv_at hl 1 rfl) ?_
          exact gs_iret hx hb hr hlocks hM hS rfl ⟨gN.rf, trivial⟩ (by exact Nat.le_refl _) (by exact Nat.le_refl _) dX2_size_32
    · skip
      refine lv_if_eq (tgt := 22) hx hb dX2_size_15 (by decide) (fun _ => ?_) (fun h9 => absurd (by decide) h9)
      refine lv_iconst (v := 0) hx hb dX2_size_22 (by decide) ?_
      refine lv_iadd hx hb dX2_size_23 ?_
      refine lv_topi (fun x_36 ex_36 => ?_)
      obtain rfl : x_36 = (0 : Int32) := ex_36.trans (by decide)
      refine lv_istore_n (lv' := [(1, .int 0), (2, .int 1), (0, .ref (ad 19 0))]) hx hb dX2_size_24 rfl hl (by decide) rfl (fun ls hl => ?_)
      refine lv_iinc (v := (2)) (lv' := [(2, .int 2), (1, .int 0), (0, .ref (ad 19 0))]) hx hb dX2_size_25 hl (k := 1) rfl (by decide) (by decide) rfl (fun ls hl => ?_)
      refine lv_goto (tgt := 4) hx hb dX2_size_28 (by decide) ?_
      refine lv_iload_n hx hb dX2_size_4 rfl (lv_at hl 0 rfl) ?_
      refine lv_iconst (v := 4) hx hb dX2_size_5 (by decide) ?_
      refine lv_icmp_ge (tgt := 31) hx hb dX2_size_6 (by decide) (fun h9 => absurd h9 (by decide)) (fun _ => ?_)
      refine lv_iload_n hx hb dX2_size_9 rfl (lv_at hl 1 rfl) ?_
      refine lv_aload_n hx hb dX2_size_10 rfl (lv_at hl 2 rfl) ?_
      refine lv_iload_n hx hb dX2_size_11 rfl (lv_at hl 0 rfl) ?_
      refine gs_calli (va_runV (As := [.int 2]) (rest := [.int 0]) ⟨hx, hb, hml, hown, hts⟩ (s_X2_isThere l G cy sK sV ad H.size st (2 : Int32) 2 (by decide) (by first | decide | omega) (by first | decide | omega)) ⟨(gz_cb (n := 1) hts gm_738 gm_9 gm_707 ⟨by decide +kernel, by decide +kernel, by decide +kernel⟩ ⟨Nat.le_of_ble_eq_true rfl, Nat.le_of_ble_eq_true rfl⟩), hts _ gm_705, hts _ gm_706⟩ (gs_preV hK hov hE hI hM hm hS hA 19 0 (by decide) rfl rfl) rfl rfl hl.1 rfl (lv_room (Nat.le_of_ble_eq_true rfl)) dX2_size_12 ⟨Nat.le_of_ble_eq_true rfl, Nat.le_of_ble_eq_true rfl⟩) hm hS hA (fun r_37 st_37 H locs hw_37 hM hS => ?_)
      obtain ⟨n_37, hw_37⟩ := hw_37
      have n_37 := gN0 n_37
      subst n_37
      rcases hw_37 with ⟨rfl, hw_37_0⟩ | ⟨rfl, hw_37_0⟩
      · skip
        refine lv_if_eq (tgt := 22) hx hb dX2_size_15 (by decide) (fun h9 => absurd h9 (by decide)) (fun _ => ?_)
        refine lv_iconst (v := 1) hx hb dX2_size_18 (by decide) ?_
        refine lv_goto (tgt := 23) hx hb dX2_size_19 (by decide) ?_
        refine lv_iadd hx hb dX2_size_23 ?_
        refine lv_topi (fun x_38 ex_38 => ?_)
        obtain rfl : x_38 = (1 : Int32) := ex_38.trans (by decide)
        refine lv_istore_n (lv' := [(1, .int 1), (2, .int 2), (0, .ref (ad 19 0))]) hx hb dX2_size_24 rfl hl (by decide) rfl (fun ls hl => ?_)
        refine lv_iinc (v := (3)) (lv' := [(2, .int 3), (1, .int 1), (0, .ref (ad 19 0))]) hx hb dX2_size_25 hl (k := 1) rfl (by decide) (by decide) rfl (fun ls hl => ?_)
        refine lv_goto (tgt := 4) hx hb dX2_size_28 (by decide) ?_
        refine lv_iload_n hx hb dX2_size_4 rfl (lv_at hl 0 rfl) ?_
        refine lv_iconst (v := 4) hx hb dX2_size_5 (by decide) ?_
        refine lv_icmp_ge (tgt := 31) hx hb dX2_size_6 (by decide) (fun h9 => absurd h9 (by decide)) (fun _ => ?_)
        refine lv_iload_n hx hb dX2_size_9 rfl (lv_at hl 1 rfl) ?_
        refine lv_aload_n hx hb dX2_size_10 rfl (lv_at hl 2 rfl) ?_
        refine lv_iload_n hx hb dX2_size_11 rfl (lv_at hl 0 rfl) ?_
        refine gs_calli (va_runV (As := [.int 3]) (rest := [.int 1]) ⟨hx, hb, hml, hown, hts⟩ (s_X2_isThere l G cy sK sV ad H.size st (3 : Int32) 3 (by decide) (by first | decide | omega) (by first | decide | omega)) ⟨(gz_cb (n := 1) hts gm_738 gm_9 gm_707 ⟨by decide +kernel, by decide +kernel, by decide +kernel⟩ ⟨Nat.le_of_ble_eq_true rfl, Nat.le_of_ble_eq_true rfl⟩), hts _ gm_705, hts _ gm_706⟩ (gs_preV hK hov hE hI hM hm hS hA 19 0 (by decide) rfl rfl) rfl rfl hl.1 rfl (lv_room (Nat.le_of_ble_eq_true rfl)) dX2_size_12 ⟨Nat.le_of_ble_eq_true rfl, Nat.le_of_ble_eq_true rfl⟩) hm hS hA (fun r_39 st_39 H locs hw_39 hM hS => ?_)
        obtain ⟨n_39, hw_39⟩ := hw_39
        have n_39 := gN0 n_39
        subst n_39
        rcases hw_39 with ⟨rfl, hw_39_0⟩ | ⟨rfl, hw_39_0⟩
        · skip
          refine lv_if_eq (tgt := 22) hx hb dX2_size_15 (by decide) (fun h9 => absurd h9 (by decide)) (fun _ => ?_)
          refine lv_iconst (v := 1) hx hb dX2_size_18 (by decide) ?_
          refine lv_goto (tgt := 23) hx hb dX2_size_19 (by decide) ?_
          refine lv_iadd hx hb dX2_size_23 ?_
          refine lv_topi (fun x_40 ex_40 => ?_)
          obtain rfl : x_40 = (2 : Int32) := ex_40.trans (by decide)
          refine lv_istore_n (lv' := [(1, .int 2), (2, .int 3), (0, .ref (ad 19 0))]) hx hb dX2_size_24 rfl hl (by decide) rfl (fun ls hl => ?_)
          refine lv_iinc (v := (4)) (lv' := [(2, .int 4), (1, .int 2), (0, .ref (ad 19 0))]) hx hb dX2_size_25 hl (k := 1) rfl (by decide) (by decide) rfl (fun ls hl => ?_)
          refine lv_goto (tgt := 4) hx hb dX2_size_28 (by decide) ?_
          refine lv_iload_n hx hb dX2_size_4 rfl (lv_at hl 0 rfl) ?_
          refine lv_iconst (v := 4) hx hb dX2_size_5 (by decide) ?_
          refine lv_icmp_ge (tgt := 31) hx hb dX2_size_6 (by decide) (fun _ => ?_) (fun h9 => absurd (by decide) h9)
          refine lv_iload_n hx hb dX2_size_31 rfl (lv_at hl 1 rfl) ?_
          exact gs_iret hx hb hr hlocks hM hS rfl ⟨gN.rf, trivial⟩ (by exact Nat.le_refl _) (by exact Nat.le_refl _) dX2_size_32
        · skip
          refine lv_if_eq (tgt := 22) hx hb dX2_size_15 (by decide) (fun _ => ?_) (fun h9 => absurd (by decide) h9)
          refine lv_iconst (v := 0) hx hb dX2_size_22 (by decide) ?_
          refine lv_iadd hx hb dX2_size_23 ?_
          refine lv_topi (fun x_41 ex_41 => ?_)
          obtain rfl : x_41 = (1 : Int32) := ex_41.trans (by decide)
          refine lv_istore_n (lv' := [(1, .int 1), (2, .int 3), (0, .ref (ad 19 0))]) hx hb dX2_size_24 rfl hl (by decide) rfl (fun ls hl => ?_)
          refine lv_iinc (v := (4)) (lv' := [(2, .int 4), (1, .int 1), (0, .ref (ad 19 0))]) hx hb dX2_size_25 hl (k := 1) rfl (by decide) (by decide) rfl (fun ls hl => ?_)
          refine lv_goto (tgt := 4) hx hb dX2_size_28 (by decide) ?_
          refine lv_iload_n hx hb dX2_size_4 rfl (lv_at hl 0 rfl) ?_
          refine lv_iconst (v := 4) hx hb dX2_size_5 (by decide) ?_
          refine lv_icmp_ge (tgt := 31) hx hb dX2_size_6 (by decide) (fun _ => ?_) (fun h9 => absurd (by decide) h9)
          refine lv_iload_n hx hb dX2_size_31 rfl (lv_at hl 1 rfl) ?_
          exact gs_iret hx hb hr hlocks hM hS rfl ⟨gN.rf, trivial⟩ (by exact Nat.le_refl _) (by exact Nat.le_refl _) dX2_size_32
      · skip
        refine lv_if_eq (tgt := 22) hx hb dX2_size_15 (by decide) (fun _ => ?_) (fun h9 => absurd (by decide) h9)
        refine lv_iconst (v := 0) hx hb dX2_size_22 (by decide) ?_
        refine lv_iadd hx hb dX2_size_23 ?_
        refine lv_topi (fun x_42 ex_42 => ?_)
        obtain rfl : x_42 = (0 : Int32) := ex_42.trans (by decide)
        refine lv_istore_n (lv' := [(1, .int 0), (2, .int 2), (0, .ref (ad 19 0))]) hx hb dX2_size_24 rfl hl (by decide) rfl (fun ls hl => ?_)
        refine lv_iinc (v := (3)) (lv' := [(2, .int 3), (1, .int 0), (0, .ref (ad 19 0))]) hx hb dX2_size_25 hl (k := 1) rfl (by decide) (by decide) rfl (fun ls hl => ?_)
        refine lv_goto (tgt := 4) hx hb dX2_size_28 (by decide) ?_
        refine lv_iload_n hx hb dX2_size_4 rfl (lv_at hl 0 rfl) ?_
        refine lv_iconst (v := 4) hx hb dX2_size_5 (by decide) ?_
        refine lv_icmp_ge (tgt := 31) hx hb dX2_size_6 (by decide) (fun h9 => absurd h9 (by decide)) (fun _ => ?_)
        refine lv_iload_n hx hb dX2_size_9 rfl (lv_at hl 1 rfl) ?_
        refine lv_aload_n hx hb dX2_size_10 rfl (lv_at hl 2 rfl) ?_
        refine lv_iload_n hx hb dX2_size_11 rfl (lv_at hl 0 rfl) ?_
        refine gs_calli (va_runV (As := [.int 3]) (rest := [.int 0]) ⟨hx, hb, hml, hown, hts⟩ (s_X2_isThere l G cy sK sV ad H.size st (3 : Int32) 3 (by decide) (by first | decide | omega) (by first | decide | omega)) ⟨(gz_cb (n := 1) hts gm_738 gm_9 gm_707 ⟨by decide +kernel, by decide +kernel, by decide +kernel⟩ ⟨Nat.le_of_ble_eq_true rfl, Nat.le_of_ble_eq_true rfl⟩), hts _ gm_705, hts _ gm_706⟩ (gs_preV hK hov hE hI hM hm hS hA 19 0 (by decide) rfl rfl) rfl rfl hl.1 rfl (lv_room (Nat.le_of_ble_eq_true rfl)) dX2_size_12 ⟨Nat.le_of_ble_eq_true rfl, Nat.le_of_ble_eq_true rfl⟩) hm hS hA (fun r_43 st_43 H locs hw_43 hM hS => ?_)
        obtain ⟨n_43, hw_43⟩ := hw_43
        have n_43 := gN0 n_43
        subst n_43
        rcases hw_43 with ⟨rfl, hw_43_0⟩ | ⟨rfl, hw_43_0⟩
        · skip
          refine lv_if_eq (tgt := 22) hx hb dX2_size_15 (by decide) (fun h9 => absurd h9 (by decide)) (fun _ => ?_)
          refine lv_iconst (v := 1) hx hb dX2_size_18 (by decide) ?_
          refine lv_goto (tgt := 23) hx hb dX2_size_19 (by decide) ?_
          refine lv_iadd hx hb dX2_size_23 ?_
          refine lv_topi (fun x_44 ex_44 => ?_)
          obtain rfl : x_44 = (1 : Int32) := ex_44.trans (by decide)
          refine lv_istore_n (lv' := [(1, .int 1), (2, .int 3), (0, .ref (ad 19 0))]) hx hb dX2_size_24 rfl hl (by decide) rfl (fun ls hl => ?_)
          refine lv_iinc (v := (4)) (lv' := [(2, .int 4), (1, .int 1), (0, .ref (ad 19 0))]) hx hb dX2_size_25 hl (k := 1) rfl (by decide) (by decide) rfl (fun ls hl => ?_)
          refine lv_goto (tgt := 4) hx hb dX2_size_28 (by decide) ?_
          refine lv_iload_n hx hb dX2_size_4 rfl (lv_at hl 0 rfl) ?_
          refine lv_iconst (v := 4) hx hb dX2_size_5 (by decide) ?_
          refine lv_icmp_ge (tgt := 31) hx hb dX2_size_6 (by decide) (fun _ => ?_) (fun h9 => absurd (by decide) h9)
          refine lv_iload_n hx hb dX2_size_31 rfl (lv_at hl 1 rfl) ?_
          exact gs_iret hx hb hr hlocks hM hS rfl ⟨gN.rf, trivial⟩ (by exact Nat.le_refl _) (by exact Nat.le_refl _) dX2_size_32
        · skip
          refine lv_if_eq (tgt := 22) hx hb dX2_size_15 (by decide) (fun _ => ?_) (fun h9 => absurd (by decide) h9)
          refine lv_iconst (v := 0) hx hb dX2_size_22 (by decide) ?_
          refine lv_iadd hx hb dX2_size_23 ?_
          refine lv_topi (fun x_45 ex_45 => ?_)
          obtain rfl : x_45 = (0 : Int32) := ex_45.trans (by decide)
          refine lv_istore_n (lv' := [(1, .int 0), (2, .int 3), (0, .ref (ad 19 0))]) hx hb dX2_size_24 rfl hl (by decide) rfl (fun ls hl => ?_)
          refine lv_iinc (v := (4)) (lv' := [(2, .int 4), (1, .int 0), (0, .ref (ad 19 0))]) hx hb dX2_size_25 hl (k := 1) rfl (by decide) (by decide) rfl (fun ls hl => ?_)
          refine lv_goto (tgt := 4) hx hb dX2_size_28 (by decide) ?_
          refine lv_iload_n hx hb dX2_size_4 rfl (lv_at hl 0 rfl) ?_
          refine lv_iconst (v := 4) hx hb dX2_size_5 (by decide) ?_
          refine lv_icmp_ge (tgt := 31) hx hb dX2_size_6 (by decide) (fun _ => ?_) (fun h9 => absurd (by decide) h9)
          refine lv_iload_n hx hb dX2_size_31 rfl (lv_at hl 1 rfl) ?_
          exact gs_iret hx hb hr hlocks hM hS rfl ⟨gN.rf, trivial⟩ (by exact Nat.le_refl _) (by exact Nat.le_refl _) dX2_size_32

set_option maxHeartbeats 4000000 in
set_option maxRecDepth 100000 in
/-- WellCourt$Tape.byteAt -/
theorem s_X8_byteAt (l : Launch) (G : va_G) (cy : Nat → ClassId) (sK sV : Nat → Nat) (ad : Nat → Nat → Nat) (sz : Nat) (st : gS)  (x : Int32) (Xx : Int) (kx : x.toInt = Xx)  (ht : (st 1 0 1).toInt ≤ 800) : gsMi l yX8_byteAt cX8_byteAt 2 (some .int) ({ frames := 0, cells := 0, slots := 0, locals := 0 } : Room) G cy sK sV (shX cy ad) cnX ad sz [.ref (ad 1 0), .int x] st (fun (r : Int32) (u : gS) => gN [] st u ∧ (((0 ≤ Xx ∧ Xx < (st 1 0 1).toInt) ∨ r.toInt = -1))) := by
  refine gs_start (fun A => gsQi G (shX cy ad) cnX ad _ A) (by decide) (Nat.le_of_ble_eq_true rfl) ?_
  intro p e s m below meth c A ls H hx hb hr hml hlocks hown hts hK hov hE hI hM hm hS hA hl
  have hl : lv_has ls 2 [(0, .ref (ad 1 0)), (1, .int x)] := hl
  refine lv_iload_n hx hb dX8_byteAt_0 rfl (lv_at hl 1 rfl) ?_
  refine lv_if_lt (tgt := 12) hx hb dX8_byteAt_1 (by decide) (fun c_1 => ?_) (fun c_1 => ?_)
  · have ic_1 := gz_lt (rfl : x.toInt = x.toInt) (by decide : (0 : Int32).toInt = 0) c_1
    refine lv_iconst (v := (-1)) hx hb dX8_byteAt_12 (by decide) ?_
    refine lv_goto (tgt := 26) hx hb dX8_byteAt_13 (by decide) ?_
    exact gs_iret hx hb hr hlocks hM hS rfl ⟨gN.rf, (by have hl9 : ((-1) : Int32).toInt = -1 := (by decide); omega)⟩ (by exact Nat.le_refl _) (by exact Nat.le_refl _) dX8_byteAt_26
  · have ic_1 := gz_nlt (rfl : x.toInt = x.toInt) (by decide : (0 : Int32).toInt = 0) c_1
    refine lv_iload_n hx hb dX8_byteAt_4 rfl (lv_at hl 1 rfl) ?_
    refine lv_aload_n hx hb dX8_byteAt_5 rfl (lv_at hl 0 rfl) ?_
    refine gs_get (C := RX8) (T := TX8) (N := 2) hx hb hts inX8 hown hK hM 1 0 1 (by decide) rfl rfl (by decide) (hts _ gm_39) (fun _ h9 => h9) rfl dX8_byteAt_6 ?_
    refine lv_icmp_lt (tgt := 16) hx hb dX8_byteAt_9 (by decide) (fun c_2 => ?_) (fun c_2 => ?_)
    · have ic_2 := gz_lt (rfl : x.toInt = x.toInt) (rfl : (st 1 0 1).toInt = (st 1 0 1).toInt) c_2
      refine lv_aload_n hx hb dX8_byteAt_16 rfl (lv_at hl 0 rfl) ?_
      refine gs_get (C := RX8) (T := TX8) (N := 2) hx hb hts inX8 hown hK hM 1 0 0 (by decide) rfl rfl (by decide) (hts _ gm_38) (fun _ h9 => h9) rfl dX8_byteAt_17 ?_
      refine lv_iload_n hx hb dX8_byteAt_20 rfl (lv_at hl 1 rfl) ?_
      refine gs_bald hx hb hK hM 2 0 (by decide) rfl (vp_in_iff.mpr ⟨by omega, by omega⟩) dX8_byteAt_21 ?_
      refine lv_sipush (v := 255) hx hb dX8_byteAt_22 (by decide) ?_
      refine lv_iand hx hb dX8_byteAt_25 ?_
      refine lv_topi (fun x_3 ex_3 => ?_)
      exact gs_iret hx hb hr hlocks hM hS rfl ⟨gN.rf, (by omega)⟩ (by exact Nat.le_refl _) (by exact Nat.le_refl _) dX8_byteAt_26
    · have ic_2 := gz_nlt (rfl : x.toInt = x.toInt) (rfl : (st 1 0 1).toInt = (st 1 0 1).toInt) c_2
      refine lv_iconst (v := (-1)) hx hb dX8_byteAt_12 (by decide) ?_
      refine lv_goto (tgt := 26) hx hb dX8_byteAt_13 (by decide) ?_
      exact gs_iret hx hb hr hlocks hM hS rfl ⟨gN.rf, (by have hl9 : ((-1) : Int32).toInt = -1 := (by decide); omega)⟩ (by exact Nat.le_refl _) (by exact Nat.le_refl _) dX8_byteAt_26
