theorem gm_362 : (Jvm.Cond.methodLink "WellCourt$Law" (57 : Nat) ({ cls := "java/util/Arrays", name := "fill", desc := "([II)V" } : Jvm.MethodName)) ∈ gz_T := gz_at 362 (by decide +kernel) rfl
theorem dX4_clear_0 : decode cX4_clear 0 = .ok (.aload_n 0, 1) := by decide +kernel
theorem dX4_clear_1 : decode cX4_clear 1 = .ok (.iconst 0, 1) := by decide +kernel
theorem dX4_clear_2 : decode cX4_clear 2 = .ok (.putfield 9, 3) := by decide +kernel
theorem dX4_clear_5 : decode cX4_clear 5 = .ok (.aload_n 0, 1) := by decide +kernel
theorem dX4_clear_6 : decode cX4_clear 6 = .ok (.iconst 0, 1) := by decide +kernel
theorem dX4_clear_7 : decode cX4_clear 7 = .ok (.putfield 30, 3) := by decide +kernel
theorem dX4_clear_10 : decode cX4_clear 10 = .ok (.aload_n 0, 1) := by decide +kernel
theorem dX4_clear_11 : decode cX4_clear 11 = .ok (.iconst 0, 1) := by decide +kernel
theorem dX4_clear_12 : decode cX4_clear 12 = .ok (.putfield 42, 3) := by decide +kernel
theorem dX4_clear_15 : decode cX4_clear 15 = .ok (.aload_n 0, 1) := by decide +kernel
theorem dX4_clear_16 : decode cX4_clear 16 = .ok (.getfield 20, 3) := by decide +kernel
theorem dX4_clear_19 : decode cX4_clear 19 = .ok (.iconst 0, 1) := by decide +kernel
theorem dX4_clear_20 : decode cX4_clear 20 = .ok (.invokestatic 57, 3) := by decide +kernel
theorem dX4_clear_23 : decode cX4_clear 23 = .ok (.aload_n 0, 1) := by decide +kernel
theorem dX4_clear_24 : decode cX4_clear 24 = .ok (.getfield 24, 3) := by decide +kernel
theorem dX4_clear_27 : decode cX4_clear 27 = .ok (.iconst 0, 1) := by decide +kernel
theorem dX4_clear_28 : decode cX4_clear 28 = .ok (.invokestatic 57, 3) := by decide +kernel
theorem dX4_clear_31 : decode cX4_clear 31 = .ok (.aload_n 0, 1) := by decide +kernel
theorem dX4_clear_32 : decode cX4_clear 32 = .ok (.getfield 27, 3) := by decide +kernel
theorem dX4_clear_35 : decode cX4_clear 35 = .ok (.iconst 0, 1) := by decide +kernel
theorem dX4_clear_36 : decode cX4_clear 36 = .ok (.invokestatic 57, 3) := by decide +kernel
theorem dX4_clear_39 : decode cX4_clear 39 = .ok (.return_, 1) := by decide +kernel
theorem dX8_append_0 : decode cX8_append 0 = .ok (.bipush 24, 2) := by decide +kernel
theorem dX8_append_2 : decode cX8_append 2 = .ok (.istore_n 2, 1) := by decide +kernel
theorem dX8_append_3 : decode cX8_append 3 = .ok (.iload_n 2, 1) := by decide +kernel
theorem dX8_append_4 : decode cX8_append 4 = .ok (.ifCond .lt 42, 3) := by decide +kernel
theorem dX8_append_7 : decode cX8_append 7 = .ok (.aload_n 0, 1) := by decide +kernel
theorem dX8_append_8 : decode cX8_append 8 = .ok (.getfield 15, 3) := by decide +kernel
theorem dX8_append_11 : decode cX8_append 11 = .ok (.sipush 800, 3) := by decide +kernel
theorem dX8_append_14 : decode cX8_append 14 = .ok (.if_icmp .ge 32, 3) := by decide +kernel
theorem dX8_append_17 : decode cX8_append 17 = .ok (.aload_n 0, 1) := by decide +kernel
theorem dX8_append_18 : decode cX8_append 18 = .ok (.getfield 9, 3) := by decide +kernel
theorem dX8_append_21 : decode cX8_append 21 = .ok (.aload_n 0, 1) := by decide +kernel
theorem dX8_append_22 : decode cX8_append 22 = .ok (.getfield 15, 3) := by decide +kernel
theorem dX8_append_25 : decode cX8_append 25 = .ok (.iload_n 1, 1) := by decide +kernel
theorem dX8_append_26 : decode cX8_append 26 = .ok (.iload_n 2, 1) := by decide +kernel
theorem dX8_append_27 : decode cX8_append 27 = .ok (.ishr, 1) := by decide +kernel
theorem dX8_append_28 : decode cX8_append 28 = .ok (.i2b, 1) := by decide +kernel
theorem dX8_append_29 : decode cX8_append 29 = .ok (.bastore, 1) := by decide +kernel
theorem dX8_append_30 : decode cX8_append 30 = .ok (.aload_n 0, 1) := by decide +kernel
theorem dX8_append_31 : decode cX8_append 31 = .ok (.dup, 1) := by decide +kernel
theorem dX8_append_32 : decode cX8_append 32 = .ok (.getfield 15, 3) := by decide +kernel
theorem dX8_append_35 : decode cX8_append 35 = .ok (.iconst 1, 1) := by decide +kernel
theorem dX8_append_36 : decode cX8_append 36 = .ok (.iadd, 1) := by decide +kernel
theorem dX8_append_37 : decode cX8_append 37 = .ok (.putfield 15, 3) := by decide +kernel
theorem dX8_append_40 : decode cX8_append 40 = .ok (.iinc 2 (-8), 3) := by decide +kernel
theorem dX8_append_43 : decode cX8_append 43 = .ok (.goto (-40), 3) := by decide +kernel
theorem dX8_append_46 : decode cX8_append 46 = .ok (.return_, 1) := by decide +kernel
set_option maxHeartbeats 4000000 in
set_option maxRecDepth 100000 in
/-- WellCourt$Law.clear -/
theorem c_X4_clear (l : Launch) (G : va_G) (cy : Nat → ClassId) (sz : Nat) (h0 : Nat) (a0 : Nat) (a1 : Nat) (a2 : Nat) (a3 : Nat) (a4 : Nat) (a5 : Nat) (a6 : Nat) (a7 : Nat) (a8 : Nat) (a9 : Nat) (a10 : Nat)  : gMv l yX4_clear cX4_clear 1 ({ frames := 1, cells := 0, slots := 0, locals := 23 }) G cy sz [.ref h0] [(h0, .inr (4, [.int 0, .ref a0, .ref a1, .ref a2, .ref a3, .int 0, .ref a4, .ref a5, .ref a6, .int 0, .ref a7, .ref a8, .ref a9, .ref a10])), (a1, .inl (cy 0, 6, .inl (fun _ => 0))), (a2, .inl (cy 0, 6, .inl (fun _ => 0))), (a3, .inl (cy 0, 6, .inl (fun _ => 0)))] (fun (u : Unit) => True) (fun (u : Unit) => [(h0, .inr (4, [.int 0, .ref a0, .ref a1, .ref a2, .ref a3, .int 0, .ref a4, .ref a5, .ref a6, .int 0, .ref a7, .ref a8, .ref a9, .ref a10])), (a1, .inl (cy 0, 6, .inl (fun _ => 0))), (a2, .inl (cy 0, 6, .inl (fun _ => 0))), (a3, .inl (cy 0, 6, .inl (fun _ => 0)))]) := by
  refine gz_start (fun A => gQv G cy _ _ A) (by decide) (Nat.le_of_ble_eq_true rfl) ?_
  intro p e s m below meth c A ls H hx hb hr hml hlocks hin hown hts hK hov hsz hP hD hS hA hl
  have hl : lv_has ls 1 [(0, .ref h0)] := hl
  refine lv_aload_n hx hb dX4_clear_0 rfl (lv_at hl 0 rfl) ?_
  refine lv_iconst (v := 0) hx hb dX4_clear_1 (by decide) ?_
  refine va_put (ci := 4) (v := .int 0) (ty := .int) (C := RX4) (T := TX4) (N := 14) hx hb hts inX4 tyX4 tyX4_ok nmX4 hown hK hP hD hS 0 rfl rfl 0 (by decide) (hts _ gm_188) (fun _ h9 => h9) rfl (by decide +kernel) rfl rfl (Nat.le_of_ble_eq_true rfl) dX4_clear_2 (fun H locs hP hD hS => ?_)
  have hP : va_P G vwCl [(h0, .inr (4, [.int 0, .ref a0, .ref a1, .ref a2, .ref a3, .int 0, .ref a4, .ref a5, .ref a6, .int 0, .ref a7, .ref a8, .ref a9, .ref a10])), (a1, .inl (cy 0, 6, .inl (fun _ => 0))), (a2, .inl (cy 0, 6, .inl (fun _ => 0))), (a3, .inl (cy 0, 6, .inl (fun _ => 0)))] H := hP
  have hD : va_D A [(h0, .inr (4, [.int 0, .ref a0, .ref a1, .ref a2, .ref a3, .int 0, .ref a4, .ref a5, .ref a6, .int 0, .ref a7, .ref a8, .ref a9, .ref a10])), (a1, .inl (cy 0, 6, .inl (fun _ => 0))), (a2, .inl (cy 0, 6, .inl (fun _ => 0))), (a3, .inl (cy 0, 6, .inl (fun _ => 0)))] := hD
  refine lv_aload_n hx hb dX4_clear_5 rfl (lv_at hl 0 rfl) ?_
  refine lv_iconst (v := 0) hx hb dX4_clear_6 (by decide) ?_
  refine va_put (ci := 4) (v := .int 0) (ty := .int) (C := RX4) (T := TX4) (N := 14) hx hb hts inX4 tyX4 tyX4_ok nmX4 hown hK hP hD hS 0 rfl rfl 5 (by decide) (hts _ gm_195) (fun _ h9 => h9) rfl (by decide +kernel) rfl rfl (Nat.le_of_ble_eq_true rfl) dX4_clear_7 (fun H locs hP hD hS => ?_)
  have hP : va_P G vwCl [(h0, .inr (4, [.int 0, .ref a0, .ref a1, .ref a2, .ref a3, .int 0, .ref a4, .ref a5, .ref a6, .int 0, .ref a7, .ref a8, .ref a9, .ref a10])), (a1, .inl (cy 0, 6, .inl (fun _ => 0))), (a2, .inl (cy 0, 6, .inl (fun _ => 0))), (a3, .inl (cy 0, 6, .inl (fun _ => 0)))] H := hP
  have hD : va_D A [(h0, .inr (4, [.int 0, .ref a0, .ref a1, .ref a2, .ref a3, .int 0, .ref a4, .ref a5, .ref a6, .int 0, .ref a7, .ref a8, .ref a9, .ref a10])), (a1, .inl (cy 0, 6, .inl (fun _ => 0))), (a2, .inl (cy 0, 6, .inl (fun _ => 0))), (a3, .inl (cy 0, 6, .inl (fun _ => 0)))] := hD
  refine lv_aload_n hx hb dX4_clear_10 rfl (lv_at hl 0 rfl) ?_
  refine lv_iconst (v := 0) hx hb dX4_clear_11 (by decide) ?_
  refine va_put (ci := 4) (v := .int 0) (ty := .int) (C := RX4) (T := TX4) (N := 14) hx hb hts inX4 tyX4 tyX4_ok nmX4 hown hK hP hD hS 0 rfl rfl 9 (by decide) (hts _ gm_199) (fun _ h9 => h9) rfl (by decide +kernel) rfl rfl (Nat.le_of_ble_eq_true rfl) dX4_clear_12 (fun H locs hP hD hS => ?_)
  have hP : va_P G vwCl [(h0, .inr (4, [.int 0, .ref a0, .ref a1, .ref a2, .ref a3, .int 0, .ref a4, .ref a5, .ref a6, .int 0, .ref a7, .ref a8, .ref a9, .ref a10])), (a1, .inl (cy 0, 6, .inl (fun _ => 0))), (a2, .inl (cy 0, 6, .inl (fun _ => 0))), (a3, .inl (cy 0, 6, .inl (fun _ => 0)))] H := hP
  have hD : va_D A [(h0, .inr (4, [.int 0, .ref a0, .ref a1, .ref a2, .ref a3, .int 0, .ref a4, .ref a5, .ref a6, .int 0, .ref a7, .ref a8, .ref a9, .ref a10])), (a1, .inl (cy 0, 6, .inl (fun _ => 0))), (a2, .inl (cy 0, 6, .inl (fun _ => 0))), (a3, .inl (cy 0, 6, .inl (fun _ => 0)))] := hD
  refine lv_aload_n hx hb dX4_clear_15 rfl (lv_at hl 0 rfl) ?_
  refine va_get (ci := 4) (v := .ref a1) (C := RX4) (T := TX4) (N := 14) hx hb hts inX4 hown hK hP 0 rfl rfl 2 (by decide) (hts _ gm_192) (fun _ h9 => h9) rfl dX4_clear_16 ?_
  refine lv_iconst (v := 0) hx hb dX4_clear_19 (by decide) ?_
  refine gz_aftv (va_runS (As := [.ref a1, .int 0]) (rest := []) ⟨hx, hb, hml, hown, hts⟩ (c_fill l G cy H.size a1 6 (fun _ => 0) 0 (by decide)) ⟨(gz_cb (n := 2) hts gm_362 gm_6 gm_108 ⟨by decide +kernel, by decide +kernel, by decide +kernel⟩ ⟨Nat.le_of_ble_eq_true rfl, Nat.le_of_ble_eq_true rfl⟩), hts _ gm_107⟩ (gz_preS hK hov hP hD [1] (by decide) rfl) rfl rfl hl.1 rfl (lv_room (Nat.le_of_ble_eq_true rfl)) dX4_clear_20 ⟨Nat.le_of_ble_eq_true rfl, Nat.le_of_ble_eq_true rfl⟩) hP hD hS hA [1] [0, 2, 3] rfl rfl (by decide) (by decide) (fun u_1 H locs hw_1 hP hD hS => ?_)
  have hP : va_P G vwCl [(h0, .inr (4, [.int 0, .ref a0, .ref a1, .ref a2, .ref a3, .int 0, .ref a4, .ref a5, .ref a6, .int 0, .ref a7, .ref a8, .ref a9, .ref a10])), (a2, .inl (cy 0, 6, .inl (fun _ => 0))), (a3, .inl (cy 0, 6, .inl (fun _ => 0))), (a1, .inl (cy 0, 6, .inl (fun _ => 0)))] H := hP
  have hD : va_D A [(h0, .inr (4, [.int 0, .ref a0, .ref a1, .ref a2, .ref a3, .int 0, .ref a4, .ref a5, .ref a6, .int 0, .ref a7, .ref a8, .ref a9, .ref a10])), (a2, .inl (cy 0, 6, .inl (fun _ => 0))), (a3, .inl (cy 0, 6, .inl (fun _ => 0))), (a1, .inl (cy 0, 6, .inl (fun _ => 0)))] := hD
  refine lv_aload_n hx hb dX4_clear_23 rfl (lv_at hl 0 rfl) ?_
  refine va_get (ci := 4) (v := .ref a2) (C := RX4) (T := TX4) (N := 14) hx hb hts inX4 hown hK hP 0 rfl rfl 3 (by decide) (hts _ gm_193) (fun _ h9 => h9) rfl dX4_clear_24 ?_
  refine lv_iconst (v := 0) hx hb dX4_clear_27 (by decide) ?_
  refine gz_aftv (va_runS (As := [.ref a2, .int 0]) (rest := []) ⟨hx, hb, hml, hown, hts⟩ (c_fill l G cy H.size a2 6 (fun _ => 0) 0 (by decide)) ⟨(gz_cb (n := 2) hts gm_362 gm_6 gm_108 ⟨by decide +kernel, by decide +kernel, by decide +kernel⟩ ⟨Nat.le_of_ble_eq_true rfl, Nat.le_of_ble_eq_true rfl⟩), hts _ gm_107⟩ (gz_preS hK hov hP hD [1] (by decide) rfl) rfl rfl hl.1 rfl (lv_room (Nat.le_of_ble_eq_true rfl)) dX4_clear_28 ⟨Nat.le_of_ble_eq_true rfl, Nat.le_of_ble_eq_true rfl⟩) hP hD hS hA [1] [0, 2, 3] rfl rfl (by decide) (by decide) (fun u_2 H locs hw_2 hP hD hS => ?_)
  have hP : va_P G vwCl [(h0, .inr (4, [.int 0, .ref a0, .ref a1, .ref a2, .ref a3, .int 0, .ref a4, .ref a5, .ref a6, .int 0, .ref a7, .ref a8, .ref a9, .ref a10])), (a3, .inl (cy 0, 6, .inl (fun _ => 0))), (a1, .inl (cy 0, 6, .inl (fun _ => 0))), (a2, .inl (cy 0, 6, .inl (fun _ => 0)))] H := hP
  have hD : va_D A [(h0, .inr (4, [.int 0, .ref a0, .ref a1, .ref a2, .ref a3, .int 0, .ref a4, .ref a5, .ref a6, .int 0, .ref a7, .ref a8, .ref a9, .ref a10])), (a3, .inl (cy 0, 6, .inl (fun _ => 0))), (a1, .inl (cy 0, 6, .inl (fun _ => 0))), (a2, .inl (cy 0, 6, .inl (fun _ => 0)))] := hD
  refine lv_aload_n hx hb dX4_clear_31 rfl (lv_at hl 0 rfl) ?_
  refine va_get (ci := 4) (v := .ref a3) (C := RX4) (T := TX4) (N := 14) hx hb hts inX4 hown hK hP 0 rfl rfl 4 (by decide) (hts _ gm_194) (fun _ h9 => h9) rfl dX4_clear_32 ?_
  refine lv_iconst (v := 0) hx hb dX4_clear_35 (by decide) ?_
  refine gz_aftv (va_runS (As := [.ref a3, .int 0]) (rest := []) ⟨hx, hb, hml, hown, hts⟩ (c_fill l G cy H.size a3 6 (fun _ => 0) 0 (by decide)) ⟨(gz_cb (n := 2) hts gm_362 gm_6 gm_108 ⟨by decide +kernel, by decide +kernel, by decide +kernel⟩ ⟨Nat.le_of_ble_eq_true rfl, Nat.le_of_ble_eq_true rfl⟩), hts _ gm_107⟩ (gz_preS hK hov hP hD [1] (by decide) rfl) rfl rfl hl.1 rfl (lv_room (Nat.le_of_ble_eq_true rfl)) dX4_clear_36 ⟨Nat.le_of_ble_eq_true rfl, Nat.le_of_ble_eq_true rfl⟩) hP hD hS hA [1] [0, 2, 3] rfl rfl (by decide) (by decide) (fun u_3 H locs hw_3 hP hD hS => ?_)
  have hP : va_P G vwCl [(h0, .inr (4, [.int 0, .ref a0, .ref a1, .ref a2, .ref a3, .int 0, .ref a4, .ref a5, .ref a6, .int 0, .ref a7, .ref a8, .ref a9, .ref a10])), (a1, .inl (cy 0, 6, .inl (fun _ => 0))), (a2, .inl (cy 0, 6, .inl (fun _ => 0))), (a3, .inl (cy 0, 6, .inl (fun _ => 0)))] H := hP
  have hD : va_D A [(h0, .inr (4, [.int 0, .ref a0, .ref a1, .ref a2, .ref a3, .int 0, .ref a4, .ref a5, .ref a6, .int 0, .ref a7, .ref a8, .ref a9, .ref a10])), (a1, .inl (cy 0, 6, .inl (fun _ => 0))), (a2, .inl (cy 0, 6, .inl (fun _ => 0))), (a3, .inl (cy 0, 6, .inl (fun _ => 0)))] := hD
  exact gz_vret (cf := (fun (u : Unit) => [(h0, .inr (4, [.int 0, .ref a0, .ref a1, .ref a2, .ref a3, .int 0, .ref a4, .ref a5, .ref a6, .int 0, .ref a7, .ref a8, .ref a9, .ref a10])), (a1, .inl (cy 0, 6, .inl (fun _ => 0))), (a2, .inl (cy 0, 6, .inl (fun _ => 0))), (a3, .inl (cy 0, 6, .inl (fun _ => 0)))])) (post := (fun (u : Unit) => True)) hx hb hr hlocks hK hP hD hS () [0, 1, 2, 3] trivial (by decide) rfl (Nat.le_of_ble_eq_true rfl) (Nat.le_of_ble_eq_true rfl) dX4_clear_39

set_option maxHeartbeats 4000000 in
set_option maxRecDepth 100000 in
/-- WellCourt$Tape.append -/
theorem c_X8_append (l : Launch) (G : va_G) (cy : Nat → ClassId) (sz : Nat) (h0 : Nat) (a0 : Nat) (k : Nat) (f : Nat → Int32) (x : Int32) (hk : k + 4 ≤ 800) : gMv l yX8_append cX8_append 3 ({ frames := 0, cells := 0, slots := 0, locals := 0 }) G cy sz [.ref h0, .int x] [(h0, .inr (8, [.ref a0, .int (nI k)])), (a0, .inl (cy 1, 800, .inl f))] (fun (u : Nat → Int32) => True) (fun (u : Nat → Int32) => [(h0, .inr (8, [.ref a0, .int (nI (k + 4))])), (a0, .inl (cy 1, 800, .inl u))]) := by
  refine gz_start (fun A => gQv G cy _ _ A) (by decide) (Nat.le_of_ble_eq_true rfl) ?_
  intro p e s m below meth c A ls H hx hb hr hml hlocks hin hown hts hK hov hsz hP hD hS hA hl
  have hl : lv_has ls 3 [(0, .ref h0), (1, .int x)] := hl
  refine lv_bipush (v := 24) hx hb dX8_append_0 (by decide) ?_
  refine lv_istore_n (lv' := [(2, .int 24), (0, .ref h0), (1, .int x)]) hx hb dX8_append_2 rfl hl (by decide) rfl (fun ls hl => ?_)
  refine lv_iload_n hx hb dX8_append_3 rfl (lv_at hl 0 rfl) ?_
  refine lv_if_lt (tgt := 46) hx hb dX8_append_4 (by decide) (fun h9 => absurd h9 (by decide)) (fun _ => ?_)
  refine lv_aload_n hx hb dX8_append_7 rfl (lv_at hl 1 rfl) ?_
  refine va_get (ci := 8) (v := .int (nI k)) (C := RX8) (T := TX8) (N := 2) hx hb hts inX8 hown hK hP 0 rfl rfl 1 (by decide) (hts _ gm_39) (fun _ h9 => h9) rfl dX8_append_8 ?_
  refine lv_sipush (v := 800) hx hb dX8_append_11 (by decide) ?_
  refine lv_icmp_ge (tgt := 46) hx hb dX8_append_14 (by decide) (fun h9 => absurd h9 (nI_ge (b := 800) (by omega) (by decide))) (fun _ => ?_)
  refine lv_aload_n hx hb dX8_append_17 rfl (lv_at hl 1 rfl) ?_
  refine va_get (ci := 8) (v := .ref a0) (C := RX8) (T := TX8) (N := 2) hx hb hts inX8 hown hK hP 0 rfl rfl 0 (by decide) (hts _ gm_38) (fun _ h9 => h9) rfl dX8_append_18 ?_
  refine lv_aload_n hx hb dX8_append_21 rfl (lv_at hl 1 rfl) ?_
  refine va_get (ci := 8) (v := .int (nI k)) (C := RX8) (T := TX8) (N := 2) hx hb hts inX8 hown hK hP 0 rfl rfl 1 (by decide) (hts _ gm_39) (fun _ h9 => h9) rfl dX8_append_22 ?_
  refine lv_iload_n hx hb dX8_append_25 rfl (lv_at hl 2 rfl) ?_
  refine lv_iload_n hx hb dX8_append_26 rfl (lv_at hl 0 rfl) ?_
  refine lv_ishr hx hb dX8_append_27 ?_
  refine lv_topi (fun x_1 ex_1 => ?_)
  obtain ⟨x_2, ex_2⟩ : ∃ y : Int32, x_1.toInt8.toInt32 = y := ⟨_, rfl⟩
  refine lv_i2b hx hb dX8_append_28 ex_2 ?_
  refine va_bast hx hb hK hP hD hS 1 1 rfl rfl (vp_in_nI (by omega) (by decide)) dX8_append_29 (fun H locs hP hD hS => ?_)
  obtain ⟨f_3, ef_3⟩ : ∃ g : Nat → Int32, g = upd f (nI k : Int32).toNatClampNeg (vp_nar .byte x_2) := ⟨_, rfl⟩
  have hP : va_P G vwCl [(h0, .inr (8, [.ref a0, .int (nI k)])), (a0, .inl (cy 1, 800, .inl f_3))] H := ef_3 ▸ hP
  have hD : va_D A [(h0, .inr (8, [.ref a0, .int (nI k)])), (a0, .inl (cy 1, 800, .inl f_3))] := ef_3 ▸ hD
  refine lv_aload_n hx hb dX8_append_30 rfl (lv_at hl 1 rfl) ?_
  refine lv_dup hx hb dX8_append_31 rfl ?_
  refine va_get (ci := 8) (v := .int (nI k)) (C := RX8) (T := TX8) (N := 2) hx hb hts inX8 hown hK hP 0 rfl rfl 1 (by decide) (hts _ gm_39) (fun _ h9 => h9) rfl dX8_append_32 ?_
  refine lv_iconst (v := 1) hx hb dX8_append_35 (by decide) ?_
  refine lv_iadd hx hb dX8_append_36 ?_
  refine lv_topi (fun x_4 ex_4 => ?_)
  obtain rfl : x_4 = nI (k + 1) := ex_4.trans (nI_add k 1)
  refine va_put (ci := 8) (v := .int (nI (k + 1))) (ty := .int) (C := RX8) (T := TX8) (N := 2) hx hb hts inX8 tyX8 tyX8_ok nmX8 hown hK hP hD hS 0 rfl rfl 1 (by decide) (hts _ gm_39) (fun _ h9 => h9) rfl (by decide +kernel) rfl rfl (Nat.le_of_ble_eq_true rfl) dX8_append_37 (fun H locs hP hD hS => ?_)
  have hP : va_P G vwCl [(h0, .inr (8, [.ref a0, .int (nI (k + 1))])), (a0, .inl (cy 1, 800, .inl f_3))] H := hP
  have hD : va_D A [(h0, .inr (8, [.ref a0, .int (nI (k + 1))])), (a0, .inl (cy 1, 800, .inl f_3))] := hD
  refine lv_iinc (v := (16)) (lv' := [(2, .int 16), (0, .ref h0), (1, .int x)]) hx hb dX8_append_40 hl (k := 0) rfl (by decide) (by decide) rfl (fun ls hl => ?_)
  refine lv_goto (tgt := 3) hx hb dX8_append_43 (by decide) ?_
  refine lv_iload_n hx hb dX8_append_3 rfl (lv_at hl 0 rfl) ?_
  refine lv_if_lt (tgt := 46) hx hb dX8_append_4 (by decide) (fun h9 => absurd h9 (by decide)) (fun _ => ?_)
  refine lv_aload_n hx hb dX8_append_7 rfl (lv_at hl 1 rfl) ?_
  refine va_get (ci := 8) (v := .int (nI (k + 1))) (C := RX8) (T := TX8) (N := 2) hx hb hts inX8 hown hK hP 0 rfl rfl 1 (by decide) (hts _ gm_39) (fun _ h9 => h9) rfl dX8_append_8 ?_
  refine lv_sipush (v := 800) hx hb dX8_append_11 (by decide) ?_
  refine lv_icmp_ge (tgt := 46) hx hb dX8_append_14 (by decide) (fun h9 => absurd h9 (nI_ge (b := 800) (by omega) (by decide))) (fun _ => ?_)
  refine lv_aload_n hx hb dX8_append_17 rfl (lv_at hl 1 rfl) ?_
  refine va_get (ci := 8) (v := .ref a0) (C := RX8) (T := TX8) (N := 2) hx hb hts inX8 hown hK hP 0 rfl rfl 0 (by decide) (hts _ gm_38) (fun _ h9 => h9) rfl dX8_append_18 ?_
  refine lv_aload_n hx hb dX8_append_21 rfl (lv_at hl 1 rfl) ?_
  refine va_get (ci := 8) (v := .int (nI (k + 1))) (C := RX8) (T := TX8) (N := 2) hx hb hts inX8 hown hK hP 0 rfl rfl 1 (by decide) (hts _ gm_39) (fun _ h9 => h9) rfl dX8_append_22 ?_
  refine lv_iload_n hx hb dX8_append_25 rfl (lv_at hl 2 rfl) ?_
  refine lv_iload_n hx hb dX8_append_26 rfl (lv_at hl 0 rfl) ?_
  refine lv_ishr hx hb dX8_append_27 ?_
  refine lv_topi (fun x_5 ex_5 => ?_)
  obtain ⟨x_6, ex_6⟩ : ∃ y : Int32, x_5.toInt8.toInt32 = y := ⟨_, rfl⟩
  refine lv_i2b hx hb dX8_append_28 ex_6 ?_
  refine va_bast hx hb hK hP hD hS 1 1 rfl rfl (vp_in_nI (by omega) (by decide)) dX8_append_29 (fun H locs hP hD hS => ?_)
  obtain ⟨f_7, ef_7⟩ : ∃ g : Nat → Int32, g = upd f_3 (nI (k + 1) : Int32).toNatClampNeg (vp_nar .byte x_6) := ⟨_, rfl⟩
  have hP : va_P G vwCl [(h0, .inr (8, [.ref a0, .int (nI (k + 1))])), (a0, .inl (cy 1, 800, .inl f_7))] H := ef_7 ▸ hP
  have hD : va_D A [(h0, .inr (8, [.ref a0, .int (nI (k + 1))])), (a0, .inl (cy 1, 800, .inl f_7))] := ef_7 ▸ hD
  refine lv_aload_n hx hb dX8_append_30 rfl (lv_at hl 1 rfl) ?_
  refine lv_dup hx hb dX8_append_31 rfl ?_
  refine va_get (ci := 8) (v := .int (nI (k + 1))) (C := RX8) (T := TX8) (N := 2) hx hb hts inX8 hown hK hP 0 rfl rfl 1 (by decide) (hts _ gm_39) (fun _ h9 => h9) rfl dX8_append_32 ?_
  refine lv_iconst (v := 1) hx hb dX8_append_35 (by decide) ?_
  refine lv_iadd hx hb dX8_append_36 ?_
  refine lv_topi (fun x_8 ex_8 => ?_)
  obtain rfl : x_8 = nI ((k + 1) + 1) := ex_8.trans (nI_add (k + 1) 1)
  refine va_put (ci := 8) (v := .int (nI ((k + 1) + 1))) (ty := .int) (C := RX8) (T := TX8) (N := 2) hx hb hts inX8 tyX8 tyX8_ok nmX8 hown hK hP hD hS 0 rfl rfl 1 (by decide) (hts _ gm_39) (fun _ h9 => h9) rfl (by decide +kernel) rfl rfl (Nat.le_of_ble_eq_true rfl) dX8_append_37 (fun H locs hP hD hS => ?_)
  have hP : va_P G vwCl [(h0, .inr (8, [.ref a0, .int (nI ((k + 1) + 1))])), (a0, .inl (cy 1, 800, .inl f_7))] H := hP
  have hD : va_D A [(h0, .inr (8, [.ref a0, .int (nI ((k + 1) + 1))])), (a0, .inl (cy 1, 800, .inl f_7))] := hD
  refine lv_iinc (v := (8)) (lv' := [(2, .int 8), (0, .ref h0), (1, .int x)]) hx hb dX8_append_40 hl (k := 0) rfl (by decide) (by decide) rfl (fun ls hl => ?_)
  refine lv_goto (tgt := 3) hx hb dX8_append_43 (by decide) ?_
  refine lv_iload_n hx hb dX8_append_3 rfl (lv_at hl 0 rfl) ?_
  refine lv_if_lt (tgt := 46) hx hb dX8_append_4 (by decide) (fun h9 => absurd h9 (by decide)) (fun _ => ?_)
  refine lv_aload_n hx hb dX8_append_7 rfl (lv_at hl 1 rfl) ?_
  refine va_get (ci := 8) (v := .int (nI ((k + 1) + 1))) (C := RX8) (T := TX8) (N := 2) hx hb hts inX8 hown hK hP 0 rfl rfl 1 (by decide) (hts _ gm_39) (fun _ h9 => h9) rfl dX8_append_8 ?_
  refine lv_sipush (v := 800) hx hb dX8_append_11 (by decide) ?_
  refine lv_icmp_ge (tgt := 46) hx hb dX8_append_14 (by decide) (fun h9 => absurd h9 (nI_ge (b := 800) (by omega) (by decide))) (fun _ => ?_)
  refine lv_aload_n hx hb dX8_append_17 rfl (lv_at hl 1 rfl) ?_
  refine va_get (ci := 8) (v := .ref a0) (C := RX8) (T := TX8) (N := 2) hx hb hts inX8 hown hK hP 0 rfl rfl 0 (by decide) (hts _ gm_38) (fun _ h9 => h9) rfl dX8_append_18 ?_
  refine lv_aload_n hx hb dX8_append_21 rfl (lv_at hl 1 rfl) ?_
  refine va_get (ci := 8) (v := .int (nI ((k + 1) + 1))) (C := RX8) (T := TX8) (N := 2) hx hb hts inX8 hown hK hP 0 rfl rfl 1 (by decide) (hts _ gm_39) (fun _ h9 => h9) rfl dX8_append_22 ?_
  refine lv_iload_n hx hb dX8_append_25 rfl (lv_at hl 2 rfl) ?_
  refine lv_iload_n hx hb dX8_append_26 rfl (lv_at hl 0 rfl) ?_
  refine lv_ishr hx hb dX8_append_27 ?_
  refine lv_topi (fun x_9 ex_9 => ?_)
  obtain ⟨x_10, ex_10⟩ : ∃ y : Int32, x_9.toInt8.toInt32 = y := ⟨_, rfl⟩
  refine lv_i2b hx hb dX8_append_28 ex_10 ?_
  refine va_bast hx hb hK hP hD hS 1 1 rfl rfl (vp_in_nI (by omega) (by decide)) dX8_append_29 (fun H locs hP hD hS => ?_)
  obtain ⟨f_11, ef_11⟩ : ∃ g : Nat → Int32, g = upd f_7 ((nI ((k + 1) + 1) : Int32)).toNatClampNeg (vp_nar .byte x_10) := ⟨_, rfl⟩
  have hP : va_P G vwCl [(h0, .inr (8, [.ref a0, .int (nI ((k + 1) + 1))])), (a0, .inl (cy 1, 800, .inl f_11))] H := ef_11 ▸ hP
  have hD : va_D A [(h0, .inr (8, [.ref a0, .int (nI ((k + 1) + 1))])), (a0, .inl (cy 1, 800, .inl f_11))] := ef_11 ▸ hD
  refine lv_aload_n hx hb dX8_append_30 rfl (lv_at hl 1 rfl) ?_
  refine lv_dup hx hb dX8_append_31 rfl ?_
  refine va_get (ci := 8) (v := .int (nI ((k + 1) + 1))) (C := RX8) (T := TX8) (N := 2) hx hb hts inX8 hown hK hP 0 rfl rfl 1 (by decide) (hts _ gm_39) (fun _ h9 => h9) rfl dX8_append_32 ?_
  refine lv_iconst (v := 1) hx hb dX8_append_35 (by decide) ?_
  refine lv_iadd hx hb dX8_append_36 ?_
  refine lv_topi (fun x_12 ex_12 => ?_)
  obtain rfl : x_12 = nI (((k + 1) + 1) + 1) := ex_12.trans (nI_add ((k + 1) + 1) 1)
  refine va_put (ci := 8) (v := .int (nI (((k + 1) + 1) + 1))) (ty := .int) (C := RX8) (T := TX8) (N := 2) hx hb hts inX8 tyX8 tyX8_ok nmX8 hown hK hP hD hS 0 rfl rfl 1 (by decide) (hts _ gm_39) (fun _ h9 => h9) rfl (by decide +kernel) rfl rfl (Nat.le_of_ble_eq_true rfl) dX8_append_37 (fun H locs hP hD hS => ?_)
  have hP : va_P G vwCl [(h0, .inr (8, [.ref a0, .int (nI (((k + 1) + 1) + 1))])), (a0, .inl (cy 1, 800, .inl f_11))] H := hP
  have hD : va_D A [(h0, .inr (8, [.ref a0, .int (nI (((k + 1) + 1) + 1))])), (a0, .inl (cy 1, 800, .inl f_11))] := hD
  refine lv_iinc (v := (0)) (lv' := [(2, .int 0), (0, .ref h0), (1, .int x)]) hx hb dX8_append_40 hl (k := 0) rfl (by decide) (by decide) rfl (fun ls hl => ?_)
  refine lv_goto (tgt := 3) hx hb dX8_append_43 (by decide) ?_
  refine lv_iload_n hx hb dX8_append_3 rfl (lv_at hl 0 rfl) ?_
  refine lv_if_lt (tgt := 46) hx hb dX8_append_4 (by decide) (fun h9 => absurd h9 (by decide)) (fun _ => ?_)
  refine lv_aload_n hx hb dX8_append_7 rfl (lv_at hl 1 rfl) ?_
  refine va_get (ci := 8) (v := .int (nI (((k + 1) + 1) + 1))) (C := RX8) (T := TX8) (N := 2) hx hb hts inX8 hown hK hP 0 rfl rfl 1 (by decide) (hts _ gm_39) (fun _ h9 => h9) rfl dX8_append_8 ?_
  refine lv_sipush (v := 800) hx hb dX8_append_11 (by decide) ?_
  refine lv_icmp_ge (tgt := 46) hx hb dX8_append_14 (by decide) (fun h9 => absurd h9 (nI_ge (b := 800) (by omega) (by decide))) (fun _ => ?_)
  refine lv_aload_n hx hb dX8_append_17 rfl (lv_at hl 1 rfl) ?_
  refine va_get (ci := 8) (v := .ref a0) (C := RX8) (T := TX8) (N := 2) hx hb hts inX8 hown hK hP 0 rfl rfl 0 (by decide) (hts _ gm_38) (fun _ h9 => h9) rfl dX8_append_18 ?_
  refine lv_aload_n hx hb dX8_append_21 rfl (lv_at hl 1 rfl) ?_
  refine va_get (ci := 8) (v := .int (nI (((k + 1) + 1) + 1))) (C := RX8) (T := TX8) (N := 2) hx hb hts inX8 hown hK hP 0 rfl rfl 1 (by decide) (hts _ gm_39) (fun _ h9 => h9) rfl dX8_append_22 ?_
  refine lv_iload_n hx hb dX8_append_25 rfl (lv_at hl 2 rfl) ?_
  refine lv_iload_n hx hb dX8_append_26 rfl (lv_at hl 0 rfl) ?_
  refine lv_ishr hx hb dX8_append_27 ?_
  refine lv_topi (fun x_13 ex_13 => ?_)
  obtain ⟨x_14, ex_14⟩ : ∃ y : Int32, x_13.toInt8.toInt32 = y := ⟨_, rfl⟩
  refine lv_i2b hx hb dX8_append_28 ex_14 ?_
  refine va_bast hx hb hK hP hD hS 1 1 rfl rfl (vp_in_nI (by omega) (by decide)) dX8_append_29 (fun H locs hP hD hS => ?_)
  obtain ⟨f_15, ef_15⟩ : ∃ g : Nat → Int32, g = upd f_11 ((nI (((k + 1) + 1) + 1) : Int32)).toNatClampNeg (vp_nar .byte x_14) := ⟨_, rfl⟩
  have hP : va_P G vwCl [(h0, .inr (8, [.ref a0, .int (nI (((k + 1) + 1) + 1))])), (a0, .inl (cy 1, 800, .inl f_15))] H := ef_15 ▸ hP
  have hD : va_D A [(h0, .inr (8, [.ref a0, .int (nI (((k + 1) + 1) + 1))])), (a0, .inl (cy 1, 800, .inl f_15))] := ef_15 ▸ hD
  refine lv_aload_n hx hb dX8_append_30 rfl (lv_at hl 1 rfl) ?_
  refine lv_dup hx hb dX8_append_31 rfl ?_
  refine va_get (ci := 8) (v := .int (nI (((k + 1) + 1) + 1))) (C := RX8) (T := TX8) (N := 2) hx hb hts inX8 hown hK hP 0 rfl rfl 1 (by decide) (hts _ gm_39) (fun _ h9 => h9) rfl dX8_append_32 ?_
  refine lv_iconst (v := 1) hx hb dX8_append_35 (by decide) ?_
  refine lv_iadd hx hb dX8_append_36 ?_
  refine lv_topi (fun x_16 ex_16 => ?_)
  obtain rfl : x_16 = nI ((((k + 1) + 1) + 1) + 1) := ex_16.trans (nI_add (((k + 1) + 1) + 1) 1)
  refine va_put (ci := 8) (v := .int (nI ((((k + 1) + 1) + 1) + 1))) (ty := .int) (C := RX8) (T := TX8) (N := 2) hx hb hts inX8 tyX8 tyX8_ok nmX8 hown hK hP hD hS 0 rfl rfl 1 (by decide) (hts _ gm_39) (fun _ h9 => h9) rfl (by decide +kernel) rfl rfl (Nat.le_of_ble_eq_true rfl) dX8_append_37 (fun H locs hP hD hS => ?_)
  have hP : va_P G vwCl [(h0, .inr (8, [.ref a0, .int (nI ((((k + 1) + 1) + 1) + 1))])), (a0, .inl (cy 1, 800, .inl f_15))] H := hP
  have hD : va_D A [(h0, .inr (8, [.ref a0, .int (nI ((((k + 1) + 1) + 1) + 1))])), (a0, .inl (cy 1, 800, .inl f_15))] := hD
  refine lv_iinc (v := ((-8))) (lv' := [(2, .int (-8)), (0, .ref h0), (1, .int x)]) hx hb dX8_append_40 hl (k := 0) rfl (by decide) (by decide) rfl (fun ls hl => ?_)
  refine lv_goto (tgt := 3) hx hb dX8_append_43 (by decide) ?_
  refine lv_iload_n hx hb dX8_append_3 rfl (lv_at hl 0 rfl) ?_
  refine lv_if_lt (tgt := 46) hx hb dX8_append_4 (by decide) (fun _ => ?_) (fun h9 => absurd (by decide) h9)
  exact gz_vret (cf := (fun (u : Nat → Int32) => [(h0, .inr (8, [.ref a0, .int (nI (k + 4))])), (a0, .inl (cy 1, 800, .inl u))])) (post := (fun (u : Nat → Int32) => True)) hx hb hr hlocks hK hP hD hS f_15 [0, 1] trivial (by decide) rfl (Nat.le_of_ble_eq_true rfl) (Nat.le_of_ble_eq_true rfl) dX8_append_46
