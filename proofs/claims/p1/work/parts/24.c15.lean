
set_option maxHeartbeats 4000000 in
set_option maxRecDepth 100000 in
theorem law_c15 {p : Program} {e : Env} {s : State} {m : MethodId} {below : List Frame} {meth : Method} {c : Code} (l : Launch) (hlt : l.stackTraces = false) {b : Nat} {xs : Nat → Int32} (C0 : lw_At p s m meth c b 6 xs) (G : va_G) (cy : Nat → ClassId) (hK : va_K G vwCl (gzK cy) s) (hov : gOv s) (A : Nat → Prop) (hA : ∀ q, s.heap.size ≤ q → A q) (hAn : ∀ q, A q → s.heap.size ≤ q) (hth : gTh A s s.heap) (q0 q1 q2 : Nat) (u1 : (Nat → Nat) × (Nat → Nat) × (Nat → Nat)) (u2 : Nat → Nat) (H : Heap) (locs : List Loc) (ls : Array Slot) (hP : va_P G vwCl [(q0, .inr (9, [.ref (u1.1 0), .ref (u1.1 1), .ref (u1.1 2), .ref (u1.1 3), .ref (u1.1 4), .ref (u1.1 5), .ref (u1.1 6), .ref (u1.1 7), .ref (u1.1 8), .ref (u1.1 9), .int 0, .int 0])), ((u1.1 0), .inr (8, [.ref (u1.1 10), .int 0])), ((u1.1 10), .inl (cy 1, 800, .inl (fun _ => 0))), ((u1.1 1), .inr (7, [.ref (u1.1 0), .int 0, .int 0, .int 0, .int 0, .int 0])), ((u1.1 2), .inr (3, [.ref (u1.1 11), .ref (u1.1 12), .ref (u1.1 13)])), ((u1.1 11), .inl (cy 0, 6, .inl (fun _ => 0))), ((u1.1 12), .inl (cy 0, 6, .inl (fun _ => 0))), ((u1.1 13), .inl (cy 3, 6, .inr (.inr (.inr (.inr (fun i => if i < 6 then some (u1.2.1 i) else none)))))), ((u1.2.1 0), .inl (cy 0, 6, .inl (fun _ => 0))), ((u1.2.1 1), .inl (cy 0, 6, .inl (fun _ => 0))), ((u1.2.1 2), .inl (cy 0, 6, .inl (fun _ => 0))), ((u1.2.1 3), .inl (cy 0, 6, .inl (fun _ => 0))), ((u1.2.1 4), .inl (cy 0, 6, .inl (fun _ => 0))), ((u1.2.1 5), .inl (cy 0, 6, .inl (fun _ => 0))), ((u1.1 3), .inr (0, [.ref (u1.1 14)])), ((u1.1 14), .inl (cy 3, 6, .inr (.inr (.inr (.inr (fun i => if i < 6 then some (u1.2.2 i) else none)))))), ((u1.2.2 0), .inl (cy 0, 200, .inl (fun _ => (-1)))), ((u1.2.2 1), .inl (cy 0, 200, .inl (fun _ => (-1)))), ((u1.2.2 2), .inl (cy 0, 200, .inl (fun _ => (-1)))), ((u1.2.2 3), .inl (cy 0, 200, .inl (fun _ => (-1)))), ((u1.2.2 4), .inl (cy 0, 200, .inl (fun _ => (-1)))), ((u1.2.2 5), .inl (cy 0, 200, .inl (fun _ => (-1)))), ((u1.1 4), .inr (1, [.ref (u1.1 15), .ref (u1.1 16), .ref (u1.1 17)])), ((u1.1 15), .inl (cy 0, 6, .inl (fun _ => 0))), ((u1.1 16), .inl (cy 0, 6, .inl (fun _ => (-1)))), ((u1.1 17), .inl (cy 0, 6, .inl (fun _ => (-1)))), ((u1.1 5), .inr (5, [.ref (u1.1 18), .int 0])), ((u1.1 6), .inr (2, [.ref (u1.1 19), .ref (u1.1 20), .ref (u1.1 21), .ref (u1.1 22), .ref (u1.1 23)])), ((u1.1 19), .inl (cy 0, 4, .inl (fun _ => (-1)))), ((u1.1 7), .inr (4, [.int 0, .ref (u1.1 24), .ref (u1.1 25), .ref (u1.1 26), .ref (u1.1 27), .int 0, .ref (u1.1 28), .ref (u1.1 29), .ref (u1.1 30), .int 0, .ref (u1.1 31), .ref (u1.1 32), .ref (u1.1 33), .ref (u1.1 34)])), ((u1.1 25), .inl (cy 0, 6, .inl (fun _ => 0))), ((u1.1 26), .inl (cy 0, 6, .inl (fun _ => 0))), ((u1.1 27), .inl (cy 0, 6, .inl (fun _ => 0))), ((u1.1 8), .inr (4, [.int 0, .ref (u1.1 35), .ref (u1.1 36), .ref (u1.1 37), .ref (u1.1 38), .int 0, .ref (u1.1 39), .ref (u1.1 40), .ref (u1.1 41), .int 0, .ref (u1.1 42), .ref (u1.1 43), .ref (u1.1 44), .ref (u1.1 45)])), ((u1.1 36), .inl (cy 0, 6, .inl (fun _ => 0))), ((u1.1 37), .inl (cy 0, 6, .inl (fun _ => 0))), ((u1.1 38), .inl (cy 0, 6, .inl (fun _ => 0))), ((u1.1 9), .inr (6, [.ref (u1.1 2), .ref (u1.1 3), .ref (u1.1 6), .ref (u1.1 7), .int 0, .ref (u1.1 46), .ref (u1.1 47), .ref (u1.1 48), .ref (u1.1 49), .ref (u1.1 50), .int 0, .int 0, .ref (u1.1 51), .int 0, .int 0])), (q1, .inr (10, [.int 0, .ref (u2 0), .ref (u2 1), .ref (u2 2), .ref (u2 3), .ref (u2 4), .ref (u2 5), .int 0, .ref (u2 6), .int 0, .int 0, .int 0, .int 0, .int 0, .int 0, .int 0, .int 0, .long 0, .int 0, .int 0, .ref (u2 7), .ref (u2 8), .ref (u2 9), .ref (u2 10), .ref (u2 11), .ref (u2 12), .ref (u2 13), .ref (u2 14), .int 0, .int 0, .int 0, .ref (u2 15), .ref (u2 16), .ref (u2 17), .ref (u2 18), .ref (u2 19), .ref (u2 20), .int 0, .ref (u2 21), .ref (u2 22), .ref (u2 23), .ref (u2 24), .ref (u2 25), .ref (u2 26), .ref (u2 27), .ref (u2 28), .ref (u2 29), .ref (u2 30), .ref (u2 31), .ref (u2 32), .ref (u2 33), .ref (u2 34), .ref (u2 35), .ref (u2 36), .ref (u2 37), .int (-1), .int 0, .int 0, .int 0])), ((u2 0), .inl (cy 2, 6, .inl (fun _ => 0))), ((u2 1), .inl (cy 0, 6, .inl (fun _ => 0))), ((u2 2), .inl (cy 0, 6, .inl (fun _ => 0))), ((u2 3), .inl (cy 0, 6, .inl (fun _ => 0))), ((u2 4), .inl (cy 0, 6, .inl (fun _ => 0))), ((u2 5), .inl (cy 0, 1200, .inl (fun _ => (-1)))), ((u2 6), .inl (cy 1, 800, .inl (fun _ => 0))), ((u2 21), .inl (cy 2, 4, .inl (fun _ => 0))), ((u2 27), .inl (cy 0, 36, .inl (fun _ => 0))), (q2, .inl (cy 5, 1, .inr (.inl (fun _ => 0))))] H) (hD : va_D A [(q0, .inr (9, [.ref (u1.1 0), .ref (u1.1 1), .ref (u1.1 2), .ref (u1.1 3), .ref (u1.1 4), .ref (u1.1 5), .ref (u1.1 6), .ref (u1.1 7), .ref (u1.1 8), .ref (u1.1 9), .int 0, .int 0])), ((u1.1 0), .inr (8, [.ref (u1.1 10), .int 0])), ((u1.1 10), .inl (cy 1, 800, .inl (fun _ => 0))), ((u1.1 1), .inr (7, [.ref (u1.1 0), .int 0, .int 0, .int 0, .int 0, .int 0])), ((u1.1 2), .inr (3, [.ref (u1.1 11), .ref (u1.1 12), .ref (u1.1 13)])), ((u1.1 11), .inl (cy 0, 6, .inl (fun _ => 0))), ((u1.1 12), .inl (cy 0, 6, .inl (fun _ => 0))), ((u1.1 13), .inl (cy 3, 6, .inr (.inr (.inr (.inr (fun i => if i < 6 then some (u1.2.1 i) else none)))))), ((u1.2.1 0), .inl (cy 0, 6, .inl (fun _ => 0))), ((u1.2.1 1), .inl (cy 0, 6, .inl (fun _ => 0))), ((u1.2.1 2), .inl (cy 0, 6, .inl (fun _ => 0))), ((u1.2.1 3), .inl (cy 0, 6, .inl (fun _ => 0))), ((u1.2.1 4), .inl (cy 0, 6, .inl (fun _ => 0))), ((u1.2.1 5), .inl (cy 0, 6, .inl (fun _ => 0))), ((u1.1 3), .inr (0, [.ref (u1.1 14)])), ((u1.1 14), .inl (cy 3, 6, .inr (.inr (.inr (.inr (fun i => if i < 6 then some (u1.2.2 i) else none)))))), ((u1.2.2 0), .inl (cy 0, 200, .inl (fun _ => (-1)))), ((u1.2.2 1), .inl (cy 0, 200, .inl (fun _ => (-1)))), ((u1.2.2 2), .inl (cy 0, 200, .inl (fun _ => (-1)))), ((u1.2.2 3), .inl (cy 0, 200, .inl (fun _ => (-1)))), ((u1.2.2 4), .inl (cy 0, 200, .inl (fun _ => (-1)))), ((u1.2.2 5), .inl (cy 0, 200, .inl (fun _ => (-1)))), ((u1.1 4), .inr (1, [.ref (u1.1 15), .ref (u1.1 16), .ref (u1.1 17)])), ((u1.1 15), .inl (cy 0, 6, .inl (fun _ => 0))), ((u1.1 16), .inl (cy 0, 6, .inl (fun _ => (-1)))), ((u1.1 17), .inl (cy 0, 6, .inl (fun _ => (-1)))), ((u1.1 5), .inr (5, [.ref (u1.1 18), .int 0])), ((u1.1 6), .inr (2, [.ref (u1.1 19), .ref (u1.1 20), .ref (u1.1 21), .ref (u1.1 22), .ref (u1.1 23)])), ((u1.1 19), .inl (cy 0, 4, .inl (fun _ => (-1)))), ((u1.1 7), .inr (4, [.int 0, .ref (u1.1 24), .ref (u1.1 25), .ref (u1.1 26), .ref (u1.1 27), .int 0, .ref (u1.1 28), .ref (u1.1 29), .ref (u1.1 30), .int 0, .ref (u1.1 31), .ref (u1.1 32), .ref (u1.1 33), .ref (u1.1 34)])), ((u1.1 25), .inl (cy 0, 6, .inl (fun _ => 0))), ((u1.1 26), .inl (cy 0, 6, .inl (fun _ => 0))), ((u1.1 27), .inl (cy 0, 6, .inl (fun _ => 0))), ((u1.1 8), .inr (4, [.int 0, .ref (u1.1 35), .ref (u1.1 36), .ref (u1.1 37), .ref (u1.1 38), .int 0, .ref (u1.1 39), .ref (u1.1 40), .ref (u1.1 41), .int 0, .ref (u1.1 42), .ref (u1.1 43), .ref (u1.1 44), .ref (u1.1 45)])), ((u1.1 36), .inl (cy 0, 6, .inl (fun _ => 0))), ((u1.1 37), .inl (cy 0, 6, .inl (fun _ => 0))), ((u1.1 38), .inl (cy 0, 6, .inl (fun _ => 0))), ((u1.1 9), .inr (6, [.ref (u1.1 2), .ref (u1.1 3), .ref (u1.1 6), .ref (u1.1 7), .int 0, .ref (u1.1 46), .ref (u1.1 47), .ref (u1.1 48), .ref (u1.1 49), .ref (u1.1 50), .int 0, .int 0, .ref (u1.1 51), .int 0, .int 0])), (q1, .inr (10, [.int 0, .ref (u2 0), .ref (u2 1), .ref (u2 2), .ref (u2 3), .ref (u2 4), .ref (u2 5), .int 0, .ref (u2 6), .int 0, .int 0, .int 0, .int 0, .int 0, .int 0, .int 0, .int 0, .long 0, .int 0, .int 0, .ref (u2 7), .ref (u2 8), .ref (u2 9), .ref (u2 10), .ref (u2 11), .ref (u2 12), .ref (u2 13), .ref (u2 14), .int 0, .int 0, .int 0, .ref (u2 15), .ref (u2 16), .ref (u2 17), .ref (u2 18), .ref (u2 19), .ref (u2 20), .int 0, .ref (u2 21), .ref (u2 22), .ref (u2 23), .ref (u2 24), .ref (u2 25), .ref (u2 26), .ref (u2 27), .ref (u2 28), .ref (u2 29), .ref (u2 30), .ref (u2 31), .ref (u2 32), .ref (u2 33), .ref (u2 34), .ref (u2 35), .ref (u2 36), .ref (u2 37), .int (-1), .int 0, .int 0, .int 0])), ((u2 0), .inl (cy 2, 6, .inl (fun _ => 0))), ((u2 1), .inl (cy 0, 6, .inl (fun _ => 0))), ((u2 2), .inl (cy 0, 6, .inl (fun _ => 0))), ((u2 3), .inl (cy 0, 6, .inl (fun _ => 0))), ((u2 4), .inl (cy 0, 6, .inl (fun _ => 0))), ((u2 5), .inl (cy 0, 1200, .inl (fun _ => (-1)))), ((u2 6), .inl (cy 1, 800, .inl (fun _ => 0))), ((u2 21), .inl (cy 2, 4, .inl (fun _ => 0))), ((u2 27), .inl (cy 0, 36, .inl (fun _ => 0))), (q2, .inl (cy 5, 1, .inr (.inl (fun _ => 0))))]) (hS : va_S A s.heap H locs) (hl : lv_has ls 7 [(4, .int 0), (3, .ref q2), (2, .ref q1), (1, .ref q0), (0, .ref b)]) : W p l e room_1 s m #[Value.ref b] below meth c H locs 228 12730 (lw_Z below #[Value.ref b] s) (F0 m 766 ls []) := by
  obtain ⟨hx, hb, hr, hml, hown, hts0, hX, hbl, hlocks, hgv⟩ := id C0
  have hts : ∀ w ∈ gz_T, w.before #[Value.ref b] s = true := fun w h => hts0 w (List.mem_filter.mp h).1
  have hown : s.vm.findClass RL = some m.cls := hown
  have hbA : ¬ A b := fun q => Nat.not_le.mpr hbl (hAn b q)
  refine lv_aload_n hx hb dL_law_766 rfl (lv_at hl 3 rfl) ?_
  refine lv_aload_n hx hb dL_law_767 rfl (lv_at hl 4 rfl) ?_
  refine lv_iload hx hb dL_law_768 (lv_at hl 0 rfl) ?_
  refine lv_iconst (v := 1) hx hb dL_law_770 (by decide) ?_
  refine lv_iadd hx hb dL_law_771 ?_
  refine lv_topi (fun x_1 ex_1 => ?_)
  obtain rfl : x_1 = (1 : Int32) := ex_1.trans (by decide)
  refine va_sld hx hb hX hbl hbA hS (vp_in_iff.mpr (by decide)) dL_law_772 ?_
  refine lv_topi (fun x_2 ex_2 => ?_)
  obtain rfl : x_2 = xs 1 := ex_2
  refine lv_aload_n hx hb dL_law_773 rfl (lv_at hl 4 rfl) ?_
  refine lv_iload hx hb dL_law_774 (lv_at hl 0 rfl) ?_
  refine lv_iconst (v := 2) hx hb dL_law_776 (by decide) ?_
  refine lv_iadd hx hb dL_law_777 ?_
  refine lv_topi (fun x_3 ex_3 => ?_)
  obtain rfl : x_3 = (2 : Int32) := ex_3.trans (by decide)
  refine va_sld hx hb hX hbl hbA hS (vp_in_iff.mpr (by decide)) dL_law_778 ?_
  refine lv_topi (fun x_4 ex_4 => ?_)
  obtain rfl : x_4 = xs 2 := ex_4
  refine lv_aload_n hx hb dL_law_779 rfl (lv_at hl 4 rfl) ?_
  refine lv_iload hx hb dL_law_780 (lv_at hl 0 rfl) ?_
  refine lv_iconst (v := 3) hx hb dL_law_782 (by decide) ?_
  refine lv_iadd hx hb dL_law_783 ?_
  refine lv_topi (fun x_5 ex_5 => ?_)
  obtain rfl : x_5 = (3 : Int32) := ex_5.trans (by decide)
  refine va_sld hx hb hX hbl hbA hS (vp_in_iff.mpr (by decide)) dL_law_784 ?_
  refine lv_topi (fun x_6 ex_6 => ?_)
  obtain rfl : x_6 = xs 3 := ex_6
  refine lv_aload_n hx hb dL_law_785 rfl (lv_at hl 4 rfl) ?_
  refine lv_iload hx hb dL_law_786 (lv_at hl 0 rfl) ?_
  refine lv_iconst (v := 4) hx hb dL_law_788 (by decide) ?_
  refine lv_iadd hx hb dL_law_789 ?_
  refine lv_topi (fun x_7 ex_7 => ?_)
  obtain rfl : x_7 = (4 : Int32) := ex_7.trans (by decide)
  refine va_sld hx hb hX hbl hbA hS (vp_in_iff.mpr (by decide)) dL_law_790 ?_
  refine lv_topi (fun x_8 ex_8 => ?_)
  obtain rfl : x_8 = xs 4 := ex_8
  refine lv_aload_n hx hb dL_law_791 rfl (lv_at hl 4 rfl) ?_
  refine lv_iload hx hb dL_law_792 (lv_at hl 0 rfl) ?_
  refine lv_iconst (v := 5) hx hb dL_law_794 (by decide) ?_
  refine lv_iadd hx hb dL_law_795 ?_
  refine lv_topi (fun x_9 ex_9 => ?_)
  obtain rfl : x_9 = (5 : Int32) := ex_9.trans (by decide)
  refine va_sld hx hb hX hbl hbA hS (vp_in_iff.mpr (by decide)) dL_law_796 ?_
  refine lv_topi (fun x_10 ex_10 => ?_)
  obtain rfl : x_10 = xs 5 := ex_10
  refine gz_afti (va_runV (As := [.int (xs 1), .int (xs 2), .int (xs 3), .int (xs 4), .int (xs 5)]) (rest := []) ⟨hx, hb, hml, hown, hts⟩ (c_herd l G cy H.size q0 (u1.1 0) (u1.1 1) (u1.1 2) (u1.1 3) (u1.1 4) (u1.1 5) (u1.1 6) (u1.1 7) (u1.1 8) (u1.1 9) (u1.1 11) (u1.1 12) (u1.1 13) (xs 1) (xs 2) (xs 3) (xs 4) (xs 5) ((xs 1).toInt) ((xs 2).toInt) ((xs 3).toInt) ((xs 4).toInt) ((xs 5).toInt) rfl rfl rfl rfl rfl) ⟨(gz_cb (n := 5) hts gm_689 gm_1 gm_692 ⟨by decide +kernel, by decide +kernel, by decide +kernel⟩ ⟨Nat.le_of_ble_eq_true rfl, Nat.le_of_ble_eq_true rfl⟩), hts _ gm_690, hts _ gm_691⟩ (gz_preV (ci := 9) (q0 := 0) hK hov hP hD [0, 4, 5] (by decide) rfl rfl rfl) rfl rfl hl.1 rfl (lv_room (Nat.le_of_ble_eq_true rfl)) dL_law_797 ⟨Nat.le_of_ble_eq_true rfl, Nat.le_of_ble_eq_true rfl⟩) hP hD hS hA [0, 4, 5] [38, 39, 40, 41, 42, 43, 44, 45, 46, 47, 48] rfl rfl (by decide) (by decide) (fun r_11 u_11 H locs hw_11 hP hD hS => ?_)
  have hP : va_P G vwCl [(q1, .inr (10, [.int 0, .ref (u2 0), .ref (u2 1), .ref (u2 2), .ref (u2 3), .ref (u2 4), .ref (u2 5), .int 0, .ref (u2 6), .int 0, .int 0, .int 0, .int 0, .int 0, .int 0, .int 0, .int 0, .long 0, .int 0, .int 0, .ref (u2 7), .ref (u2 8), .ref (u2 9), .ref (u2 10), .ref (u2 11), .ref (u2 12), .ref (u2 13), .ref (u2 14), .int 0, .int 0, .int 0, .ref (u2 15), .ref (u2 16), .ref (u2 17), .ref (u2 18), .ref (u2 19), .ref (u2 20), .int 0, .ref (u2 21), .ref (u2 22), .ref (u2 23), .ref (u2 24), .ref (u2 25), .ref (u2 26), .ref (u2 27), .ref (u2 28), .ref (u2 29), .ref (u2 30), .ref (u2 31), .ref (u2 32), .ref (u2 33), .ref (u2 34), .ref (u2 35), .ref (u2 36), .ref (u2 37), .int (-1), .int 0, .int 0, .int 0])), ((u2 0), .inl (cy 2, 6, .inl (fun _ => 0))), ((u2 1), .inl (cy 0, 6, .inl (fun _ => 0))), ((u2 2), .inl (cy 0, 6, .inl (fun _ => 0))), ((u2 3), .inl (cy 0, 6, .inl (fun _ => 0))), ((u2 4), .inl (cy 0, 6, .inl (fun _ => 0))), ((u2 5), .inl (cy 0, 1200, .inl (fun _ => (-1)))), ((u2 6), .inl (cy 1, 800, .inl (fun _ => 0))), ((u2 21), .inl (cy 2, 4, .inl (fun _ => 0))), ((u2 27), .inl (cy 0, 36, .inl (fun _ => 0))), (q2, .inl (cy 5, 1, .inr (.inl (fun _ => 0))))] H := hP
  have hD : va_D A [(q1, .inr (10, [.int 0, .ref (u2 0), .ref (u2 1), .ref (u2 2), .ref (u2 3), .ref (u2 4), .ref (u2 5), .int 0, .ref (u2 6), .int 0, .int 0, .int 0, .int 0, .int 0, .int 0, .int 0, .int 0, .long 0, .int 0, .int 0, .ref (u2 7), .ref (u2 8), .ref (u2 9), .ref (u2 10), .ref (u2 11), .ref (u2 12), .ref (u2 13), .ref (u2 14), .int 0, .int 0, .int 0, .ref (u2 15), .ref (u2 16), .ref (u2 17), .ref (u2 18), .ref (u2 19), .ref (u2 20), .int 0, .ref (u2 21), .ref (u2 22), .ref (u2 23), .ref (u2 24), .ref (u2 25), .ref (u2 26), .ref (u2 27), .ref (u2 28), .ref (u2 29), .ref (u2 30), .ref (u2 31), .ref (u2 32), .ref (u2 33), .ref (u2 34), .ref (u2 35), .ref (u2 36), .ref (u2 37), .int (-1), .int 0, .int 0, .int 0])), ((u2 0), .inl (cy 2, 6, .inl (fun _ => 0))), ((u2 1), .inl (cy 0, 6, .inl (fun _ => 0))), ((u2 2), .inl (cy 0, 6, .inl (fun _ => 0))), ((u2 3), .inl (cy 0, 6, .inl (fun _ => 0))), ((u2 4), .inl (cy 0, 6, .inl (fun _ => 0))), ((u2 5), .inl (cy 0, 1200, .inl (fun _ => (-1)))), ((u2 6), .inl (cy 1, 800, .inl (fun _ => 0))), ((u2 21), .inl (cy 2, 4, .inl (fun _ => 0))), ((u2 27), .inl (cy 0, 36, .inl (fun _ => 0))), (q2, .inl (cy 5, 1, .inr (.inl (fun _ => 0))))] := hD
  obtain rfl := hw_11
  refine lv_aload_n hx hb dL_law_800 rfl (lv_at hl 2 rfl) ?_
  refine lv_aload_n hx hb dL_law_801 rfl (lv_at hl 4 rfl) ?_
  refine lv_iload hx hb dL_law_802 (lv_at hl 0 rfl) ?_
  refine lv_iconst (v := 1) hx hb dL_law_804 (by decide) ?_
  refine lv_iadd hx hb dL_law_805 ?_
  refine lv_topi (fun x_12 ex_12 => ?_)
  obtain rfl : x_12 = (1 : Int32) := ex_12.trans (by decide)
  refine va_sld hx hb hX hbl hbA hS (vp_in_iff.mpr (by decide)) dL_law_806 ?_
  refine lv_topi (fun x_13 ex_13 => ?_)
  obtain rfl : x_13 = xs 1 := ex_13
  refine lv_aload_n hx hb dL_law_807 rfl (lv_at hl 4 rfl) ?_
  refine lv_iload hx hb dL_law_808 (lv_at hl 0 rfl) ?_
  refine lv_iconst (v := 2) hx hb dL_law_810 (by decide) ?_
  refine lv_iadd hx hb dL_law_811 ?_
  refine lv_topi (fun x_14 ex_14 => ?_)
  obtain rfl : x_14 = (2 : Int32) := ex_14.trans (by decide)
  refine va_sld hx hb hX hbl hbA hS (vp_in_iff.mpr (by decide)) dL_law_812 ?_
  refine lv_topi (fun x_15 ex_15 => ?_)
  obtain rfl : x_15 = xs 2 := ex_15
  refine lv_aload_n hx hb dL_law_813 rfl (lv_at hl 4 rfl) ?_
  refine lv_iload hx hb dL_law_814 (lv_at hl 0 rfl) ?_
  refine lv_iconst (v := 3) hx hb dL_law_816 (by decide) ?_
  refine lv_iadd hx hb dL_law_817 ?_
  refine lv_topi (fun x_16 ex_16 => ?_)
  obtain rfl : x_16 = (3 : Int32) := ex_16.trans (by decide)
  refine va_sld hx hb hX hbl hbA hS (vp_in_iff.mpr (by decide)) dL_law_818 ?_
  refine lv_topi (fun x_17 ex_17 => ?_)
  obtain rfl : x_17 = xs 3 := ex_17
  refine lv_aload_n hx hb dL_law_819 rfl (lv_at hl 4 rfl) ?_
  refine lv_iload hx hb dL_law_820 (lv_at hl 0 rfl) ?_
  refine lv_iconst (v := 4) hx hb dL_law_822 (by decide) ?_
  refine lv_iadd hx hb dL_law_823 ?_
  refine lv_topi (fun x_18 ex_18 => ?_)
  obtain rfl : x_18 = (4 : Int32) := ex_18.trans (by decide)
  refine va_sld hx hb hX hbl hbA hS (vp_in_iff.mpr (by decide)) dL_law_824 ?_
  refine lv_topi (fun x_19 ex_19 => ?_)
  obtain rfl : x_19 = xs 4 := ex_19
  refine lv_aload_n hx hb dL_law_825 rfl (lv_at hl 4 rfl) ?_
  refine lv_iload hx hb dL_law_826 (lv_at hl 0 rfl) ?_
  refine lv_iconst (v := 5) hx hb dL_law_828 (by decide) ?_
  refine lv_iadd hx hb dL_law_829 ?_
  refine lv_topi (fun x_20 ex_20 => ?_)
  obtain rfl : x_20 = (5 : Int32) := ex_20.trans (by decide)
  refine va_sld hx hb hX hbl hbA hS (vp_in_iff.mpr (by decide)) dL_law_830 ?_
  refine lv_topi (fun x_21 ex_21 => ?_)
  obtain rfl : x_21 = xs 5 := ex_21
  refine gz_afti (va_runV (As := [.int (xs 1), .int (xs 2), .int (xs 3), .int (xs 4), .int (xs 5)]) (rest := [.int 0]) ⟨hx, hb, hml, hown, hts⟩ (m_herd l G cy H.size q1 (u2 0) (u2 1) (u2 2) (u2 3) (u2 4) (u2 5) (u2 6) (u2 7) (u2 8) (u2 9) (u2 10) (u2 11) (u2 12) (u2 13) (u2 14) (u2 15) (u2 16) (u2 17) (u2 18) (u2 19) (u2 20) (u2 21) (u2 22) (u2 23) (u2 24) (u2 25) (u2 26) (u2 27) (u2 28) (u2 29) (u2 30) (u2 31) (u2 32) (u2 33) (u2 34) (u2 35) (u2 36) (u2 37) (xs 1) (xs 2) (xs 3) (xs 4) (xs 5) ((xs 1).toInt) ((xs 2).toInt) ((xs 3).toInt) ((xs 4).toInt) ((xs 5).toInt) rfl rfl rfl rfl rfl) ⟨(gz_cb (n := 5) hts gm_1260 gm_12 gm_1263 ⟨by decide +kernel, by decide +kernel, by decide +kernel⟩ ⟨Nat.le_of_ble_eq_true rfl, Nat.le_of_ble_eq_true rfl⟩), hts _ gm_1261, hts _ gm_1262⟩ (gz_preV (ci := 10) (q0 := 0) hK hov hP hD [0, 1] (by decide) rfl rfl rfl) rfl rfl hl.1 rfl (lv_room (Nat.le_of_ble_eq_true rfl)) dL_law_831 ⟨Nat.le_of_ble_eq_true rfl, Nat.le_of_ble_eq_true rfl⟩) hP hD hS hA [0, 1] [2, 3, 4, 5, 6, 7, 8, 9, 10] rfl rfl (by decide) (by decide) (fun r_22 u_22 H locs hw_22 hP hD hS => ?_)
  have hP : va_P G vwCl [((u2 1), .inl (cy 0, 6, .inl (fun _ => 0))), ((u2 2), .inl (cy 0, 6, .inl (fun _ => 0))), ((u2 3), .inl (cy 0, 6, .inl (fun _ => 0))), ((u2 4), .inl (cy 0, 6, .inl (fun _ => 0))), ((u2 5), .inl (cy 0, 1200, .inl (fun _ => (-1)))), ((u2 6), .inl (cy 1, 800, .inl (fun _ => 0))), ((u2 21), .inl (cy 2, 4, .inl (fun _ => 0))), ((u2 27), .inl (cy 0, 36, .inl (fun _ => 0))), (q2, .inl (cy 5, 1, .inr (.inl (fun _ => 0))))] H := hP
  have hD : va_D A [((u2 1), .inl (cy 0, 6, .inl (fun _ => 0))), ((u2 2), .inl (cy 0, 6, .inl (fun _ => 0))), ((u2 3), .inl (cy 0, 6, .inl (fun _ => 0))), ((u2 4), .inl (cy 0, 6, .inl (fun _ => 0))), ((u2 5), .inl (cy 0, 1200, .inl (fun _ => (-1)))), ((u2 6), .inl (cy 1, 800, .inl (fun _ => 0))), ((u2 21), .inl (cy 2, 4, .inl (fun _ => 0))), ((u2 27), .inl (cy 0, 36, .inl (fun _ => 0))), (q2, .inl (cy 5, 1, .inr (.inl (fun _ => 0))))] := hD
  obtain rfl := hw_22
  refine lv_icmp_eq (tgt := 1056) hx hb dL_law_834 (by decide) (fun _ => ?_) (fun h9 => absurd (by decide) h9)
  exact law_end l hlt C0 G cy hK hov A hA hAn hth (q0 := q0) (q1 := q1) (q2 := q2) (by decide) (by decide) H _ ls hS (lv_sub hl [0, 4] rfl)
