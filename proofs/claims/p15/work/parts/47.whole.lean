theorem gm_24 : (Jvm.Cond.classLink "WellCourtLaw" (8 : Nat) "WellCourt") ∈ gz_T := gz_at 24 (by decide +kernel) rfl
theorem gm_26 : (Jvm.Cond.methodLink "WellCourtLaw" (20 : Nat) ({ cls := "WellCourt", name := "<init>", desc := "()V" } : Jvm.MethodName)) ∈ gz_T := gz_at 26 (by decide +kernel) rfl
theorem gm_27 : (Jvm.Cond.instanceMethod ({ cls := "WellCourt", name := "<init>", desc := "()V" } : Jvm.MethodName)) ∈ gz_T := gz_at 27 (by decide +kernel) rfl
theorem gm_28 : (Jvm.Cond.code ({ cls := "WellCourt", name := "<init>", desc := "()V" } : Jvm.MethodName) prog_1_method_1_code (1 : Nat) (Option.none : Option Jvm.ClassFile.FieldType)) ∈ gz_T := gz_at 28 (by decide +kernel) rfl
theorem gm_895 : (Jvm.Cond.classLink "WellCourtLaw" (21 : Nat) "WellCourtModel") ∈ gz_T := gz_at 895 (by decide +kernel) rfl
theorem gm_897 : (Jvm.Cond.methodLink "WellCourtLaw" (23 : Nat) ({ cls := "WellCourtModel", name := "<init>", desc := "()V" } : Jvm.MethodName)) ∈ gz_T := gz_at 897 (by decide +kernel) rfl
theorem gm_898 : (Jvm.Cond.instanceMethod ({ cls := "WellCourtModel", name := "<init>", desc := "()V" } : Jvm.MethodName)) ∈ gz_T := gz_at 898 (by decide +kernel) rfl
theorem gm_899 : (Jvm.Cond.code ({ cls := "WellCourtModel", name := "<init>", desc := "()V" } : Jvm.MethodName) prog_12_method_2_code (2 : Nat) (Option.none : Option Jvm.ClassFile.FieldType)) ∈ gz_T := gz_at 899 (by decide +kernel) rfl
theorem gm_1305 : (Jvm.Cond.arrayClass Jvm.ClassFile.FieldType.long) ∈ gz_T := gz_at 1305 (by decide +kernel) rfl
theorem dfX9 : ∀ j, j < 12 → defaultValue (tyX9 j) = vp_V [.null, .null, .null, .null, .null, .null, .null, .null, .null, .null, .int 0, .int 0] j := by decide +kernel
theorem dfX10 : ∀ j, j < 59 → defaultValue (tyX10 j) = vp_V [.int 0, .null, .null, .null, .null, .null, .null, .int 0, .null, .int 0, .int 0, .int 0, .int 0, .int 0, .int 0, .int 0, .int 0, .long 0, .int 0, .int 0, .null, .null, .null, .null, .null, .null, .null, .null, .int 0, .int 0, .int 0, .null, .null, .null, .null, .null, .null, .int 0, .null, .null, .null, .null, .null, .null, .null, .null, .null, .null, .null, .null, .null, .null, .null, .null, .null, .int 0, .int 0, .int 0, .int 0] j := by decide +kernel
theorem dL_law_0 : decode cL_law 0 = .ok (.new 8, 3) := by decide +kernel
theorem dL_law_3 : decode cL_law 3 = .ok (.dup, 1) := by decide +kernel
theorem dL_law_4 : decode cL_law 4 = .ok (.invokespecial 20, 3) := by decide +kernel
theorem dL_law_7 : decode cL_law 7 = .ok (.astore_n 1, 1) := by decide +kernel
theorem dL_law_8 : decode cL_law 8 = .ok (.new 21, 3) := by decide +kernel
theorem dL_law_11 : decode cL_law 11 = .ok (.dup, 1) := by decide +kernel
theorem dL_law_12 : decode cL_law 12 = .ok (.invokespecial 23, 3) := by decide +kernel
theorem dL_law_15 : decode cL_law 15 = .ok (.astore_n 2, 1) := by decide +kernel
theorem dL_law_16 : decode cL_law 16 = .ok (.iconst 1, 1) := by decide +kernel
theorem dL_law_17 : decode cL_law 17 = .ok (.newarray .long, 2) := by decide +kernel
theorem dL_law_19 : decode cL_law 19 = .ok (.astore_n 3, 1) := by decide +kernel
theorem dL_law_20 : decode cL_law 20 = .ok (.iconst 0, 1) := by decide +kernel
theorem dL_law_21 : decode cL_law 21 = .ok (.istore 4, 2) := by decide +kernel
set_option maxHeartbeats 8000000 in
set_option maxRecDepth 100000 in
/-- THE LAW, from its entry -/
theorem whole_start {p : Program} {e : Env} {s : State} {m : MethodId} {below : List Frame} {meth : Method} {c : Code} (l : Launch) (hlt : l.stackTraces = false) {b L : Nat} {xs : Nat → Int32} (hL : L ≤ 3072) (C0 : lw_At p s m meth c b L xs) : W p l e room_1 s m #[Value.ref b] below meth c s.heap [] 0 0 (lw_Z below #[Value.ref b] s) (entryFrame m ([Value.ref b] : List Value).toArray 7) := by
  obtain ⟨hx, hb, hr, hml, hown, hts0, hX, hbl, hlocks, hgv⟩ := id C0
  have hts : ∀ w ∈ gz_T, w.before #[Value.ref b] s = true := fun w h => hts0 w (List.mem_filter.mp h).1
  have hown : s.vm.findClass RL = some m.cls := hown
  obtain ⟨A, hA, hAn⟩ : ∃ A : Nat → Prop, (∀ q, s.heap.size ≤ q → A q) ∧ (∀ q, A q → s.heap.size ≤ q) := ⟨fun q => s.heap.size ≤ q, fun _ h => h, fun _ h => h⟩
  have hbA : ¬ A b := fun q => Nat.not_le.mpr hbl (hAn b q)
  obtain ⟨G, cy, hK, hov⟩ := law_world hts0
  obtain ⟨sK, sV, hst⟩ := law_str hts0 hgv hAn
  have hE : gE sK sV A s s.heap := ⟨law_throw hts0 hgv hAn, hst⟩
  have hS : va_S A s.heap s.heap [] := va_S.rf
  have hP : va_P G vwCl [] s.heap := fun k q h => by simp at h
  have hD : va_D A [] := ⟨fun i j p q h => by simp at h, fun k q h => by simp at h⟩
  have hl := lv_entry ([.ref b]) (n := 7) (Nat.le_of_ble_eq_true rfl)
  rw [lg_entry_eq]
  generalize (lg_sl ([.ref b]) ++ List.replicate (7 - (lg_sl ([.ref b])).length) Slot.unset).toArray = ls at hl ⊢
  have hl : lv_has ls 7 [(0, .ref b)] := hl
  refine va_new (ci := 9) (fs := [.null, .null, .null, .null, .null, .null, .null, .null, .null, .null, .int 0, .int 0]) (C := RX9) (T := TX9) (N := 12) hx hb hts inX9 tyX9 tyX9_ok hown (hts _ gm_24) (hts _ gm_25) (hts _ gm_1) hK hP hD hS hA rfl dfX9 (Nat.le_of_ble_eq_true rfl) (Nat.le_of_ble_eq_true rfl) dL_law_0 (fun q_1 H hP hD hS => ?_)
  have hP : va_P G vwCl ((q_1, .inr (9, [.null, .null, .null, .null, .null, .null, .null, .null, .null, .null, .int 0, .int 0])) :: []) H := gzo_P hP (gzo_rot _ _)
  have hD : va_D A ((q_1, .inr (9, [.null, .null, .null, .null, .null, .null, .null, .null, .null, .null, .int 0, .int 0])) :: []) := gzo_D hD (gzo_rot _ _)
  refine W.widen (k := 1) (n := 12) (Nat.le_of_ble_eq_true rfl) (Nat.le_of_ble_eq_true rfl) ?_
  refine lv_dup hx hb dL_law_3 rfl ?_
  refine gzo_aftv (x := (q_1, .inr (9, [.null, .null, .null, .null, .null, .null, .null, .null, .null, .null, .int 0, .int 0]))) (tl := []) (va_runI (As := []) (rest := [.ref q_1]) ⟨hx, hb, hml, hown, hts⟩ (c_Court_init l G cy H.size q_1) ⟨(gz_cb (n := 0) hts gm_26 gm_1 gm_28 ⟨by decide +kernel, by decide +kernel, by decide +kernel⟩ ⟨Nat.le_of_ble_eq_true rfl, Nat.le_of_ble_eq_true rfl⟩), rfl, hts _ gm_27⟩ (gz_preS hK hov hP hD [0] (by decide) rfl) rfl rfl hl.1 rfl (lv_room (Nat.le_of_ble_eq_true rfl)) dL_law_4 ⟨Nat.le_of_ble_eq_true rfl, Nat.le_of_ble_eq_true rfl⟩) hP hD hS hA (fun u_2 H locs hw_2 hP hD hS => ?_)
  obtain ⟨tl_3, etl_3⟩ : ∃ w : va_W, w = (wCourt cy q_1 u_2) ++ [] := ⟨_, rfl⟩
  have hP : va_P G vwCl (tl_3) H := by rw [etl_3]; exact gzo_P hP (gzo_st (wCourt cy q_1 u_2) [] [])
  have hD : va_D A (tl_3) := by rw [etl_3]; exact gzo_D hD (gzo_st (wCourt cy q_1 u_2) [] [])
  refine W.widen (k := 188) (n := 5840) (Nat.le_of_ble_eq_true rfl) (Nat.le_of_ble_eq_true rfl) ?_
  refine lv_astore_n (lv' := [(1, .ref q_1), (0, .ref b)]) hx hb dL_law_7 rfl hl (by decide) rfl (fun ls hl => ?_)
  refine va_new (ci := 10) (fs := [.int 0, .null, .null, .null, .null, .null, .null, .int 0, .null, .int 0, .int 0, .int 0, .int 0, .int 0, .int 0, .int 0, .int 0, .long 0, .int 0, .int 0, .null, .null, .null, .null, .null, .null, .null, .null, .int 0, .int 0, .int 0, .null, .null, .null, .null, .null, .null, .int 0, .null, .null, .null, .null, .null, .null, .null, .null, .null, .null, .null, .null, .null, .null, .null, .null, .null, .int 0, .int 0, .int 0, .int 0]) (C := RX10) (T := TX10) (N := 59) hx hb hts inX10 tyX10 tyX10_ok hown (hts _ gm_895) (hts _ gm_896) (hts _ gm_12) hK hP hD hS hA rfl dfX10 (Nat.le_of_ble_eq_true rfl) (Nat.le_of_ble_eq_true rfl) dL_law_8 (fun q_4 H hP hD hS => ?_)
  have hP : va_P G vwCl ((q_4, .inr (10, [.int 0, .null, .null, .null, .null, .null, .null, .int 0, .null, .int 0, .int 0, .int 0, .int 0, .int 0, .int 0, .int 0, .int 0, .long 0, .int 0, .int 0, .null, .null, .null, .null, .null, .null, .null, .null, .int 0, .int 0, .int 0, .null, .null, .null, .null, .null, .null, .int 0, .null, .null, .null, .null, .null, .null, .null, .null, .null, .null, .null, .null, .null, .null, .null, .null, .null, .int 0, .int 0, .int 0, .int 0])) :: tl_3) H := gzo_P hP (gzo_rot _ _)
  have hD : va_D A ((q_4, .inr (10, [.int 0, .null, .null, .null, .null, .null, .null, .int 0, .null, .int 0, .int 0, .int 0, .int 0, .int 0, .int 0, .int 0, .int 0, .long 0, .int 0, .int 0, .null, .null, .null, .null, .null, .null, .null, .null, .int 0, .int 0, .int 0, .null, .null, .null, .null, .null, .null, .int 0, .null, .null, .null, .null, .null, .null, .null, .null, .null, .null, .null, .null, .null, .null, .null, .null, .null, .int 0, .int 0, .int 0, .int 0])) :: tl_3) := gzo_D hD (gzo_rot _ _)
  refine W.widen (k := 189) (n := 5899) (Nat.le_of_ble_eq_true rfl) (Nat.le_of_ble_eq_true rfl) ?_
  refine lv_dup hx hb dL_law_11 rfl ?_
  refine gzo_aftv (x := (q_4, .inr (10, [.int 0, .null, .null, .null, .null, .null, .null, .int 0, .null, .int 0, .int 0, .int 0, .int 0, .int 0, .int 0, .int 0, .int 0, .long 0, .int 0, .int 0, .null, .null, .null, .null, .null, .null, .null, .null, .int 0, .int 0, .int 0, .null, .null, .null, .null, .null, .null, .int 0, .null, .null, .null, .null, .null, .null, .null, .null, .null, .null, .null, .null, .null, .null, .null, .null, .null, .int 0, .int 0, .int 0, .int 0]))) (tl := tl_3) (va_runI (As := []) (rest := [.ref q_4]) ⟨hx, hb, hml, hown, hts⟩ (c_Model_init l G cy H.size q_4) ⟨(gz_cb (n := 0) hts gm_897 gm_12 gm_899 ⟨by decide +kernel, by decide +kernel, by decide +kernel⟩ ⟨Nat.le_of_ble_eq_true rfl, Nat.le_of_ble_eq_true rfl⟩), rfl, hts _ gm_898⟩ (gz_preS hK hov hP hD [0] (by decide) rfl) rfl rfl hl.1 rfl (lv_room (Nat.le_of_ble_eq_true rfl)) dL_law_12 ⟨Nat.le_of_ble_eq_true rfl, Nat.le_of_ble_eq_true rfl⟩) hP hD hS hA (fun u_5 H locs hw_5 hP hD hS => ?_)
  obtain ⟨tl_6, etl_6⟩ : ∃ w : va_W, w = (wModel cy q_4 u_5) ++ tl_3 := ⟨_, rfl⟩
  have hP : va_P G vwCl (tl_6) H := by rw [etl_6]; exact gzo_P hP (gzo_st (wModel cy q_4 u_5) [] tl_3)
  have hD : va_D A (tl_6) := by rw [etl_6]; exact gzo_D hD (gzo_st (wModel cy q_4 u_5) [] tl_3)
  refine W.widen (k := 227) (n := 12729) (Nat.le_of_ble_eq_true rfl) (Nat.le_of_ble_eq_true rfl) ?_
  refine lv_astore_n (lv' := [(2, .ref q_4), (1, .ref q_1), (0, .ref b)]) hx hb dL_law_15 rfl hl (by decide) rfl (fun ls hl => ?_)
  refine lv_iconst (v := 1) hx hb dL_law_16 (by decide) ?_
  refine gz_newa (atype := .long) (t0 := 5) (a0 := (1, .inr (.inl (fun _ => 0)))) hx hb rfl (fun _ _ h9 => h9) (hts _ gm_1305) rfl hK hP hD hS hA (fun _ => rfl) (by decide) (by decide) (Nat.le_of_ble_eq_true rfl) (Nat.le_of_ble_eq_true rfl) (Nat.le_of_ble_eq_true rfl) dL_law_17 (fun q_o H hP hD hS => ?_)
  have hP : va_P G vwCl (tl_6 ++ [(q_o, gO cy (fun _ => 0))]) H := hP
  have hD : va_D A (tl_6 ++ [(q_o, gO cy (fun _ => 0))]) := hD
  refine lv_astore_n (lv' := [(3, .ref q_o), (2, .ref q_4), (1, .ref q_1), (0, .ref b)]) hx hb dL_law_19 rfl hl (by decide) rfl (fun ls hl => ?_)
  refine lv_iconst (v := 0) hx hb dL_law_20 (by decide) ?_
  refine lv_istore (lv' := [(4, .int 0), (3, .ref q_o), (2, .ref q_4), (1, .ref q_1), (0, .ref b)]) hx hb dL_law_21 hl (by decide) rfl (fun ls hl => ?_)
  have eL : tl_6 ++ [(q_o, gO cy (fun _ => 0))] = wModel cy q_4 u_5 ++ (wCourt cy q_1 u_2 ++ [(q_o, gO cy (fun _ => 0))]) := by rw [etl_6, etl_3, List.append_nil, List.append_assoc]
  rw [eL] at hP hD
  obtain ⟨hM2, hI2, hm2, hn2, hin2⟩ := model_gM hP hD
  obtain ⟨hM1, hI1, hm1, hn1⟩ := court_gM (gzo_P hP (gzo_st (wModel cy q_4 u_5) (wCourt cy q_1 u_2) [(q_o, gO cy (fun _ => 0))])) (gzo_D hD (gzo_st (wModel cy q_4 u_5) (wCourt cy q_1 u_2) [(q_o, gO cy (fun _ => 0))]))
  have hO : va_at G vwCl (q_o, gO cy (fun _ => 0)) H := gzo_mem.mp hP _ (List.mem_append_right _ (List.mem_append_right _ (List.mem_singleton.mpr rfl)))
  have hAo : A q_o := (gzo_nd.mp hD).2 _ (List.mem_append_right _ (List.mem_append_right _ (List.mem_singleton.mpr rfl)))
  have hAp : gAp (adX q_1 u_2) (adM q_4 u_5) q_o := ⟨hI1, hI2, fun k i k' i' hi hi' e9 => hn1 k i hi _ (List.mem_append_left _ (hin2 k' i' hi')) e9.symm, fun k i hi e9 => hn1 k i hi _ (List.mem_append_right _ (List.mem_singleton.mpr rfl)) e9.symm, fun k i hi e9 => hn2 k i hi _ (List.mem_append_right _ (List.mem_singleton.mpr rfl)) e9.symm⟩
  exact law_loop l hlt C0 G cy sK sV hK hov A hA hAn hE (adX q_1 u_2) (adM q_4 u_5) q_o hAp hm1 hm2 hAo hL 513 st0X st0M (fun _ => 0) 0 228 12730 H _ ls (by have h0 : (0 : Int32).toInt = 0 := (by decide); omega) (by decide) (by have h0 : (0 : Int32).toInt = 0 := (by decide); omega) st0X_bd mInv.new lRel.new (by decide) (by decide) ⟨hM1, hM2, hO⟩ hS (lv_sub hl [0, 1, 2, 3, 4] rfl)
