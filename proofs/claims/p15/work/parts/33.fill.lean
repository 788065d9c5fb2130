
theorem dJ7_0 : decode cJ7_fill_53178 0 = .ok (.iconst 0, 1) := by decide +kernel
theorem dJ7_1 : decode cJ7_fill_53178 1 = .ok (.istore_n 2, 1) := by decide +kernel
theorem dJ7_2 : decode cJ7_fill_53178 2 = .ok (.aload_n 0, 1) := by decide +kernel
theorem dJ7_3 : decode cJ7_fill_53178 3 = .ok (.arraylength, 1) := by decide +kernel
theorem dJ7_4 : decode cJ7_fill_53178 4 = .ok (.istore_n 3, 1) := by decide +kernel
theorem dJ7_5 : decode cJ7_fill_53178 5 = .ok (.iload_n 2, 1) := by decide +kernel
theorem dJ7_6 : decode cJ7_fill_53178 6 = .ok (.iload_n 3, 1) := by decide +kernel
theorem dJ7_7 : decode cJ7_fill_53178 7 = .ok (.if_icmp .ge 13, 3) := by decide +kernel
theorem dJ7_10 : decode cJ7_fill_53178 10 = .ok (.aload_n 0, 1) := by decide +kernel
theorem dJ7_11 : decode cJ7_fill_53178 11 = .ok (.iload_n 2, 1) := by decide +kernel
theorem dJ7_12 : decode cJ7_fill_53178 12 = .ok (.iload_n 1, 1) := by decide +kernel
theorem dJ7_13 : decode cJ7_fill_53178 13 = .ok (.iastore, 1) := by decide +kernel
theorem dJ7_14 : decode cJ7_fill_53178 14 = .ok (.iinc 2 1, 3) := by decide +kernel
theorem dJ7_17 : decode cJ7_fill_53178 17 = .ok (.goto (-12), 3) := by decide +kernel
theorem dJ7_20 : decode cJ7_fill_53178 20 = .ok (.return_, 1) := by decide +kernel
set_option maxHeartbeats 4000000 in
set_option maxRecDepth 100000 in
theorem lp_fill {p : Program} {l : Launch} {e : Env} {R : Room} {s : State} {m : MethodId} {args : Array Value} {below : List Frame} {meth : Method} {c : Code} {cells slots : Nat} {Q : State → Prop} {G : va_G} {cy : Nat → ClassId} {A : Nat → Prop} {h0 n : Nat} {v : Int32}
    (hx : p.tables.exec = Jvm.exec) (hb : c.code = cJ7_fill_53178) (hK : va_K G vwCl (gzK cy) s) (hn : n < 2 ^ 31)
    (kend : ∀ (H : Heap) (locs : List Loc) (ls : Array Slot), va_P G vwCl [(h0, .inl (cy 0, n, .inl (fun _ => v)))] H → va_D A [(h0, .inl (cy 0, n, .inl (fun _ => v)))] → va_S A s.heap H locs → W p l e R s m args below meth c H locs cells slots Q (F0 m 20 ls [])) :
    ∀ (k i : Nat), i + k = n → ∀ (g : Nat → Int32), (∀ j, j < i → g j = v) → ∀ (H : Heap) (locs : List Loc) (ls : Array Slot), va_P G vwCl [(h0, .inl (cy 0, n, .inl g))] H → va_D A [(h0, .inl (cy 0, n, .inl g))] → va_S A s.heap H locs → lv_has ls 4 [(0, .ref h0), (1, .int v), (2, .int (nI i)), (3, .int (nI n))] → W p l e R s m args below meth c H locs cells slots Q (F0 m 5 ls []) := by
  intro k
  induction k with
  | zero =>
    intro i hi g hg H locs ls hP hD hS hl
    obtain rfl : i = n := by omega
    refine lv_iload_n hx hb dJ7_5 rfl (lv_at hl 2 rfl) ?_
    refine lv_iload_n hx hb dJ7_6 rfl (lv_at hl 3 rfl) ?_
    refine lv_icmp_ge (tgt := 20) hx hb dJ7_7 (by decide) (fun _ => ?_) (fun h9 => absurd (nI_le (Nat.le_refl _) hn) h9)
    exact kend H locs ls (gz_arr (k := 0) (g := fun _ => v) hg hP rfl) (hD.set (p := 0) rfl) hS
  | succ k ih =>
    intro i hi g hg H locs ls hP hD hS hl
    refine lv_iload_n hx hb dJ7_5 rfl (lv_at hl 2 rfl) ?_
    refine lv_iload_n hx hb dJ7_6 rfl (lv_at hl 3 rfl) ?_
    refine lv_icmp_ge (tgt := 20) hx hb dJ7_7 (by decide) (fun h9 => absurd h9 (nI_ge (by omega) hn)) (fun _ => ?_)
    refine lv_aload_n hx hb dJ7_10 rfl (lv_at hl 0 rfl) ?_
    refine lv_iload_n hx hb dJ7_11 rfl (lv_at hl 2 rfl) ?_
    refine lv_iload_n hx hb dJ7_12 rfl (lv_at hl 1 rfl) ?_
    refine va_iast hx hb hK hP hD hS 0 0 rfl rfl (vp_in_nI (by omega) hn) dJ7_13 (fun H locs hP hD hS => ?_)
    refine lv_iinc (v := nI (i + 1)) (lv' := [(2, .int (nI (i + 1))), (0, .ref h0), (1, .int v), (3, .int (nI n))]) hx hb dJ7_14 hl (k := 2) rfl (nI_1 i) (by decide) rfl (fun ls hl => ?_)
    refine lv_goto (tgt := 5) hx hb dJ7_17 (by decide) ?_
    refine ih (i + 1) (by omega) (upd g (nI i).toNatClampNeg v) (fun j hj => ?_) H locs ls hP hD hS (lv_sub hl [1, 2, 0, 3] rfl)
    rw [nI_clamp (by omega)]
    by_cases e : j = i
    · rw [e]; exact pk_us
    · rw [pk_un e]; exact hg j (by omega)
set_option maxHeartbeats 4000000 in
set_option maxRecDepth 100000 in
/-- Arrays.fill(a, v) -/
theorem c_fill (l : Launch) (G : va_G) (cy : Nat → ClassId) (sz : Nat) (h0 n : Nat) (f : Nat → Int32) (v : Int32) (hn : n < 2 ^ 31) : gMv l yJ7_fill_53178 cJ7_fill_53178 4 ({ frames := 0, cells := 0, slots := 0, locals := 0 }) G cy sz [.ref h0, .int v] [(h0, .inl (cy 0, n, .inl f))] (fun (u : Unit) => True) (fun (u : Unit) => [(h0, .inl (cy 0, n, .inl (fun _ => v)))]) := by
  refine gz_start (fun A => gQv G cy _ _ A) (by decide) (Nat.le_of_ble_eq_true rfl) ?_
  intro p e s m below meth c A ls H hx hb hr hml hlocks hin hown hts hK hov hsz hP hD hS hA hl
  have hl : lv_has ls 4 [(0, .ref h0), (1, .int v)] := hl
  refine lv_iconst (v := 0) hx hb dJ7_0 (by decide) ?_
  refine lv_istore_n (lv' := [(2, .int 0), (0, .ref h0), (1, .int v)]) hx hb dJ7_1 rfl hl (by decide) rfl (fun ls hl => ?_)
  refine lv_aload_n hx hb dJ7_2 rfl (lv_at hl 1 rfl) ?_
  refine va_alen (v := nI n) hx hb hK hP 0 0 rfl rfl rfl dJ7_3 ?_
  refine lv_istore_n (lv' := [(3, .int (nI n)), (2, .int 0), (0, .ref h0), (1, .int v)]) hx hb dJ7_4 rfl hl (by decide) rfl (fun ls hl => ?_)
  exact lp_fill hx hb hK hn (fun H locs ls hP hD hS => gz_vret (cf := (fun (u : Unit) => [(h0, .inl (cy 0, n, .inl (fun _ => v)))])) hx hb hr hlocks hK hP hD hS () [0] trivial (by decide) rfl (Nat.le_refl _) (Nat.le_refl _) dJ7_20) n 0 (by omega) f (fun j hj => absurd hj (Nat.not_lt_zero j)) H _ ls hP hD hS (lv_sub hl [2, 3, 1, 0] rfl)
