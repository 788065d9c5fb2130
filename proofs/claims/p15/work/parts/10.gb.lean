/-! bounds and frames of whole states -/
theorem gi_lo (x : Int32) : (-2147483648 : Int) ≤ x.toInt := Int32.le_toInt x
theorem gi_hi (x : Int32) : x.toInt ≤ (2147483647 : Int) := Int32.toInt_le x
/-- every int lies within its place's bounds -/
def gBd (b : Nat → Nat → Int × Int) (st : gS) : Prop := ∀ k i j, (b k j).1 ≤ (st k i j).toInt ∧ (st k i j).toInt ≤ (b k j).2
/-- nothing changes but the places fs -/
def gF (ky : Nat → Nat → Nat) (fs : List Nat) (st u : gS) : Prop := ∀ k i j, ky k j ∉ fs → u k i j = st k i j
def gBN (b : Nat → Nat → Int × Int) (ky : Nat → Nat → Nat) (fs : List Nat) (st u : gS) : Prop := gBd b u ∧ gF ky fs st u
theorem gBN.rf {b : Nat → Nat → Int × Int} {ky : Nat → Nat → Nat} {fs : List Nat} {st : gS} (h : gBd b st) : gBN b ky fs st st := ⟨h, fun _ _ _ _ => rfl⟩
theorem gBN.up {b : Nat → Nat → Int × Int} {ky : Nat → Nat → Nat} {fs : List Nat} {st a : gS} {k i j : Nat} {v : Int32} (h : gBN b ky fs st a) (hk : ky k j ∈ fs) (h1 : (b k j).1 ≤ v.toInt) (h2 : v.toInt ≤ (b k j).2) : gBN b ky fs st (gU a k i j v) := by
  refine ⟨fun k' i' j' => ?_, fun k' i' j' hn => ?_⟩
  · by_cases e : k' = k ∧ i' = i
    · obtain ⟨rfl, rfl⟩ := e
      by_cases e2 : j' = j
      · subst e2; rw [gU_same]; exact ⟨h1, h2⟩
      · rw [gU_other e2]; exact h.1 _ _ _
    · rw [gU_ne e]; exact h.1 _ _ _
  · by_cases e : k' = k ∧ i' = i
    · obtain ⟨rfl, rfl⟩ := e
      by_cases e2 : j' = j
      · subst e2; exact absurd hk hn
      · rw [gU_other e2]; exact h.2 _ _ _ hn
    · rw [gU_ne e]; exact h.2 _ _ _ hn
theorem gBN.call {b : Nat → Nat → Int × Int} {ky : Nat → Nat → Nat} {fs gs : List Nat} {st a u : gS} (h : gBN b ky fs st a) (h2 : gBN b ky gs a u) (hs : ∀ f ∈ gs, f ∈ fs) : gBN b ky fs st u := ⟨h2.1, fun k i j hn => (h2.2 k i j (fun q => hn (hs _ q))).trans (h.2 k i j hn)⟩
theorem gBN.nil {b : Nat → Nat → Int × Int} {ky : Nat → Nat → Nat} {st u : gS} (h : gBN b ky [] st u) : st = u := (funext fun k => funext fun i => funext fun j => h.2 k i j List.not_mem_nil).symm
/-! numbers -/
theorem gs_lt {x : Int32} {n : Nat} (h : vp_in x n) : x.toNatClampNeg < n := Nat.not_le.mp fun q => h (Or.inr q)
theorem gz_addI {a b : Int32} {x y : Int} (ha : a.toInt = x) (hb : b.toInt = y) (h1 : -2147483648 ≤ x + y) (h2 : x + y < 2147483648) : (a + b).toInt = x + y := by
  rw [Int32.toInt_add, ha, hb, Int.bmod_eq_of_le (by omega) (by omega)]
theorem gz_addP {a b : Int32} {x y : Int} (ha : a.toInt = x) (hb : b.toInt = y) (h1 : 0 ≤ y) (h2 : x + y < 2147483648) : (a + b).toInt = x + y := gz_addI ha hb (by have := Int32.le_toInt a; rw [ha] at this; omega) h2
theorem gz_subI {a b : Int32} {x y : Int} (ha : a.toInt = x) (hb : b.toInt = y) (h1 : -2147483648 ≤ x - y) (h2 : x - y < 2147483648) : (a - b).toInt = x - y := by
  rw [Int32.toInt_sub, ha, hb, Int.bmod_eq_of_le (by omega) (by omega)]
theorem gz_subP {a b : Int32} {x y : Int} (ha : a.toInt = x) (hb : b.toInt = y) (h1 : 0 ≤ y) (h2 : -2147483648 ≤ x - y) : (a - b).toInt = x - y := gz_subI ha hb h2 (by have := gi_hi a; rw [ha] at this; omega)
theorem gz_mulI {a b : Int32} {x y : Int} (ha : a.toInt = x) (hb : b.toInt = y) (h1 : -2147483648 ≤ x * y) (h2 : x * y < 2147483648) : (a * b).toInt = x * y := by
  rw [Int32.toInt_mul, ha, hb, Int.bmod_eq_of_le (by omega) (by omega)]
theorem gs_max {x a b : Int32} (h : x = if a < b then b else a) : (a.toInt ≤ x.toInt ∧ b.toInt ≤ x.toInt) ∧ (x.toInt = a.toInt ∨ x.toInt = b.toInt) := by
  by_cases q : a < b
  · rw [if_pos q] at h; subst h; have := Int32.lt_iff_toInt_lt.mp q; omega
  · rw [if_neg q] at h; subst h; have := Int.not_lt.mp (fun z => q (Int32.lt_iff_toInt_lt.mpr z)); omega
theorem gs_div {a b x : Int32} {y : Int} (hb : b.toInt = y) (h0 : 0 ≤ a.toInt) (hy : 0 < y) (h : x = a / b) : 0 ≤ x.toInt ∧ x.toInt ≤ a.toInt ∧ y * x.toInt ≤ a.toInt ∧ a.toInt < y * x.toInt + y := by
  have h1 : x.toInt = a.toInt / y := by
    rw [h, Int32.toInt_div, hb, Int.tdiv_eq_ediv_of_nonneg h0]
    have h2 : 0 ≤ a.toInt / y := Int.ediv_nonneg h0 (Int.le_of_lt hy)
    have h3 : a.toInt / y ≤ a.toInt := Int.ediv_le_self _ h0
    have h4 := gi_hi a
    exact Int.bmod_eq_of_le (by omega) (by omega)
  have h2 : 0 ≤ a.toInt / y := Int.ediv_nonneg h0 (Int.le_of_lt hy)
  have h3 : a.toInt / y ≤ a.toInt := Int.ediv_le_self _ h0
  have h5 := Int.emod_add_mul_ediv a.toInt y
  have h6 := Int.emod_nonneg a.toInt (by omega : y ≠ 0)
  have h7 := Int.emod_lt_of_pos a.toInt hy
  rw [h1]
  omega
theorem gs_rem {a b x : Int32} {y : Int} (hb : b.toInt = y) (h0 : 0 ≤ a.toInt) (hy : 0 < y) (h : x = a - a / b * b) : 0 ≤ x.toInt ∧ x.toInt < y ∧ x.toInt ≤ a.toInt := by
  obtain ⟨d0, d1, d2, d3⟩ := gs_div (x := a / b) hb h0 hy rfl
  have h4 := gi_hi a
  have m1 : (a / b * b).toInt = (a / b).toInt * y := gz_mulI rfl hb (by rw [Int.mul_comm]; have := Int.mul_nonneg (Int.le_of_lt hy) d0; omega) (by rw [Int.mul_comm]; omega)
  rw [Int.mul_comm] at m1
  have m2 : x.toInt = a.toInt - y * (a / b).toInt := by
    rw [h]; exact gz_subI rfl m1 (by omega) (by have := Int.mul_nonneg (Int.le_of_lt hy) d0; omega)
  have := Int.mul_nonneg (Int.le_of_lt hy) d0
  omega
theorem gs_cl {x : Int32} (h : 0 ≤ x.toInt) : (x.toNatClampNeg : Int) = x.toInt := by
  show ((x.toInt.toNat : Nat) : Int) = x.toInt
  omega
theorem gs_sel {x : Int32} (h : (0 : Int) ≤ x.toInt ∧ x.toInt ≤ (1 : Int)) : x.toNatClampNeg < 2 := by
  have := gs_cl h.1
  omega
theorem lw_all (w : Int64) : ∃ a b : Int32, lw a b = w := by
  refine ⟨Int32.ofInt ((w.toInt - w.toInt.bmod 4294967296) / 4294967296), Int32.ofInt (w.toInt.bmod 4294967296), ?_⟩
  have h1 := Int64.le_toInt w
  have h2 := Int64.toInt_lt w
  apply Int64.toInt_inj.mp
  unfold lw
  rw [Int64.toInt_ofInt, Int32.toInt_ofInt, Int32.toInt_ofInt]
  have e1 : Int32.size = 4294967296 := rfl
  have e2 : Int64.size = 18446744073709551616 := rfl
  rw [e1, e2]
  simp only [Int.bmod]
  omega
section GB
variable {p : Program} {l : Launch} {e : Env} {R : Room} {s : State} {m : MethodId} {args : Array Value} {below : List Frame} {meth : Method} {c : Code} {H H0 : Heap} {locs : List Loc} {cells slots : Nat} {Q : State → Prop}
variable {G : va_G} {cy : Nat → ClassId} {A : Nat → Prop} {sh : gSh} {cnt : Nat → Nat} {ad : Nat → Nat → Nat} {st : gS} {cc : ByteArray} {pc : Nat} {ls : Array Slot} {rest : List Value}
theorem gs_alen (hx : p.tables.exec = Jvm.exec) (hb : c.code = cc) (hK : va_K G vwCl (gzK cy) s) (hM : gM G sh cnt ad st H) (k i : Nat) (hi : i < cnt k) {n : Nat} (hs : sh k i (st k i) = .inl (cy 0, n, .inl (st k i))) {v : Int32} (hv : Int32.ofNat n = v) (hdg : decode cc pc = .ok (.arraylength, 1))
    (kk : W p l e R s m args below meth c H locs cells slots Q (F0 m (pc + 1) ls (.int v :: rest))) : W p l e R s m args below meth c H locs cells slots Q (F0 m pc ls (.ref (ad k i) :: rest)) := va_alen hx hb hK (hM.one hi hs) 0 0 rfl rfl hv hdg kk
/-- a long field: two places -/
theorem gs_putL (hx : p.tables.exec = Jvm.exec) (hb : c.code = cc) {own ref C : String} {T : u_T} {N ci index : Nat} (hts : ∀ w ∈ gz_T, w.before args s = true) (hin : ∀ w ∈ u_ws C T N, w ∈ gz_T) (ty0 : Nat → FieldType) (hty : ∀ k, k < N → parseFieldDescriptor (T k).2.2.1 = some (ty0 k)) (hnm : ∀ a, a < N → ∀ b, b < N → a ≠ b → (T a).2.1 ≠ (T b).2.1) (hown : s.vm.findClass own = some m.cls) (hK : va_K G vwCl (gzK cy) s) (hI : gI cnt ad) (hm : ∀ k i, i < cnt k → A (ad k i)) (hM : gM G sh cnt ad st H) (hS : va_S A H0 H locs) (k i j j2 : Nat) (hi : i < cnt k) {fs : List Value} (hs : sh k i (st k i) = .inr (ci, fs)) (hc : vwCl[ci]? = some (C, T, N)) (hj : j < N) (hlink : (Cond.fieldLink own index ref (T j).2.1 (T j).2.2.1).before args s = true) (hsame : ∀ x, s.fieldFound? (T j).1 (T j).2.1 (T j).2.2.1 = some x → s.fieldFound? ref (T j).2.1 (T j).2.2.1 = some x) (hfin : (T j).2.2.2 = false) {ty : FieldType} {val : Int64} (hs2 : ∀ w1 w2 : Int32, lw w1 w2 = val → sh k i (upd (upd (st k i) j w1) j2 w2) = .inr (ci, fs.set j (.long val))) (hd : parseFieldDescriptor (T j).2.2.1 = some ty) (hn : narrow ty (.long val) = .long val) (hfit : fits ty (.long val) = true) (hl : j < fs.length) (hdg : decode cc pc = .ok (.putfield index, 3))
    (kk : ∀ (w1 w2 : Int32) (st1 : gS) (H1 : Heap) (locs1 : List Loc), lw w1 w2 = val → st1 = gU (gU st k i j w1) k i j2 w2 → gM G sh cnt ad st1 H1 → va_S A H0 H1 locs1 → W p l e R s m args below meth c H1 locs1 cells slots Q (F0 m (pc + 3) ls rest)) : W p l e R s m args below meth c H locs cells slots Q (F0 m pc ls (.long val :: .ref (ad k i) :: rest)) := by
  have hap := va_apart (own := own) hts hin ty0 hty hnm hK hc
  have hat := hM k i hi
  rw [hs] at hat
  obtain ⟨r9, h1, cell, q1, q2, q3, q4⟩ := hat
  have hr9 : r9 = (C, T, N) := Option.some.inj (h1.symm.trans hc)
  subst hr9
  obtain ⟨hSl, hfc, kC, hkC, hkind⟩ := hK.1 ci _ hc
  obtain ⟨cf9, kf9, fi9, f9, hi9, hsl⟩ := hSl j hj
  have hlay := hts _ (hin _ (u_in_lay hj))
  unfold u_lay at hlay
  rw [if_neg (by rw [hfin]; decide)] at hlay
  have hst := (u_facts hfc hkC (u_lays hts hin hj) hi9).1
  have h6 := u_store hfc hkC hkind hlay hi9 hd hn hfit
  refine W.putK hx hb (f := f9) ⟨hown, hlink, ⟨_, _, _, hsame _ hi9⟩, hst⟩ (by rw [q2]; exact h6) q1 q3 (by rw [hsl]; exact k2_hasslot (q4 j hj)) rfl rfl hdg fun H1 e1 e2 e3 => ?_
  rw [hsl] at e1 ⊢
  obtain ⟨w1, w2, hw⟩ := lw_all val
  refine kk w1 w2 _ H1 _ hw rfl ?_ (hS.put e2 e3 (hm k i hi))
  intro a b hb9
  by_cases e : a = k ∧ b = i
  · obtain ⟨rfl, rfl⟩ := e
    rw [gU_at, gU_at, hs2 w1 w2 hw]
    exact ⟨_, hc, t_OB.to (V := updV (vp_V fs) j (.long val)) ⟨_, e1, q2, q3, t_set q4 hap hj (.long val)⟩ (fun q _ => vp_updV_set hl (.long val) q)⟩
  · rw [gU_ne e, gU_ne e]
    exact (hM a b hb9).kept (e3 _ (fun q => e (hI a b k i hb9 hi q)))
end GB
