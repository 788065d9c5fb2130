/-! the class's day: what grows, who owns; rows of other days stay -/
def dyO (i : Nat) (st u : gS) : Prop := ∀ k a, k = 13 ∨ k = 14 ∨ k = 15 → a ≠ i → u k a = st k a
theorem dyO.rf {i : Nat} {st : gS} : dyO i st st := fun _ _ _ _ => rfl
theorem dyO.trans {i : Nat} {a b c : gS} (h1 : dyO i a b) (h2 : dyO i b c) : dyO i a c := fun k z h9 h8 => (h2 k z h9 h8).trans (h1 k z h9 h8)
theorem dyO.up {i k j : Nat} {st m u : gS} {v : Int32} (h : dyO i st m) (e : u = gU m k i j v) : dyO i st u := fun k' a h9 h8 => by
  rw [e, gU_ne (fun q => h8 q.2)]; exact h k' a h9 h8
/-- from k on the row is as it was -/
def agI (o n : Nat → Int32) (k : Int) : Prop := ∀ w : Nat, k ≤ (w : Int) → n w = o w
theorem agI.rf {o : Nat → Int32} {k : Int} : agI o o k := fun _ _ => rfl
theorem agI.at {o n : Nat → Int32} {y : Int32} (h : agI o n y.toInt) (h0 : 0 ≤ y.toInt) : n y.toNatClampNeg = o y.toNatClampNeg := h _ (by have := gs_cl h0; omega)
theorem agI.mono {o n : Nat → Int32} {k k1 : Int} (h : agI o n k) (hk : k ≤ k1) : agI o n k1 := fun w hw => h w (by omega)
theorem agI.up {o : Nat → Int32} {m u : gS} {k i i2 : Nat} {y v : Int32} {k1 : Int} (h : agI o (m k i2) y.toInt) (e : u = gU m k i y.toNatClampNeg v) (h0 : 0 ≤ y.toInt) (hk : k1 = y.toInt + 1) : agI o (u k i2) k1 := fun w hw => by
  have c := gs_cl h0
  rw [e]
  by_cases q : i2 = i
  · subst q; rw [gU_other (by omega)]; exact h w (by omega)
  · rw [gU_ne (fun q2 => q q2.2)]; exact h w (by omega)
theorem agI.oth {o : Nat → Int32} {m u : gS} {k k2 i i2 j : Nat} {v : Int32} {k1 : Int} (h : agI o (m k i2) k1) (e : u = gU m k2 i j v) (hk : k ≠ k2) : agI o (u k i2) k1 := fun w hw => by
  rw [e, congrFun (gU_k hk) i2]; exact h w hw
/-- whose the well is on the day -/
def sP (rs : List Rl) (mo : Nat → Int32) (ow : Nat → Nat → Int) (w : Nat) (D : Int) : Int := if dryD rs w (mo w).toInt = -1 then ow w D.toNat else dryD rs w (mo w).toInt
/-- the day's owners are told, and kept -/
def stC (rs : List Rl) (mo : Nat → Int32) (ow : Nat → Nat → Int) (u : gS) (D : Int) : Prop := ∀ w : Nat, w < 6 → (u 15 15 w).toInt = sP rs mo ow w D ∧ ∀ d : Nat, d < 200 → (u 11 w d).toInt = if (d : Int) = D then sP rs mo ow w D else ow w d
theorem stC.mk {rs : List Rl} {st m u : gS} {D : Int} (h1 : setC rs st m 15 D 6) (h2 : keepC m u 15 D 6) (h3 : m 11 = st 11) (h4 : u 15 15 = m 15 15) : stC rs (st 14 15) (fun w9 d9 => (st 11 w9 d9).toInt) u D := fun w hw => by
  have e1 : (m 15 15 w).toInt = sP rs (st 14 15) (fun w9 d9 => (st 11 w9 d9).toInt) w D := h1 w hw (by omega)
  refine ⟨by rw [h4]; exact e1, fun d hd => ?_⟩
  rw [h2 w d hw hd, h3]
  by_cases q : (d : Int) = D
  · rw [if_pos ⟨by omega, q⟩, if_pos q]; exact e1
  · rw [if_neg (fun q2 => q q2.2), if_neg q]
theorem stC.congr {rs : List Rl} {mo : Nat → Int32} {ow ow2 : Nat → Nat → Int} {u : gS} {D : Int} (h : stC rs mo ow u D) (h0 : 0 ≤ D) (h9 : D ≤ 199) (e : ∀ w d : Nat, w < 6 → d < 200 → ow w d = ow2 w d) : stC rs mo ow2 u D := fun w hw => by
  have e1 : sP rs mo ow w D = sP rs mo ow2 w D := by unfold sP; rw [e w D.toNat hw (by omega)]
  obtain ⟨a, b⟩ := h w hw
  refine ⟨by rw [← e1]; exact a, fun d hd => ?_⟩
  rw [b d hd, e1, e w d hw hd]
theorem gstT_rng {rs : List Rl} (hwf : ∀ r ∈ rs, wfR r) {c w h : Int} : gstT rs c w h = -1 ∨ 0 ≤ gstT rs c w h := by
  unfold gstT
  cases q : rs.find? (fun r => decide (r.1 = 1 ∧ r.2.1 = c ∧ r.2.2.1 = w ∧ r.2.2.2.1 = h)) with
  | none => exact Or.inl rfl
  | some r => exact Or.inr (hwf r (List.mem_of_find?_eq_some q)).2.2.2.2.1.1
theorem LXa.keep {rs : List Rl} {st u : gS} {z : Nat} {fs : List Nat} (h : LXa rs st z) (hg : gF kX fs st u) (hf : ∀ x ∈ fs, x < 2500 ∨ 3799 < x) : LXa rs u z := ⟨h.1.keep hg (fun q => by have := hf _ q; omega) (fun q => by have := hf _ q; omega), h.2.1.keep hg (fun q => by have := hf _ q; omega), h.2.2.1.keep hg (fun q => by have := hf _ q; omega), h.2.2.2.1.keep hg (fun q => by have := hf _ q; omega) (fun q => by have := hf _ q; omega) (fun q => by have := hf _ q; omega) (fun q => by have := hf _ q; omega), h.2.2.2.2.keep hg (fun q => by have := hf _ q; omega) (fun q => by have := hf _ q; omega) (fun q => by have := hf _ q; omega) (fun q => by have := hf _ q; omega) (fun q => by have := hf _ q; omega)⟩
theorem gx_max {r d : Int32} (e : r = if d < 0 then 0 else d) : (0 < d.toInt ∧ r = d) ∨ (d.toInt ≤ 0 ∧ r.toInt = 0) := by
  have h0 : (0 : Int32).toInt = 0 := by decide
  by_cases q : d < 0
  · rw [if_pos q] at e; subst e; have := Int32.lt_iff_toInt_lt.mp q; exact Or.inr ⟨by omega, h0⟩
  · rw [if_neg q] at e; subst e; have := Int.not_lt.mp (fun z => q (Int32.lt_iff_toInt_lt.mpr z))
    by_cases q2 : 0 < r.toInt
    · exact Or.inl ⟨q2, rfl⟩
    · exact Or.inr ⟨by omega, by omega⟩
