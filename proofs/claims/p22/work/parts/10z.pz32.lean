/-! the reference's plan: its start, its end -/
def clM (st u : gS) (k : Int) : Prop := ∀ w : Nat, (w : Int) < k → u 29 0 w = st 4 0 w
theorem clM.nil {st u : gS} {k : Int} (h : k ≤ 0) : clM st u k := fun w h1 => by omega
theorem clM.step {st m u : gS} {y v : Int32} {k1 : Int} (h : clM st m y.toInt) (h0 : 0 ≤ y.toInt) (hk : k1 = y.toInt + 1) (e : u 29 0 = upd (m 29 0) y.toNatClampNeg v) (hv : v = st 4 0 y.toNatClampNeg) : clM st u k1 := fun w h1 => by
  have c := gs_cl h0
  rw [e]
  by_cases q : w = y.toNatClampNeg
  · rw [q, pk_us]; exact hv
  · rw [pk_un q]; exact h w (by omega)
def hdM (st u : gS) (k : Int) : Prop := ∀ w : Nat, (w : Int) < k → u 30 0 w = st 26 0 w ∧ u 31 0 w = st 0 0 7 ∧ u 32 0 w = st 27 0 w
theorem hdM.nil {st u : gS} {k : Int} (h : k ≤ 0) : hdM st u k := fun w h1 => by omega
theorem hdM.step {st m u : gS} {y a b c : Int32} {k1 : Int} (h : hdM st m y.toInt) (h0 : 0 ≤ y.toInt) (hk : k1 = y.toInt + 1) (e0 : u 30 0 = upd (m 30 0) y.toNatClampNeg a) (e1 : u 31 0 = upd (m 31 0) y.toNatClampNeg b) (e2 : u 32 0 = upd (m 32 0) y.toNatClampNeg c) (ha : a = st 26 0 y.toNatClampNeg) (hb : b = st 0 0 7) (hc : c = st 27 0 y.toNatClampNeg) : hdM st u k1 := fun w h1 => by
  have cy := gs_cl h0
  rw [e0, e1, e2]
  by_cases q : w = y.toNatClampNeg
  · rw [q, pk_us, pk_us, pk_us]; exact ⟨ha, hb, hc⟩
  · rw [pk_un q, pk_un q, pk_un q]; exact h w (by omega)
section PZ32
variable {rs : List Rl} {s0 v u : gS} {n m : Int}
theorem loM.new (hwf : ∀ r ∈ rs, wfR r) (ho : okM s0) (hn : 1 ≤ n) (hm : 1 ≤ m) (h7 : (0 : Int) ≤ (s0 0 0 7).toInt ∧ (s0 0 0 7).toInt ≤ 198) (hq : evQ s0 v) (hqu : evQ s0 u) (hl : clM s0 v 6) (hh : hdM s0 v 4) {y : Nat} (hd : dwM rs v u 0 y 6) (hy : (y : Int) = (v 0 0 7).toInt + 1) (e30 : u 30 0 = v 30 0) (e31 : u 31 0 = v 31 0) (e32 : u 32 0 = v 32 0) (e33 : (u 33 0 0).toInt = 0) (e57 : (u 0 0 57).toInt = 0) (e58 : (u 0 0 58).toInt = 0) : loM rs s0 u n m 0 := by
  have z0 : (0 : Int32).toInt = 0 := by decide
  have e7 : (v 0 0 7).toInt = (s0 0 0 7).toInt := by rw [hq.2.2.2.2.2.2.2.2.1]
  have sn : snM (evM rs s0) v 0 (evV (evM rs s0), fun w => (v 35 0 (6 * 0 + w)).toInt, fun w => (v 36 0 (6 * 0 + w)).toInt, evA (evM rs s0), fun _ => 0, evK (evM rs s0)) := by
    refine ⟨fun w hw => ?_, fun w _ _ => rfl, fun w _ => rfl, fun k hk => ?_, fun w hw hp => ?_, fun k _ => by show 0 ≤ (0 : Int32).toInt ∧ (0 : Int32).toInt ≤ 23; omega⟩
    · rw [Nat.mul_zero, Nat.zero_add, hl w (by omega)]; exact (if_pos hw).symm
    · rw [Nat.mul_zero, Nat.zero_add]
      obtain ⟨a, b, c⟩ := hh k (by omega)
      refine ⟨a.trans (if_pos hk).symm, b.trans ?_, c.trans (if_pos hk).symm⟩
      show s0 0 0 7 = s0 0 0 7 + 0
      rw [Int32.add_zero]
    · have e : evV (evM rs s0) w = s0 4 0 w := if_pos hw
      show 0 ≤ (evV (evM rs s0) w).toInt ∧ (evV (evM rs s0) w).toInt ≤ 1000
      rw [e]
      have e2 : evP (evM rs s0) w = s0 2 0 w := if_pos hw
      rw [e2] at hp
      exact (ho.2.2.1 w hw hp).2.2
  have sd := sn.dawn (r := 1) hwf hq ho hd hy (by omega) e30 e31 e32
  exact Or.inl ⟨[], -1, 0, 0, 0, ⟨rfl, sd, e33, Or.inl rfl, e57, e58, by show (0 : Int) < _; omega, ⟨by omega, by omega⟩, ⟨by omega, by omega⟩, hqu⟩, rfl⟩
theorem loM.neg {at_ : Int} (h : loM rs s0 u n m at_) (hn : 1 ≤ n) (h0 : at_ < 0) : ∃ (as : List Int) (f : Int), sFE (evM rs s0) n m f 1 as ∧ (u 0 0 58).toInt = f := by
  rcases h with ⟨as, t, k, f, j, _, e⟩ | ⟨e, _⟩ | ⟨_, as, f, h1, h2, _⟩
  · omega
  · omega
  · exact ⟨as, f, h1, h2⟩
theorem loM.fin {at_ : Int} (h : loM rs s0 u n m at_) (hn : 1 ≤ n) (h0 : at_ = 4 * n) : ∃ (as : List Int) (f : Int), sFE (evM rs s0) n m f 0 as ∧ (as.length : Int) = 4 * n ∧ (u 0 0 58).toInt = f ∧ (∀ j : Nat, j < as.length → (u 34 0 j).toInt = as.getD (as.length - 1 - j) 0) := by
  rcases h with ⟨as, t, k, f, j, h1, e⟩ | ⟨_, as, f, h1, h2, h3, h4, _⟩ | ⟨e, _⟩
  · have := h1.2.2.2.2.2.2.1; omega
  · exact ⟨as, f, h1, h2, h3, h4⟩
  · omega
theorem loM.run {at_ : Int} (h : loM rs s0 u n m at_) (h0 : ¬ at_ < 0) (h1 : ¬ at_ = 4 * n) : ∃ (as : List Int) (t k f : Int) (j : Nat), sM rs s0 u n m as t k f j ∧ at_ = (as.length : Int) := by
  rcases h with h | ⟨e, _⟩ | ⟨e, _⟩
  · exact h
  · exact absurd e h1
  · omega
end PZ32
/-- the plan that the reference has found -/
def pdM (st u : gS) (as : List Int) (n : Int32) : Prop := (∀ j : Nat, (j : Int) < 4 * n.toInt → (u 37 0 j).toInt = as.getD (as.length - 1 - j) 0) ∧ (∀ h : Nat, h < 4 → u 38 0 h = vp_nar .boolean (st 22 0 h)) ∧ (u 0 0 55).toInt = (st 0 0 7).toInt + 1 ∧ u 0 0 56 = n ∧ (as.length : Int) = 4 * n.toInt
def pcM (m u : gS) (k : Int) : Prop := ∀ j : Nat, (j : Int) < k → u 37 0 j = m 34 0 j
theorem pcM.nil {m u : gS} {k : Int} (h : k ≤ 0) : pcM m u k := fun w h1 => by omega
theorem pcM.step {m a u : gS} {y v : Int32} {k1 : Int} (h : pcM m a y.toInt) (h0 : 0 ≤ y.toInt) (hk : k1 = y.toInt + 1) (e : u 37 0 = upd (a 37 0) y.toNatClampNeg v) (hv : v = m 34 0 y.toNatClampNeg) : pcM m u k1 := fun w h1 => by
  have c := gs_cl h0
  rw [e]
  by_cases q : w = y.toNatClampNeg
  · rw [q, pk_us]; exact hv
  · rw [pk_un q]; exact h w (by omega)
def phM (st u : gS) (k : Int) : Prop := ∀ j : Nat, (j : Int) < k → u 38 0 j = vp_nar .boolean (st 22 0 j)
theorem phM.nil {m u : gS} {k : Int} (h : k ≤ 0) : phM m u k := fun w h1 => by omega
theorem phM.step {m a u : gS} {y v : Int32} {k1 : Int} (h : phM m a y.toInt) (h0 : 0 ≤ y.toInt) (hk : k1 = y.toInt + 1) (e : u 38 0 = upd (a 38 0) y.toNatClampNeg (vp_nar .boolean v)) (hv : v = m 22 0 y.toNatClampNeg) : phM m u k1 := fun w h1 => by
  have c := gs_cl h0
  rw [e]
  by_cases q : w = y.toNatClampNeg
  · rw [q, pk_us, hv]
  · rw [pk_un q]; exact h w (by omega)
