/-! the reference's planner, by its cells -/
/-- a well's water at dawn -/
def dwL (st : gS) (x w : Nat) : Int32 := if (st 1 0 w).toInt = 0 then st 29 0 (6 * x + w) else gwF (st 29 0 (6 * x + w)) (st 3 0 w) (st 2 0 w)
/-- the wells before k have their dawn at the place x, day y -/
def dwM (rs : List Rl) (st u : gS) (x y : Nat) (k : Int) : Prop := (∀ w : Nat, w < 6 → (w : Int) < k → u 29 0 (6 * x + w) = dwL st x w ∧ u 35 0 (6 * x + w) = dwL st x w ∧ (u 36 0 (6 * x + w)).toInt = if ¬ (st 1 0 w).toInt = 0 ∧ 0 ≤ dryO rs w (dwL st x w).toInt then dryO rs w (dwL st x w).toInt else (st 6 0 (200 * w + y)).toInt) ∧ (∀ j : Nat, ¬ (6 * x ≤ j ∧ (j : Int) < 6 * (x : Int) + k) → u 29 0 j = st 29 0 j ∧ u 35 0 j = st 35 0 j ∧ u 36 0 j = st 36 0 j)
theorem dwM.nil {rs : List Rl} {st : gS} {x y : Nat} {k : Int} (h : k ≤ 0) : dwM rs st st x y k := ⟨fun w _ h2 => by omega, fun _ _ => ⟨rfl, rfl, rfl⟩⟩
theorem dwM.lv {rs : List Rl} {st u : gS} {x y : Nat} {z : Int32} (h : dwM rs st u x y z.toInt) (h0 : 0 ≤ z.toInt) : u 29 0 (6 * x + z.toNatClampNeg) = st 29 0 (6 * x + z.toNatClampNeg) := (h.2 _ (by have := gs_cl h0; omega)).1
theorem dwM.step {rs : List Rl} {st m u : gS} {x y : Nat} {z v c i : Int32} {k1 : Int} (h : dwM rs st m x y z.toInt) (h0 : 0 ≤ z.toInt) (h5 : z.toInt ≤ 5) (hk : k1 = z.toInt + 1) (hi : i.toNatClampNeg = 6 * x + z.toNatClampNeg) (e29 : u 29 0 = upd (m 29 0) (6 * x + z.toNatClampNeg) v) (e35 : u 35 0 = upd (m 35 0) (6 * x + z.toNatClampNeg) v) (e36 : u 36 0 = upd (m 36 0) (6 * x + z.toNatClampNeg) c) (hv : v = dwL st x z.toNatClampNeg) (hc : c.toInt = if ¬ (st 1 0 z.toNatClampNeg).toInt = 0 ∧ 0 ≤ dryO rs z.toNatClampNeg (dwL st x z.toNatClampNeg).toInt then dryO rs z.toNatClampNeg (dwL st x z.toNatClampNeg).toInt else (st 6 0 (200 * z.toNatClampNeg + y)).toInt) : dwM rs st u x y k1 := by
  have cz := gs_cl h0
  refine ⟨fun w hw h1 => ?_, fun j hj => ?_⟩
  · rw [e29, e35, e36]
    by_cases q : w = z.toNatClampNeg
    · rw [q, pk_us, pk_us, pk_us]; exact ⟨hv, hv, hc⟩
    · rw [pk_un (by omega), pk_un (by omega), pk_un (by omega)]; exact h.1 w hw (by omega)
  · rw [e29, e35, e36, pk_un (by omega), pk_un (by omega), pk_un (by omega)]; exact h.2 j (by omega)
/-- what a herd may do at the place x -/
def cdM (rs : List Rl) (st : gS) (x h : Nat) (a : Int) : Prop := (a = 0 ∧ ¬ (st 1 0 (st 30 0 (4 * x + h)).toNatClampNeg).toInt = 0 ∧ (st 24 0 h).toInt ≤ (st 29 0 (6 * x + (st 30 0 (4 * x + h)).toNatClampNeg)).toInt ∧ rtM rs (fun a9 => (st 36 0 (a9 + 6 * x)).toInt) (fun a9 => (st 1 0 a9).toInt) (fun a9 => (st 35 0 (a9 + 6 * x)).toInt) (st 30 0 (4 * x + h)).toNatClampNeg (st 23 0 h).toInt) ∨ a = 1 ∨ (2 ≤ a ∧ 0 < (st 28 0 (6 * (st 30 0 (4 * x + h)).toNatClampNeg + (a - 2).toNat)).toInt)
def gdM (st : gS) (x : Nat) (D : Int32) (k : Int) : Prop := ∀ h : Nat, (h : Int) < k → ¬ (st 22 0 h).toInt = 0 → (D - st 32 0 (4 * x + h)).toInt ≤ (st 25 0 h).toInt
theorem gdM.nil {st : gS} {x : Nat} {D : Int32} {k : Int} (h : k ≤ 0) : gdM st x D k := fun h1 h2 => by omega
theorem gdM.step {st : gS} {x : Nat} {D y : Int32} {k1 : Int} (h : gdM st x D y.toInt) (h0 : 0 ≤ y.toInt) (e : k1 = y.toInt + 1) (hn : ¬ (st 22 0 y.toNatClampNeg).toInt = 0 → (D - st 32 0 (4 * x + y.toNatClampNeg)).toInt ≤ (st 25 0 y.toNatClampNeg).toInt) : gdM st x D k1 := fun h1 h2 => by
  by_cases q : (h1 : Int) < y.toInt
  · exact h h1 q
  · rw [show h1 = y.toNatClampNeg by (have := gs_cl h0; omega)]; exact hn
/-- the first k of n cells are copied from the place x to the next -/
def cpM (n : Nat) (o u : Nat → Int32) (x : Nat) (k : Int) : Prop := (∀ w : Nat, w < n → (w : Int) < k → u (n * (x + 1) + w) = o (n * x + w)) ∧ ∀ j : Nat, ¬ (n * (x + 1) ≤ j ∧ (j : Int) < (n : Int) * ((x : Int) + 1) + k) → u j = o j
theorem cpM.nil {n : Nat} {o : Nat → Int32} {x : Nat} {k : Int} (h : k ≤ 0) : cpM n o o x k := ⟨fun w _ h2 => by omega, fun _ _ => rfl⟩
theorem cpM.step {n : Nat} {o m u : Nat → Int32} {x : Nat} {z v : Int32} {k1 : Int} (hn : n = 4 ∨ n = 6) (h : cpM n o m x z.toInt) (h0 : 0 ≤ z.toInt) (h5 : z.toInt < (n : Int)) (hk : k1 = z.toInt + 1) (e : u = upd m (n * (x + 1) + z.toNatClampNeg) v) (hv : v = m (n * x + z.toNatClampNeg)) : cpM n o u x k1 := by
  have cz := gs_cl h0
  have hv2 : v = o (n * x + z.toNatClampNeg) := hv.trans (h.2 _ (by rcases hn with rfl | rfl <;> omega))
  refine ⟨fun w hw h1 => ?_, fun j hj => ?_⟩
  · rw [e]
    by_cases q : w = z.toNatClampNeg
    · rw [q, pk_us]; exact hv2
    · rw [pk_un (by rcases hn with rfl | rfl <;> omega)]; exact h.1 w hw (by omega)
  · rw [e, pk_un (by rcases hn with rfl | rfl <;> omega)]; exact h.2 j (by rcases hn with rfl | rfl <;> omega)
/-- what goes does, from the place x: the herd H, the act a, the day D -/
def gsM (st u : gS) (x H : Nat) (a : Int) (D : Int32) : Prop :=
  (cpM 6 (st 35 0) (u 35 0) x 6 ∧ cpM 6 (st 36 0) (u 36 0) x 6) ∧
  ((∀ w : Nat, w < 6 → u 29 0 (6 * (x + 1) + w) = if a = 0 ∧ w = (st 30 0 (4 * x + H)).toNatClampNeg then st 29 0 (6 * x + w) - st 24 0 H else st 29 0 (6 * x + w)) ∧ ∀ j : Nat, ¬ (6 * (x + 1) ≤ j ∧ j < 6 * (x + 1) + 6) → u 29 0 j = st 29 0 j) ∧
  ((∀ k : Nat, k < 4 → u 30 0 (4 * (x + 1) + k) = (if (2 ≤ a ∧ a ≤ 7) ∧ k = H then Int32.ofInt (a - 2) else st 30 0 (4 * x + k)) ∧ u 31 0 (4 * (x + 1) + k) = (if (2 ≤ a ∧ a ≤ 7) ∧ k = H then D + st 28 0 (6 * (st 30 0 (4 * x + H)).toNatClampNeg + (a - 2).toNat) else st 31 0 (4 * x + k)) ∧ u 32 0 (4 * (x + 1) + k) = (if a = 0 ∧ k = H then D else st 32 0 (4 * x + k))) ∧ ∀ j : Nat, ¬ (4 * (x + 1) ≤ j ∧ j < 4 * (x + 1) + 4) → u 30 0 j = st 30 0 j ∧ u 31 0 j = st 31 0 j ∧ u 32 0 j = st 32 0 j)
section GSM
variable {st m u : gS} {x H : Nat} {a : Int} {D : Int32}
theorem gsM.mk1 (h29 : cpM 6 (st 29 0) (u 29 0) x 6) (h35 : cpM 6 (st 35 0) (u 35 0) x 6) (h36 : cpM 6 (st 36 0) (u 36 0) x 6) (h30 : cpM 4 (st 30 0) (u 30 0) x 4) (h31 : cpM 4 (st 31 0) (u 31 0) x 4) (h32 : cpM 4 (st 32 0) (u 32 0) x 4) (ha : a = 1 ∨ a = 9) : gsM st u x H a D := by
  refine ⟨⟨h35, h36⟩, ⟨fun w hw => ?_, fun j hj => h29.2 j (by omega)⟩, ⟨fun k hk => ?_, fun j hj => ⟨h30.2 j (by omega), h31.2 j (by omega), h32.2 j (by omega)⟩⟩⟩
  · rw [if_neg (by omega)]; exact h29.1 w hw (by omega)
  · rw [if_neg (by omega), if_neg (by omega), if_neg (by omega)]; exact ⟨h30.1 k hk (by omega), h31.1 k hk (by omega), h32.1 k hk (by omega)⟩
theorem gsM.mk0 {v : Int32} (h29 : cpM 6 (st 29 0) (m 29 0) x 6) (h35 : cpM 6 (st 35 0) (u 35 0) x 6) (h36 : cpM 6 (st 36 0) (u 36 0) x 6) (h30 : cpM 4 (st 30 0) (u 30 0) x 4) (h31 : cpM 4 (st 31 0) (u 31 0) x 4) (h32 : cpM 4 (st 32 0) (m 32 0) x 4) (ha : a = 0) (hp : (st 30 0 (4 * x + H)).toNatClampNeg < 6) (hH : H < 4) (e29 : u 29 0 = upd (m 29 0) (6 * (x + 1) + (st 30 0 (4 * x + H)).toNatClampNeg) v) (hv : v = m 29 0 (6 * (x + 1) + (st 30 0 (4 * x + H)).toNatClampNeg) - st 24 0 H) (e32 : u 32 0 = upd (m 32 0) (4 * (x + 1) + H) D) : gsM st u x H a D := by
  refine ⟨⟨h35, h36⟩, ⟨fun w hw => ?_, fun j hj => ?_⟩, ⟨fun k hk => ?_, fun j hj => ⟨h30.2 j (by omega), h31.2 j (by omega), ?_⟩⟩⟩
  · rw [e29]
    by_cases q : w = (st 30 0 (4 * x + H)).toNatClampNeg
    · rw [if_pos ⟨ha, q⟩, q, pk_us, hv, h29.1 _ hp (by omega)]
    · rw [if_neg (fun z => q z.2), pk_un (by omega)]; exact h29.1 w hw (by omega)
  · rw [e29, pk_un (by omega)]; exact h29.2 j (by omega)
  · rw [if_neg (by omega), if_neg (by omega), e32]
    refine ⟨h30.1 k hk (by omega), h31.1 k hk (by omega), ?_⟩
    by_cases q : k = H
    · rw [if_pos ⟨ha, q⟩, q, pk_us]
    · rw [if_neg (fun z => q z.2), pk_un (by omega)]; exact h32.1 k hk (by omega)
  · rw [e32, pk_un (by omega)]; exact h32.2 j (by omega)
theorem gsM.mk2 {pv tv : Int32} (h29 : cpM 6 (st 29 0) (u 29 0) x 6) (h35 : cpM 6 (st 35 0) (u 35 0) x 6) (h36 : cpM 6 (st 36 0) (u 36 0) x 6) (h30 : cpM 4 (st 30 0) (m 30 0) x 4) (h31 : cpM 4 (st 31 0) (m 31 0) x 4) (h32 : cpM 4 (st 32 0) (u 32 0) x 4) (ha : 2 ≤ a ∧ a ≤ 7) (hH : H < 4) (e30 : u 30 0 = upd (m 30 0) (4 * (x + 1) + H) pv) (hpv : pv.toInt = a - 2) (e31 : u 31 0 = upd (m 31 0) (4 * (x + 1) + H) tv) (htv : tv = D + st 28 0 (6 * (st 30 0 (4 * x + H)).toNatClampNeg + (a - 2).toNat)) : gsM st u x H a D := by
  refine ⟨⟨h35, h36⟩, ⟨fun w hw => ?_, fun j hj => h29.2 j (by omega)⟩, ⟨fun k hk => ?_, fun j hj => ⟨?_, ?_, h32.2 j (by omega)⟩⟩⟩
  · rw [if_neg (by omega)]; exact h29.1 w hw (by omega)
  · rw [e30, e31]
    refine ⟨?_, ?_, by rw [if_neg (by omega)]; exact h32.1 k hk (by omega)⟩
    · by_cases q : k = H
      · rw [if_pos ⟨ha, q⟩, q, pk_us]; exact ofI_toInt hpv
      · rw [if_neg (fun z => q z.2), pk_un (by omega)]; exact h30.1 k hk (by omega)
    · by_cases q : k = H
      · rw [if_pos ⟨ha, q⟩, q, pk_us]; exact htv
      · rw [if_neg (fun z => q z.2), pk_un (by omega)]; exact h31.1 k hk (by omega)
  · rw [e30, pk_un (by omega)]; exact h30.2 j (by omega)
  · rw [e31, pk_un (by omega)]; exact h31.2 j (by omega)
end GSM
