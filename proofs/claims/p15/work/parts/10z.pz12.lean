/-! who has a right, as the reference asks its rules; its guests; sums over draws -/
def rtM (rs : List Rl) (ow wl mo : Nat → Int) (w : Nat) (c : Int) : Prop := ow w = c ∨ (0 ≤ ow w ∧ wedT rs (ow w) c) ∨ ∃ a : Nat, a < 6 ∧ ¬ wl a = 0 ∧ mo a = 0 ∧ ow a = c ∧ dryT rs a w
def hiW (st : gS) (o c : Int) (q : Nat) : Prop := (st 8 0 q).toInt = 2 ∧ 0 ≤ o ∧ (((st 9 0 q).toInt = c ∧ (st 10 0 q).toInt = o) ∨ ((st 10 0 q).toInt = c ∧ (st 9 0 q).toInt = o))
def hiD (st : gS) (ow wl mo : Nat → Int) (w : Nat) (c : Int) (q : Nat) : Prop := (st 8 0 q).toInt = 4 ∧ (st 10 0 q).toInt = (w : Int) ∧ ¬ wl (st 9 0 q).toNatClampNeg = 0 ∧ mo (st 9 0 q).toNatClampNeg = 0 ∧ ow (st 9 0 q).toNatClampNeg = c
def noR (st : gS) (ow wl mo : Nat → Int) (w : Nat) (c : Int) (lo : Nat) (hi : Int) : Prop := ∀ q : Nat, lo ≤ q → (q : Int) < hi → ¬ hiW st (ow w) c q ∧ ¬ hiD st ow wl mo w c q
section PZ12
variable {rs : List Rl} {st : gS} {ow wl mo : Nat → Int} {w b lo : Nat} {c o hi k1 : Int} {y : Int32}
theorem noR.nil (h : hi ≤ (lo : Int)) : noR st ow wl mo w c lo hi := fun q h1 h2 => by omega
theorem noR.step (h : noR st ow wl mo w c lo y.toInt) (h0 : 0 ≤ y.toInt) (e : k1 = y.toInt + 1) (ho : o = ow w) (h1 : ¬ hiW st o c y.toNatClampNeg) (h2 : ¬ hiD st ow wl mo w c y.toNatClampNeg) : noR st ow wl mo w c lo k1 := fun q a d => by
  by_cases e1 : (q : Int) < y.toInt
  · exact h q a e1
  · have e2 : q = y.toNatClampNeg := by have := gs_cl h0; omega
    rw [e2, ← ho]; exact ⟨h1, h2⟩
theorem LM.at {i : Nat} (h : LM rs st b) (h0 : 24 * (b : Int) ≤ y.toInt) (h1 : y.toInt < 24 * (b : Int) + (rs.length : Int)) : ∃ r ∈ rs, LMr r st y.toNatClampNeg := by
  have c := gs_cl (x := y) (by omega)
  have hi : y.toNatClampNeg - 24 * b < rs.length := by omega
  have e : 24 * b + (y.toNatClampNeg - 24 * b) = y.toNatClampNeg := by omega
  have h2 := h _ hi
  rw [e] at h2
  exact ⟨_, getR hi, h2⟩
theorem LM.mem {r : Rl} (h : LM rs st b) (hr : r ∈ rs) : ∃ q : Nat, 24 * b ≤ q ∧ (q : Int) < 24 * (b : Int) + (rs.length : Int) ∧ LMr r st q := by
  obtain ⟨i, hi, e⟩ := List.getElem_of_mem hr
  have e2 : rs.getD i r0 = r := by rw [List.getD_eq_getElem?_getD, List.getElem?_eq_getElem hi, e]; rfl
  exact ⟨24 * b + i, by omega, by omega, by rw [← e2]; exact h i hi⟩
theorem rtM.wed (h : LM rs st b) (h0 : 24 * (b : Int) ≤ y.toInt) (h1 : y.toInt < 24 * (b : Int) + (rs.length : Int)) (ho : o = ow w) (hx : hiW st o c y.toNatClampNeg) : rtM rs ow wl mo w c := by
  obtain ⟨r, hr, q1, q2⟩ := LM.at (i := 0) h h0 h1
  obtain ⟨a, a0, a2⟩ := hx
  have e := q1.symm.trans a
  obtain ⟨e1, e2⟩ := q2.2.2.1 e
  refine Or.inr (Or.inl ⟨by rw [← ho]; exact a0, r, hr, e, ?_⟩)
  rw [← e1, ← e2, ← ho]
  rcases a2 with ⟨a2, a3⟩ | ⟨a2, a3⟩
  · exact Or.inr ⟨a2, a3⟩
  · exact Or.inl ⟨a3, a2⟩
theorem rtM.dry (h : LM rs st b) (hwf : ∀ r ∈ rs, wfR r) (h0 : 24 * (b : Int) ≤ y.toInt) (h1 : y.toInt < 24 * (b : Int) + (rs.length : Int)) (hx : hiD st ow wl mo w c y.toNatClampNeg) : rtM rs ow wl mo w c := by
  obtain ⟨r, hr, q1, q2⟩ := LM.at (i := 0) h h0 h1
  obtain ⟨a, a1, a2, a3, a4⟩ := hx
  have e := q1.symm.trans a
  obtain ⟨e1, e2⟩ := q2.2.2.2.2 e
  have e3 := (hwf r hr).2.1
  have e4 := gs_cl (x := st 9 0 y.toNatClampNeg) (by omega)
  exact Or.inr (Or.inr ⟨(st 9 0 y.toNatClampNeg).toNatClampNeg, by omega, a2, a3, a4, r, hr, e, by omega, by omega⟩)
theorem rtM.no (h : LM rs st b) (hwf : ∀ r ∈ rs, wfR r) (hc : ¬ ow w = c) (hn : noR st ow wl mo w c (24 * b) hi) (hh : 24 * (b : Int) + (rs.length : Int) ≤ hi) : ¬ rtM rs ow wl mo w c := fun hx => by
  rcases hx with hx | ⟨h0, r, hr, e, hx⟩ | ⟨a, ha, h1, h2, h3, r, hr, e, e1, e2⟩
  · exact hc hx
  · obtain ⟨q, q1, q2, q3, q4⟩ := h.mem hr
    obtain ⟨d1, d2⟩ := q4.2.2.1 e
    refine (hn q q1 (by omega)).1 ⟨q3.trans e, h0, ?_⟩
    rw [d1, d2]
    rcases hx with ⟨x1, x2⟩ | ⟨x1, x2⟩
    · exact Or.inr ⟨x2, x1⟩
    · exact Or.inl ⟨x1, x2⟩
  · obtain ⟨q, q1, q2, q3, q4⟩ := h.mem hr
    obtain ⟨d1, d2⟩ := q4.2.2.2.2 e
    have d3 := gs_cl (x := st 9 0 q) (by omega)
    have d4 : (st 9 0 q).toNatClampNeg = a := by omega
    exact (hn q q1 (by omega)).2 ⟨q3.trans e, d2.trans e2, by rw [d4]; exact h1, by rw [d4]; exact h2, by rw [d4]; exact h3⟩
/-- no rule of guests at the places lo .. hi - 1 speaks -/
def noG (st : gS) (c w o : Int) (lo : Nat) (hi : Int) : Prop := ∀ q : Nat, lo ≤ q → (q : Int) < hi → ¬ ((st 8 0 q).toInt = 1 ∧ (st 9 0 q).toInt = c ∧ (st 10 0 q).toInt = w ∧ (st 11 0 q).toInt = o)
theorem noG.nil {w : Int} (h : hi ≤ (lo : Int)) : noG st c w o lo hi := fun q h1 h2 => by omega
theorem noG.step {w : Int} (h : noG st c w o lo y.toInt) (h0 : 0 ≤ y.toInt) (e : k1 = y.toInt + 1) (hn : ¬ ((st 8 0 y.toNatClampNeg).toInt = 1 ∧ (st 9 0 y.toNatClampNeg).toInt = c ∧ (st 10 0 y.toNatClampNeg).toInt = w ∧ (st 11 0 y.toNatClampNeg).toInt = o)) : noG st c w o lo k1 := fun q a d => by
  by_cases e1 : (q : Int) < y.toInt
  · exact h q a e1
  · have e2 : q = y.toNatClampNeg := by have := gs_cl h0; omega
    rw [e2]; exact hn
theorem LM.grow {i : Nat} {w : Int} (h : LM rs st b) (hi : i < rs.length) : ((st 8 0 (24 * b + i)).toInt = 1 ∧ (st 9 0 (24 * b + i)).toInt = c ∧ (st 10 0 (24 * b + i)).toInt = w ∧ (st 11 0 (24 * b + i)).toInt = o) ↔ ((rs.getD i r0).1 = 1 ∧ (rs.getD i r0).2.1 = c ∧ (rs.getD i r0).2.2.1 = w ∧ (rs.getD i r0).2.2.2.1 = o) := by
  have h1 := h i hi
  constructor
  · rintro ⟨a, p, q, r⟩
    have h2 : (rs.getD i r0).1 = 1 := h1.1.symm.trans a
    obtain ⟨d1, d2, d3, d4⟩ := h1.2.2.1 h2
    exact ⟨h2, d1.symm.trans p, d2.symm.trans q, d3.symm.trans r⟩
  · rintro ⟨a, p, q, r⟩
    obtain ⟨d1, d2, d3, d4⟩ := h1.2.2.1 a
    exact ⟨h1.1.trans a, d1.trans p, d2.trans q, d3.trans r⟩
theorem LM.gst1 {w : Int} (h : LM rs st b) (hwf : ∀ r ∈ rs, wfR r) (hn : noG st c w o (24 * b) y.toInt) (h0 : 24 * (b : Int) ≤ y.toInt) (h1 : y.toInt < 24 * (b : Int) + (rs.length : Int)) (h2 : (st 8 0 y.toNatClampNeg).toInt = 1) (h3 : (st 9 0 y.toNatClampNeg).toInt = c) (h4 : (st 10 0 y.toNatClampNeg).toInt = w) (h5 : (st 11 0 y.toNatClampNeg).toInt = o) : (st 12 0 y.toNatClampNeg).toInt = gstT rs c w o ∧ 0 ≤ gstT rs c w o := by
  have cc := gs_cl (x := y) (by omega)
  have hi : y.toNatClampNeg - 24 * b < rs.length := by omega
  have e : 24 * b + (y.toNatClampNeg - 24 * b) = y.toNatClampNeg := by omega
  have h5 := (h.grow (c := c) (w := w) (o := o) hi).mp (by rw [e]; exact ⟨h2, h3, h4, h5⟩)
  have h6 := h _ hi
  have h7 := hwf _ (getR hi)
  unfold gstT
  rw [find_at (P := fun r => decide (r.1 = 1 ∧ r.2.1 = c ∧ r.2.2.1 = w ∧ r.2.2.2.1 = o)) hi (decide_eq_true h5) (fun j hj h9 => hn (24 * b + j) (by omega) (by omega) ((h.grow (by omega)).mpr (of_decide_eq_true h9)))]
  rw [e] at h6
  exact ⟨(h6.2.2.1 h5.1).2.2.2, h7.2.2.2.2.1.1⟩
theorem LM.gst0 {w : Int} (h : LM rs st b) (hn : noG st c w o (24 * b) hi) (hh : 24 * (b : Int) + (rs.length : Int) ≤ hi) : gstT rs c w o = -1 := by
  unfold gstT
  rw [List.find?_eq_none.mpr (fun x hx h9 => by
    obtain ⟨i, hi, e⟩ := List.getElem_of_mem hx
    have e2 : rs.getD i r0 = x := by rw [List.getD_eq_getElem?_getD, List.getElem?_eq_getElem hi, e]; rfl
    exact hn (24 * b + i) (by omega) (by omega) ((h.grow hi).mpr (by rw [e2]; exact of_decide_eq_true h9)))]
  all_goals rfl
end PZ12
/-- a sum over the first n places, as the machine adds -/
def sW (P : Nat → Bool) (a : Nat → Int32) : Nat → Int32
  | 0 => 0
  | n + 1 => if P n = true then sW P a n + a n else sW P a n
section PZ12b
variable {P Q : Nat → Bool} {a b : Nat → Int32} {s s1 v y y1 : Int32} {n : Nat}
theorem sW.new (h : y.toInt = 0) : (0 : Int32) = sW P a y.toNatClampNeg := by
  have c := gs_cl (x := y) (by omega)
  rw [show y.toNatClampNeg = 0 by omega]; rfl
theorem sW_nx (h0 : 0 ≤ y.toInt) (e : y1.toInt = y.toInt + 1) : y1.toNatClampNeg = y.toNatClampNeg + 1 := by
  have c := gs_cl h0
  have d := gs_cl (x := y1) (by omega)
  omega
theorem sW.go (h : s = sW P a y.toNatClampNeg) (h0 : 0 ≤ y.toInt) (e : y1.toInt = y.toInt + 1) (hP : P y.toNatClampNeg = true) (es : s1 = s + v) (ev : v = a y.toNatClampNeg) : s1 = sW P a y1.toNatClampNeg := by
  rw [sW_nx h0 e, es, ev, h]; exact (if_pos hP).symm
theorem sW.skip (h : s = sW P a y.toNatClampNeg) (h0 : 0 ≤ y.toInt) (e : y1.toInt = y.toInt + 1) (hP : ¬ P y.toNatClampNeg = true) : s = sW P a y1.toNatClampNeg := by
  rw [sW_nx h0 e, h]; exact (if_neg hP).symm
theorem sW.zero (h : s = sW P a y.toNatClampNeg) (h0 : 0 ≤ y.toInt) (e : y1.toInt = y.toInt + 1) (hP : ¬ P y.toNatClampNeg = true) (es : s1 = s + 0) : s1 = sW P a y1.toNatClampNeg := by
  rw [es, Int32.add_zero]; exact sW.skip h h0 e hP
theorem sW.congr (h : ∀ k, k < n → P k = Q k) : sW P a n = sW Q a n := by
  induction n with
  | zero => rfl
  | succ n ih =>
    show (if P n = true then sW P a n + a n else sW P a n) = if Q n = true then sW Q a n + a n else sW Q a n
    rw [h n (Nat.lt_succ_self _), ih (fun k hk => h k (Nat.lt_succ_of_lt hk))]
/-- what two kinds give together -/
theorem sW.both {R : Nat → Bool} (h : ∀ k, k < n → R k = (P k || Q k)) (h2 : ∀ k, k < n → ¬ (P k = true ∧ Q k = true)) : sW R a n = sW P a n + sW Q a n := by
  induction n with
  | zero => exact (Int32.add_zero 0).symm
  | succ n ih =>
    have ih := ih (fun k hk => h k (Nat.lt_succ_of_lt hk)) (fun k hk => h2 k (Nat.lt_succ_of_lt hk))
    have e := h n (Nat.lt_succ_self _)
    have e2 := h2 n (Nat.lt_succ_self _)
    show (if R n = true then sW R a n + a n else sW R a n) = (if P n = true then sW P a n + a n else sW P a n) + if Q n = true then sW Q a n + a n else sW Q a n
    rw [e, ih]
    cases hp : P n with
    | true =>
      cases hq : Q n with
      | true => exact absurd ⟨hp, hq⟩ e2
      | false => show sW P a n + sW Q a n + a n = sW P a n + a n + sW Q a n; rw [Int32.add_assoc, Int32.add_assoc, Int32.add_comm (a n)]
    | false =>
      cases hq : Q n with
      | true => show sW P a n + sW Q a n + a n = sW P a n + (sW Q a n + a n); rw [Int32.add_assoc]
      | false => rfl
/-- a sum that begins with x -/
theorem sW.from {x : Int32} (h : s = x + sW P a y.toNatClampNeg) (h0 : 0 ≤ y.toInt) (e : y1.toInt = y.toInt + 1) (hP : P y.toNatClampNeg = true) (es : s1 = s + v) (ev : v = a y.toNatClampNeg) : s1 = x + sW P a y1.toNatClampNeg := by
  rw [sW_nx h0 e, es, ev, h, Int32.add_assoc]; exact congrArg (x + ·) (if_pos hP).symm
theorem sW.from0 {x : Int32} (h : s = x + sW P a y.toNatClampNeg) (h0 : 0 ≤ y.toInt) (e : y1.toInt = y.toInt + 1) (hP : ¬ P y.toNatClampNeg = true) (es : s1 = s + 0) : s1 = x + sW P a y1.toNatClampNeg := by
  rw [sW_nx h0 e, es, Int32.add_zero, h]; exact congrArg (x + ·) (if_neg hP).symm
end PZ12b
