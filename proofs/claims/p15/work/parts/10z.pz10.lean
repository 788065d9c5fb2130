/-! what the class's law answers of a list of rules -/
theorem ownT_tab {rs : List Rl} {st : gS} {z w : Nat} {d m : Int} {k : Int32} (h : LXt rs st z) (hw : w < 6) (hm : (st 28 z w).toInt = m) (h0 : 0 < m) (hk : k.toInt = d % m) : (st 27 (6 * z + w) k.toNatClampNeg).toInt = ownT rs w d := by
  obtain ⟨h1, h2⟩ := h w hw
  have e : ((exT rs w).length : Int) = m := h1.symm.trans hm
  have k0 := Int.emod_nonneg d (show m ≠ 0 by omega)
  have k1 := Int.emod_lt_of_pos d h0
  have c := gs_cl (x := k) (by omega)
  unfold ownT
  rw [if_neg (fun h9 => by rw [h9] at e; have : (0 : Int) = m := e; omega), e, h2 _ (by omega), show (d % m).toNat = k.toNatClampNeg by omega]
theorem ownT_tab0 {rs : List Rl} {st : gS} {z w : Nat} {d : Int} (h : LXt rs st z) (hw : w < 6) (hm : (st 28 z w).toInt ≤ 0) : ownT rs w d = -1 := by
  obtain ⟨h1, h2⟩ := h w hw
  have e : (exT rs w).length = 0 := by omega
  unfold ownT
  rw [if_pos (List.eq_nil_of_length_eq_zero e)]
theorem bt_test {a b x y : Int32} (h0 : 0 ≤ b.toInt) (h1 : b.toInt < 6) (hx : x = a >>> (b &&& 31)) (hy : y = x &&& 1) : y.toInt = 1 ↔ bt a b.toNatClampNeg = true := by
  obtain ⟨m, hm, e⟩ : ∃ m : Nat, m < 6 ∧ b = nI m := ⟨b.toNatClampNeg, by have := gs_cl h0; omega, by
    have := gs_cl h0
    apply Int32.toInt_inj.mp
    rw [nI_toInt (by omega), this]⟩
  have e2 : b.toNatClampNeg = m := by
    have := gs_cl h0
    rw [e, nI_toInt (by omega)] at this
    rw [e]; omega
  have b1 : ∀ i, i < 32 → bt 1 i = decide (i = 0) := by decide +kernel
  have hb : ∀ i, i < 32 → bt y i = (decide (i = 0) && bt a m) := fun i hi => by
    rw [hy, b_and, b1 i hi, hx, e, b_sshr _ (by omega) _ hi]
    by_cases q : i = 0
    · subst q; rw [if_pos (by omega), Nat.add_zero, Bool.and_comm]
    · rw [decide_eq_false q, Bool.and_false, Bool.false_and]
  rw [e2]
  cases hq : bt a m with
  | true =>
    have : y = 1 := b_ext (fun i hi => by rw [hb i hi, hq, b1 i hi, Bool.and_true])
    rw [this]; decide
  | false =>
    have : y = 0 := b_ext (fun i hi => by rw [hb i hi, hq, b_0, Bool.and_false])
    rw [this]; decide
/-- none of the first k of l is such -/
def noF (l : List Rl) (P : Rl → Prop) (k : Int) : Prop := ∀ j : Nat, (j : Int) < k → j < l.length → ¬ P (l.getD j r0)
theorem noF.nil {l : List Rl} {P : Rl → Prop} {k : Int} (h : k ≤ 0) : noF l P k := fun j h1 _ => by omega
theorem noF.step {l : List Rl} {P : Rl → Prop} {k k1 : Int} (h : noF l P k) (h0 : 0 ≤ k) (e : k1 = k + 1) (hn : k.toNat < l.length → ¬ P (l.getD k.toNat r0)) : noF l P k1 := fun j h1 h2 => by
  by_cases q : (j : Int) < k
  · exact h j q h2
  · rw [show j = k.toNat by omega]; exact hn (by omega)
abbrev drP (w m : Int) (r : Rl) : Prop := r.2.1 = w ∧ m < r.2.2.2.2.1
abbrev guP (c w h : Int) (r : Rl) : Prop := r.2.1 = c ∧ r.2.2.1 = w ∧ r.2.2.2.1 = h
/-- how much the first rule of guests lets; -1: none -/
def gstT (rs : List Rl) (c w h : Int) : Int := match rs.find? (fun r => decide (r.1 = 1 ∧ r.2.1 = c ∧ r.2.2.1 = w ∧ r.2.2.2.1 = h)) with
  | some r => r.2.2.2.2.1
  | none => -1
theorem find_filter {P Q R : Rl → Bool} (h : ∀ r, R r = (P r && Q r)) : ∀ rs : List Rl, (rs.filter P).find? Q = rs.find? R
  | [] => rfl
  | x :: t => by
    have ih := find_filter h t
    cases hp : P x with
    | true =>
      rw [List.filter_cons_of_pos hp]
      show (match Q x with | true => some x | false => (t.filter P).find? Q) = (match R x with | true => some x | false => t.find? R)
      rw [h x, hp, Bool.true_and, ih]
    | false =>
      rw [List.filter_cons_of_neg (by rw [hp]; decide)]
      show (t.filter P).find? Q = (match R x with | true => some x | false => t.find? R)
      rw [h x, hp, Bool.false_and, ih]
theorem dryO_f {rs : List Rl} {w m : Int} : dryO rs w m = match (drT rs).find? (fun r => decide (r.2.1 = w ∧ m < r.2.2.2.2.1)) with
    | some r => r.2.2.1
    | none => -1 := by
  unfold dryO drT
  rw [find_filter (R := fun r => decide (r.1 = 3 ∧ r.2.1 = w ∧ m < r.2.2.2.2.1)) (fun r => Bool.decide_and _ _)]
  all_goals rfl
theorem gstT_f {rs : List Rl} {c w h : Int} : gstT rs c w h = match (guT rs).find? (fun r => decide (r.2.1 = c ∧ r.2.2.1 = w ∧ r.2.2.2.1 = h)) with
    | some r => r.2.2.2.2.1
    | none => -1 := by
  unfold gstT guT
  rw [find_filter (R := fun r => decide (r.1 = 1 ∧ r.2.1 = c ∧ r.2.2.1 = w ∧ r.2.2.2.1 = h)) (fun r => Bool.decide_and _ _)]
theorem LXd.hit {rs : List Rl} {st : gS} {z : Nat} {w m : Int} {y : Int32} (h : LXd rs st z) (hn : noF (drT rs) (drP w m) y.toInt) (h0 : 0 ≤ y.toInt) (h1 : y.toInt < (st 25 z 5).toInt) (h2 : (st 31 z y.toNatClampNeg).toInt = w) (h3 : m < (st 32 z y.toNatClampNeg).toInt) : (st 33 z y.toNatClampNeg).toInt = dryO rs w m := by
  have c := gs_cl h0
  have hi : y.toNatClampNeg < (drT rs).length := by have := h.1; omega
  obtain ⟨a1, a2, a3⟩ := h.2 _ hi
  rw [dryO_f, find_at (P := fun r => decide (r.2.1 = w ∧ m < r.2.2.2.2.1)) hi (decide_eq_true ⟨a1.symm.trans h2, by rw [← a2]; exact h3⟩) (fun j hj h9 => hn j (by omega) (by omega) (of_decide_eq_true h9))]
  exact a3
theorem LXd.miss {rs : List Rl} {st : gS} {z : Nat} {w m k : Int} (h : LXd rs st z) (hn : noF (drT rs) (drP w m) k) (h1 : (st 25 z 5).toInt ≤ k) : dryO rs w m = -1 := by
  rw [dryO_f, List.find?_eq_none.mpr (fun x hx h9 => by
    obtain ⟨i, hi, e⟩ := List.getElem_of_mem hx
    have e2 : (drT rs).getD i r0 = x := by rw [List.getD_eq_getElem?_getD, List.getElem?_eq_getElem hi, e]; rfl
    exact hn i (by have := h.1; omega) hi (by rw [e2]; exact of_decide_eq_true h9))]
  all_goals rfl
theorem LXd.not {rs : List Rl} {st : gS} {z : Nat} {w m : Int} {y : Int32} (h : LXd rs st z) (h0 : 0 ≤ y.toInt) (hn : ¬ ((st 31 z y.toNatClampNeg).toInt = w ∧ m < (st 32 z y.toNatClampNeg).toInt)) : y.toInt.toNat < (drT rs).length → ¬ drP w m ((drT rs).getD y.toInt.toNat r0) := fun hi h9 => by
  have c := gs_cl h0
  obtain ⟨a1, a2, a3⟩ := h.2 _ hi
  rw [show y.toInt.toNat = y.toNatClampNeg by omega] at a1 a2 h9
  exact hn ⟨a1.trans h9.1, by rw [a2]; exact h9.2⟩
theorem LXg.hit {rs : List Rl} {st : gS} {z : Nat} {c w o : Int} {y : Int32} (h : LXg rs st z) (hn : noF (guT rs) (guP c w o) y.toInt) (h0 : 0 ≤ y.toInt) (h1 : y.toInt < (st 25 z 9).toInt) (h2 : (st 34 z y.toNatClampNeg).toInt = c) (h3 : (st 35 z y.toNatClampNeg).toInt = w) (h4 : (st 36 z y.toNatClampNeg).toInt = o) : (st 37 z y.toNatClampNeg).toInt = gstT rs c w o := by
  have cc := gs_cl h0
  have hi : y.toNatClampNeg < (guT rs).length := by have := h.1; omega
  obtain ⟨a1, a2, a3, a4⟩ := h.2 _ hi
  rw [gstT_f, find_at (P := fun r => decide (r.2.1 = c ∧ r.2.2.1 = w ∧ r.2.2.2.1 = o)) hi (decide_eq_true ⟨a1.symm.trans h2, a2.symm.trans h3, a3.symm.trans h4⟩) (fun j hj h9 => hn j (by omega) (by omega) (of_decide_eq_true h9))]
  exact a4
theorem LXg.miss {rs : List Rl} {st : gS} {z : Nat} {c w o k : Int} (h : LXg rs st z) (hn : noF (guT rs) (guP c w o) k) (h1 : (st 25 z 9).toInt ≤ k) : gstT rs c w o = -1 := by
  rw [gstT_f, List.find?_eq_none.mpr (fun x hx h9 => by
    obtain ⟨i, hi, e⟩ := List.getElem_of_mem hx
    have e2 : (guT rs).getD i r0 = x := by rw [List.getD_eq_getElem?_getD, List.getElem?_eq_getElem hi, e]; rfl
    exact hn i (by have := h.1; omega) hi (by rw [e2]; exact of_decide_eq_true h9))]
  all_goals rfl
theorem LXg.not {rs : List Rl} {st : gS} {z : Nat} {c w o : Int} {y : Int32} (h : LXg rs st z) (h0 : 0 ≤ y.toInt) (hn : ¬ ((st 34 z y.toNatClampNeg).toInt = c ∧ (st 35 z y.toNatClampNeg).toInt = w ∧ (st 36 z y.toNatClampNeg).toInt = o)) : y.toInt.toNat < (guT rs).length → ¬ guP c w o ((guT rs).getD y.toInt.toNat r0) := fun hi h9 => by
  have cc := gs_cl h0
  obtain ⟨a1, a2, a3, a4⟩ := h.2 _ hi
  rw [show y.toInt.toNat = y.toNatClampNeg by omega] at a1 a2 a3 h9
  exact hn ⟨a1.trans h9.1, a2.trans h9.2.1, a3.trans h9.2.2⟩
theorem wedT_rng {rs : List Rl} {c d : Int} (hwf : ∀ r ∈ rs, wfR r) (h : wedT rs c d) : (0 ≤ c ∧ c ≤ 5) ∧ 0 ≤ d ∧ d ≤ 5 := by
  obtain ⟨r, hr, h1, h2⟩ := h
  have h3 := hwf r hr
  rcases h2 with ⟨q1, q2⟩ | ⟨q1, q2⟩
  · rw [← q1, ← q2]; exact ⟨h3.2.1, h3.2.2.1⟩
  · rw [← q1, ← q2]; exact ⟨h3.2.2.1, h3.2.1⟩
