/-! the class's planner against the search -/
def cutN (n : Nat) (f : Nat → Int32) : Nat → Int32 := fun j => if j < n then f j else 0
theorem cutN_at {n j : Nat} {f : Nat → Int32} (h : j < n) : cutN n f j = f j := if_pos h
/-- what is given, by the class's cells -/
def evX (rs : List Rl) (st : gS) : Ev := (fun h => if h < 4 then (st 20 0 h).toInt else -1, cutN 4 (st 21 0), fun h => if h < 4 then (st 22 0 h).toInt else 0, cutN 6 (st 6 0), cutN 6 (st 5 0), fun u v => if u < 6 ∧ v < 6 then st 8 u v else 0, fun w d => if w < 6 ∧ d < 200 then (st 11 w d).toInt else 0, rs, st 38 0 4, cutN 6 (st 13 0), cutN 4 (st 41 0), cutN 4 (st 45 0))
/-- these cells stay while a plan is looked for -/
def evK9 (s0 st : gS) : Prop := st 20 0 = s0 20 0 ∧ st 21 0 = s0 21 0 ∧ st 22 0 = s0 22 0 ∧ st 6 0 = s0 6 0 ∧ st 5 0 = s0 5 0 ∧ st 8 = s0 8 ∧ st 11 = s0 11 ∧ st 38 0 4 = s0 38 0 4 ∧ st 41 0 = s0 41 0 ∧ st 43 0 = s0 43 0 ∧ st 45 0 = s0 45 0
/-- what must be so of the cells: no well, no water, no morning; herds that are there need water -/
def zrX (st : gS) : Prop := (∀ i w : Nat, i < 16 → w < 6 → ¬ 0 < (st 5 0 w).toInt → (st 13 i w).toInt = 0 ∧ (st 14 i w).toInt = -1) ∧ (∀ h : Nat, h < 4 → ¬ (st 20 0 h).toInt = -1 → 1 ≤ (st 21 0 h).toInt)
/-- the herd's own cells of a turn -/
def hcX (st : gS) (r h : Nat) (W : Wd) : Prop := st 41 r h = W.2.2.2.1 h ∧ st 43 r h = W.2.2.2.2.1 h ∧ st 45 r h = W.2.2.2.2.2 h
/-- the waters of a row, where wells are -/
def lvX (E : Ev) (st : gS) (r : Nat) (W : Wd) : Prop := ∀ w : Nat, w < 6 → 0 < (evP E w).toInt → st 13 r w = W.1 w
def moX (st : gS) (r : Nat) (W : Wd) : Prop := ∀ w : Nat, w < 6 → (st 14 r w).toInt = W.2.1 w ∧ (st 15 r w).toInt = W.2.2.1 w
/-- all turns behind these acts stand in the cells -/
def cX (E : Ev) (st : gS) : List Int → Prop
  | [] => ∀ k : Nat, k < 4 → hcX st 0 k (wdA E [])
  | a :: as => cX E st as ∧ (st 46 0 as.length).toInt = a ∧ hcX st (as.length / 4 + 1) (as.length % 4) (wAct E (as.length / 4 + 1) (as.length % 4) a (wdA E as)) ∧ (as.length % 4 = 3 → lvX E st (as.length / 4 + 1) (wAct E (as.length / 4 + 1) (as.length % 4) a (wdA E as))) ∧ moX st (as.length / 4 + 1) (wdA E as) ∧ (a = 0 → 0 < (evP E ((wdA E as).2.2.2.1 (as.length % 4)).toNatClampNeg).toInt)
section PZ22
variable {E : Ev} {W : Wd} {st u : gS} {r h : Nat} {a : Int} {as : List Int}
theorem wDawn_h (k : Nat) : (wDawn E r W).2.2.2.1 k = W.2.2.2.1 k ∧ (wDawn E r W).2.2.2.2.1 k = W.2.2.2.2.1 k ∧ (wDawn E r W).2.2.2.2.2 k = W.2.2.2.2.2 k := ⟨rfl, rfl, rfl⟩
theorem wAct_o {k : Nat} (hk : k ≠ h) : (wAct E r h a W).2.2.2.1 k = W.2.2.2.1 k ∧ (wAct E r h a W).2.2.2.2.1 k = W.2.2.2.2.1 k ∧ (wAct E r h a W).2.2.2.2.2 k = W.2.2.2.2.2 k := by
  unfold wAct
  simp only []
  split
  · exact ⟨rfl, rfl, pk_un hk⟩
  · split
    · exact ⟨pk_un hk, pk_un hk, rfl⟩
    · exact ⟨rfl, rfl, rfl⟩
theorem wAct_m : (wAct E r h a W).2.1 = W.2.1 ∧ (wAct E r h a W).2.2.1 = W.2.2.1 := by
  unfold wAct
  simp only []
  split
  · exact ⟨rfl, rfl⟩
  · split
    · exact ⟨rfl, rfl⟩
    · exact ⟨rfl, rfl⟩
theorem wdA_c : wdA E (a :: as) = if as.length % 4 = 3 then wDawn E (as.length / 4 + 1 + 1) (wAct E (as.length / 4 + 1) (as.length % 4) a (wdA E as)) else wAct E (as.length / 4 + 1) (as.length % 4) a (wdA E as) := rfl
theorem wdA_h (k : Nat) : (wdA E (a :: as)).2.2.2.1 k = (wAct E (as.length / 4 + 1) (as.length % 4) a (wdA E as)).2.2.2.1 k ∧ (wdA E (a :: as)).2.2.2.2.1 k = (wAct E (as.length / 4 + 1) (as.length % 4) a (wdA E as)).2.2.2.2.1 k ∧ (wdA E (a :: as)).2.2.2.2.2 k = (wAct E (as.length / 4 + 1) (as.length % 4) a (wdA E as)).2.2.2.2.2 k := by
  rw [wdA_c]
  split
  · exact wDawn_h k
  · exact ⟨rfl, rfl, rfl⟩
/-- where a herd stands at a turn: in its row of the day, or in that of the day before -/
theorem cX.herd : ∀ {as : List Int}, cX E st as → ∀ k : Nat, k < 4 → hcX st (if k < as.length % 4 then as.length / 4 + 1 else as.length / 4) k (wdA E as)
  | [], h, k, hk => by
    rw [if_neg (show ¬ k < ([] : List Int).length % 4 from fun z => absurd z (Nat.not_lt_zero _))]
    exact h k hk
  | a :: as, h, k, hk => by
    obtain ⟨h1, h2, h3, h4, h5, h6⟩ := h
    have ih := cX.herd h1 k hk
    obtain ⟨e1, e2, e3⟩ := wdA_h (E := E) (a := a) (as := as) k
    have hl : (a :: as).length = as.length + 1 := rfl
    unfold hcX
    rw [e1, e2, e3, hl]
    by_cases q : k = as.length % 4
    · subst q
      have e : (if as.length % 4 < (as.length + 1) % 4 then (as.length + 1) / 4 + 1 else (as.length + 1) / 4) = as.length / 4 + 1 := by
        split <;> omega
      rw [e]
      exact h3
    · obtain ⟨o1, o2, o3⟩ := wAct_o (E := E) (r := as.length / 4 + 1) (h := as.length % 4) (a := a) (W := wdA E as) q
      have e : (if k < (as.length + 1) % 4 then (as.length + 1) / 4 + 1 else (as.length + 1) / 4) = (if k < as.length % 4 then as.length / 4 + 1 else as.length / 4) := by
        split <;> split <;> omega
      rw [o1, o2, o3, e]
      exact ih
theorem cX.now (h : cX E st as) : hcX st (as.length / 4) (as.length % 4) (wdA E as) := by
  have := cX.herd h (as.length % 4) (by omega)
  rw [if_neg (Nat.lt_irrefl _)] at this
  exact this
end PZ22
