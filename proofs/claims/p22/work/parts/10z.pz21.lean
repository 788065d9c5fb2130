/-! the search, apart from any program: what is given (clans, needs, lasts, rates, caps, ways, the calendar, the rules, the day, waters, places, last drinks), the world at a turn, the steps -/
abbrev Ev : Type := (Nat → Int) × (Nat → Int32) × (Nat → Int) × (Nat → Int32) × (Nat → Int32) × (Nat → Nat → Int32) × (Nat → Nat → Int) × List Rl × Int32 × (Nat → Int32) × (Nat → Int32) × (Nat → Int32)
def evC (E : Ev) : Nat → Int := E.1
def evN (E : Ev) : Nat → Int32 := E.2.1
def evL (E : Ev) : Nat → Int := E.2.2.1
def evR (E : Ev) : Nat → Int32 := E.2.2.2.1
def evP (E : Ev) : Nat → Int32 := E.2.2.2.2.1
def evW (E : Ev) : Nat → Nat → Int32 := E.2.2.2.2.2.1
def evO (E : Ev) : Nat → Nat → Int := E.2.2.2.2.2.2.1
def evS (E : Ev) : List Rl := E.2.2.2.2.2.2.2.1
def evD (E : Ev) : Int32 := E.2.2.2.2.2.2.2.2.1
def evV (E : Ev) : Nat → Int32 := E.2.2.2.2.2.2.2.2.2.1
def evA (E : Ev) : Nat → Int32 := E.2.2.2.2.2.2.2.2.2.2.1
def evK (E : Ev) : Nat → Int32 := E.2.2.2.2.2.2.2.2.2.2.2
/-- waters, mornings, owners, places, arrivals, last drinks -/
abbrev Wd : Type := (Nat → Int32) × (Nat → Int) × (Nat → Int) × (Nat → Int32) × (Nat → Int32) × (Nat → Int32)
def rwI32 (r : Nat) : Int32 := Int32.ofNat r
/-- a day begins -/
def wDawn (E : Ev) (r : Nat) (W : Wd) : Wd :=
  let lv : Nat → Int32 := fun w => if 0 < (evP E w).toInt then gwF (W.1 w) (evR E w) (evP E w) else W.1 w
  let mo : Nat → Int := fun w => if 0 < (evP E w).toInt then (lv w).toInt else -1
  (lv, mo, fun w => if dryD (evS E) w (mo w) = -1 then evO E w ((evD E).toInt + (r : Int)).toNat else dryD (evS E) w (mo w), W.2.2.2.1, W.2.2.2.2.1, W.2.2.2.2.2)
/-- a herd does a thing -/
def wAct (E : Ev) (r h : Nat) (a : Int) (W : Wd) : Wd :=
  let p := (W.2.2.2.1 h).toNatClampNeg
  if a = 0 then (upd W.1 p (W.1 p - evN E h), W.2.1, W.2.2.1, W.2.2.2.1, W.2.2.2.2.1, upd W.2.2.2.2.2 h (evD E + rwI32 r))
  else if 2 ≤ a ∧ a ≤ 7 then (W.1, W.2.1, W.2.2.1, upd W.2.2.2.1 h (Int32.ofInt (a - 2)), upd W.2.2.2.2.1 h (rwI32 r + evW E p (a - 2).toNat), W.2.2.2.2.2)
  else W
/-- who has a right in the world W -/
def wRt (E : Ev) (W : Wd) (w : Nat) (c : Int) : Prop := W.2.2.1 w = c ∨ wedT (evS E) (W.2.2.1 w) c ∨ ∃ a : Nat, a < 6 ∧ W.2.2.1 a = c ∧ W.2.1 a = 0 ∧ dryT (evS E) a w
def wCan (E : Ev) (h : Nat) (W : Wd) (a : Int) : Prop := (a = 0 ∧ 0 < (evP E (W.2.2.2.1 h).toNatClampNeg).toInt ∧ (evN E h).toInt ≤ (W.1 (W.2.2.2.1 h).toNatClampNeg).toInt ∧ wRt E W (W.2.2.2.1 h).toNatClampNeg (evC E h)) ∨ a = 1 ∨ (2 ≤ a ∧ 0 < (evW E (W.2.2.2.1 h).toNatClampNeg (a - 2).toNat).toInt)
def wFree (E : Ev) (r h : Nat) (W : Wd) : Prop := ¬ evC E h = -1 ∧ (W.2.2.2.2.1 h).toInt ≤ (r : Int)
def wGood (E : Ev) (r : Nat) (W : Wd) : Prop := ∀ h : Nat, h < 4 → ¬ evC E h = -1 → ((evD E + rwI32 r) - W.2.2.2.2.2 h).toInt ≤ evL E h
/-- the world at the turn behind these acts (the latest first) -/
def wdA (E : Ev) : List Int → Wd
  | [] => wDawn E 1 (evV E, fun _ => 0, fun _ => 0, evA E, fun _ => 0, evK E)
  | a :: as => if as.length % 4 = 3 then wDawn E (as.length / 4 + 1 + 1) (wAct E (as.length / 4 + 1) (as.length % 4) a (wdA E as)) else wAct E (as.length / 4 + 1) (as.length % 4) a (wdA E as)
/-- acts, the latest tried, looks, how far, the end (-1: not yet) -/
abbrev SS : Type := List Int × Int × Int × Int × Int
/-- one step of the search for n days with at most m looks -/
def stp (E : Ev) (n m : Int) (s s1 : SS) : Prop := s.2.2.2.2 = -1 ∧ ∃ x : Int, nxI (wFree E (s.1.length / 4 + 1) (s.1.length % 4) (wdA E s.1)) (wCan E (s.1.length % 4) (wdA E s.1)) s.2.1 x ∧
  ((x = -1 ∧ ((s.1 = [] ∧ s1 = (s.1, s.2.1, s.2.2.1, s.2.2.2.1, 1)) ∨ ∃ a as, s.1 = a :: as ∧ s1 = (as, a, s.2.2.1, s.2.2.2.1, -1))) ∨
   (¬ x = -1 ∧ ¬ x = 9 ∧ s.2.2.1 = m ∧ s1 = (s.1, s.2.1, s.2.2.1, s.2.2.2.1, 2)) ∨
   (¬ x = -1 ∧ (x = 9 ∨ ¬ s.2.2.1 = m) ∧ ∃ k : Int, k = (if x = 9 then s.2.2.1 else s.2.2.1 + 1) ∧
    ((¬ s.1.length % 4 = 3 ∧ s1 = (x :: s.1, -1, k, s.2.2.2.1, -1)) ∨
     (s.1.length % 4 = 3 ∧ ¬ wGood E (s.1.length / 4 + 1) (wAct E (s.1.length / 4 + 1) (s.1.length % 4) x (wdA E s.1)) ∧ s1 = (s.1, x, k, s.2.2.2.1, -1)) ∨
     (s.1.length % 4 = 3 ∧ wGood E (s.1.length / 4 + 1) (wAct E (s.1.length / 4 + 1) (s.1.length % 4) x (wdA E s.1)) ∧ s1 = (x :: s.1, -1, k, (if s.2.2.2.1 < ((s.1.length / 4 + 1 : Nat) : Int) then ((s.1.length / 4 + 1 : Nat) : Int) else s.2.2.2.1), if n ≤ ((s.1.length / 4 + 1 : Nat) : Int) then 0 else -1)))))
theorem stp.det {E : Ev} {n m : Int} {s a b : SS} (h1 : stp E n m s a) (h2 : stp E n m s b) : a = b := by
  obtain ⟨_, x, hx, h1⟩ := h1
  obtain ⟨_, y, hy, h2⟩ := h2
  have e : x = y := nxI.eq hx hy Iff.rfl (fun _ _ _ _ => Iff.rfl)
  subst e
  rcases h1 with ⟨p, h1⟩ | ⟨p, p2, p3, h1⟩ | ⟨p, p2, k, hk, h1⟩ <;> rcases h2 with ⟨q, h2⟩ | ⟨q, q2, q3, h2⟩ | ⟨q, q2, k2, hk2, h2⟩
  all_goals first
    | exact absurd p q
    | exact absurd q p
    | exact h1.trans h2.symm
    | skip
  · rcases h1 with ⟨c, h1⟩ | ⟨c, cs, c2, h1⟩ <;> rcases h2 with ⟨d, h2⟩ | ⟨d, ds, d2, h2⟩
    · exact h1.trans h2.symm
    · rw [c] at d2; cases d2
    · rw [d] at c2; cases c2
    · rw [c2] at d2; cases d2; exact h1.trans h2.symm
  · rcases q2 with q2 | q2
    · exact absurd q2 p2
    · exact absurd p3 q2
  · rcases p2 with p2 | p2
    · exact absurd p2 q2
    · exact absurd q3 p2
  · rw [← hk2] at hk
    subst hk
    rcases h1 with ⟨c, h1⟩ | ⟨c, c2, h1⟩ | ⟨c, c2, h1⟩ <;> rcases h2 with ⟨d, h2⟩ | ⟨d, d2, h2⟩ | ⟨d, d2, h2⟩
    all_goals first
      | exact h1.trans h2.symm
      | exact absurd d c
      | exact absurd c d
      | exact absurd d2 c2
      | exact absurd c2 d2
/-- j steps -/
def rch (E : Ev) (n m : Int) : Nat → SS → SS → Prop
  | 0, s, s1 => s1 = s
  | j + 1, s, s1 => ∃ s2, rch E n m j s s2 ∧ stp E n m s2 s1
theorem rch.det {E : Ev} {n m : Int} {s : SS} : ∀ {j : Nat} {a b : SS}, rch E n m j s a → rch E n m j s b → a = b
  | 0, _, _, h1, h2 => h1.trans h2.symm
  | j + 1, a, b, ⟨c, h1, h3⟩, ⟨d, h2, h4⟩ => by
    have e := rch.det h1 h2
    subst e
    exact h3.det h4
theorem rch.run {E : Ev} {n m : Int} {s : SS} : ∀ {k : Nat} {j : Nat} {a : SS}, rch E n m (j + k) s a → 0 < k → ∃ b, rch E n m j s b ∧ b.2.2.2.2 = -1
  | 0, _, _, _, h => absurd h (Nat.lt_irrefl 0)
  | 1, _, _, ⟨c, h1, h2⟩, _ => ⟨c, h1, h2.1⟩
  | k + 2, j, _, ⟨_, h1, _⟩, _ => rch.run (k := k + 1) (j := j) h1 (Nat.succ_pos _)
/-- both ends are one -/
theorem rch.fin {E : Ev} {n m : Int} {s a b : SS} {j k : Nat} (h1 : rch E n m j s a) (h2 : rch E n m k s b) (ha : ¬ a.2.2.2.2 = -1) (hb : ¬ b.2.2.2.2 = -1) : a = b := by
  rcases Nat.lt_trichotomy j k with q | q | q
  · obtain ⟨c, h3, h4⟩ := rch.run (k := k - j) (j := j) (by rw [show j + (k - j) = k by omega]; exact h2) (by omega)
    exact absurd ((rch.det h1 h3).symm ▸ h4) ha
  · subst q; exact rch.det h1 h2
  · obtain ⟨c, h3, h4⟩ := rch.run (k := j - k) (j := k) (by rw [show k + (j - k) = j by omega]; exact h1) (by omega)
    exact absurd ((rch.det h2 h3).symm ▸ h4) hb
