/-! the rules as the reference reads them: the closing sign apart; what its bank holds -/
section PZ8a
variable (f : Nat → Int32) (n : Int) (L : Lx)
def pGuestB (p : Int) : Option (Rl × Int) := (gClan f n L p).bind fun a => (gWord f n L wAt a.2).bind fun b => (gNum f n L 0 5 b).bind fun c => (gWord f n L wOf c.2).bind fun d => (gClan f n L d).bind fun e => if e.1 = a.1 then none else (gNum f n L 0 1000 e.2).bind fun g => some ((1, a.1, c.1, e.1, g.1, []), g.2)
def pWedB (p : Int) : Option (Rl × Int) := (gClan f n L p).bind fun a => (gClan f n L a.2).bind fun b => if b.1 = a.1 then none else some ((2, a.1, b.1, 0, 0, []), b.2)
def pDroughtB (p : Int) : Option (Rl × Int) := (gNum f n L 0 5 p).bind fun a => (gWord f n L wBelow a.2).bind fun b => (gNum f n L 0 1000 b).bind fun c => (gClan f n L c.2).bind fun d => some ((3, a.1, d.1, 0, c.1, []), d.2)
def pDryB (p : Int) : Option (Rl × Int) := (gNum f n L 0 5 p).bind fun a => (gWord f n L wTo a.2).bind fun b => (gNum f n L 0 5 b).bind fun c => if c.1 = a.1 then none else some ((4, a.1, c.1, 0, 0, []), c.2)
def pShB : Nat → Int → Option (List (Int × Int) × Int)
  | 0, _ => none
  | k + 1, p => (gClan f n L p).bind fun a => (gNum f n L 1 9 a.2).bind fun b => match gSign f n L 44 b.2 with
    | some q => (pShB k q).bind fun r => some ((a.1, b.1) :: r.1, r.2)
    | none => some ([(a.1, b.1)], b.2)
def pTurnsB (rs : List Rl) (p : Int) : Option (Rl × Int) := (gNum f n L 0 5 p).bind fun a => if hasT rs a.1 = true then none else (gSign f n L 58 a.2).bind fun b => (pShB f n L 8 b).bind fun c => some ((0, a.1, 0, 0, 0, c.1), c.2)
end PZ8a
section PZ8b
variable {f : Nat → Int32} {n : Int} {L : Lx} {p q : Int}
theorem sg_one {c d x y : Int} (h1 : gSign f n L c p = some x) (h2 : gSign f n L d p = some y) : c = d ∧ x = y := by
  unfold gSign at h1 h2
  split at h1
  · next a =>
    split at h2
    · next b => exact ⟨a.2.symm.trans b.2, by cases h1; cases h2; rfl⟩
    · cases h2
  · cases h1
theorem pGuest_B {r : Rl} : pGuest f n L p = some (r, q) ↔ ∃ e, pGuestB f n L p = some (r, e) ∧ gSign f n L 59 e = some q := by
  unfold pGuest pGuestB
  constructor
  · intro h
    obtain ⟨a, h1, h⟩ := obS h
    obtain ⟨b, h2, h⟩ := obS h
    obtain ⟨c, h3, h⟩ := obS h
    obtain ⟨d, h4, h⟩ := obS h
    obtain ⟨e, h5, h⟩ := obS h
    split at h
    · cases h
    · next hne =>
      obtain ⟨g, h6, h⟩ := obS h
      obtain ⟨x, h7, h⟩ := obS h
      cases h
      exact ⟨g.2, obM h1 (obM h2 (obM h3 (obM h4 (obM h5 ((if_neg hne).trans (obM h6 rfl)))))), h7⟩
  · rintro ⟨e, h, h7⟩
    obtain ⟨a, h1, h⟩ := obS h
    obtain ⟨b, h2, h⟩ := obS h
    obtain ⟨c, h3, h⟩ := obS h
    obtain ⟨d, h4, h⟩ := obS h
    obtain ⟨e, h5, h⟩ := obS h
    split at h
    · cases h
    · next hne =>
      obtain ⟨g, h6, h⟩ := obS h
      cases h
      exact obM h1 (obM h2 (obM h3 (obM h4 (obM h5 ((if_neg hne).trans (obM h6 (obM h7 rfl)))))))
theorem pWed_B {r : Rl} : pWed f n L p = some (r, q) ↔ ∃ e, pWedB f n L p = some (r, e) ∧ gSign f n L 59 e = some q := by
  unfold pWed pWedB
  constructor
  · intro h
    obtain ⟨a, h1, h⟩ := obS h
    obtain ⟨b, h2, h⟩ := obS h
    split at h
    · cases h
    · next hne =>
      obtain ⟨x, h7, h⟩ := obS h
      cases h
      exact ⟨b.2, obM h1 (obM h2 (if_neg hne)), h7⟩
  · rintro ⟨e, h, h7⟩
    obtain ⟨a, h1, h⟩ := obS h
    obtain ⟨b, h2, h⟩ := obS h
    split at h
    · cases h
    · next hne =>
      cases h
      exact obM h1 (obM h2 ((if_neg hne).trans (obM h7 rfl)))
theorem pDrought_B {r : Rl} : pDrought f n L p = some (r, q) ↔ ∃ e, pDroughtB f n L p = some (r, e) ∧ gSign f n L 59 e = some q := by
  unfold pDrought pDroughtB
  constructor
  · intro h
    obtain ⟨a, h1, h⟩ := obS h
    obtain ⟨b, h2, h⟩ := obS h
    obtain ⟨c, h3, h⟩ := obS h
    obtain ⟨d, h4, h⟩ := obS h
    obtain ⟨x, h7, h⟩ := obS h
    cases h
    exact ⟨d.2, obM h1 (obM h2 (obM h3 (obM h4 rfl))), h7⟩
  · rintro ⟨e, h, h7⟩
    obtain ⟨a, h1, h⟩ := obS h
    obtain ⟨b, h2, h⟩ := obS h
    obtain ⟨c, h3, h⟩ := obS h
    obtain ⟨d, h4, h⟩ := obS h
    cases h
    exact obM h1 (obM h2 (obM h3 (obM h4 (obM h7 rfl))))
theorem pDry_B {r : Rl} : pDry f n L p = some (r, q) ↔ ∃ e, pDryB f n L p = some (r, e) ∧ gSign f n L 59 e = some q := by
  unfold pDry pDryB
  constructor
  · intro h
    obtain ⟨a, h1, h⟩ := obS h
    obtain ⟨b, h2, h⟩ := obS h
    obtain ⟨c, h3, h⟩ := obS h
    split at h
    · cases h
    · next hne =>
      obtain ⟨x, h7, h⟩ := obS h
      cases h
      exact ⟨c.2, obM h1 (obM h2 (obM h3 (if_neg hne))), h7⟩
  · rintro ⟨e, h, h7⟩
    obtain ⟨a, h1, h⟩ := obS h
    obtain ⟨b, h2, h⟩ := obS h
    obtain ⟨c, h3, h⟩ := obS h
    split at h
    · cases h
    · next hne =>
      cases h
      exact obM h1 (obM h2 (obM h3 ((if_neg hne).trans (obM h7 rfl))))
theorem pSh_B : ∀ (k : Nat) {p q : Int} {sh : List (Int × Int)}, pSh f n L k p = some (sh, q) ↔ ∃ e, pShB f n L k p = some (sh, e) ∧ gSign f n L 59 e = some q
  | 0, p, q, sh => ⟨fun h => (by cases h), fun ⟨e, h, _⟩ => (by cases h)⟩
  | k + 1, p, q, sh => by
    unfold pSh pShB
    constructor
    · intro h
      obtain ⟨a, h1, h⟩ := obS h
      obtain ⟨b, h2, h⟩ := obS h
      cases h3 : gSign f n L 59 b.2 with
      | some x =>
        rw [h3] at h
        cases h
        have h4 : gSign f n L 44 b.2 = none := by
          cases h5 : gSign f n L 44 b.2 with
          | none => rfl
          | some y => exact absurd (sg_one h3 h5).1 (by decide)
        refine ⟨b.2, obM h1 (obM h2 ?_), h3⟩
        rw [h4]
      | none =>
        rw [h3] at h
        obtain ⟨x, h4, h⟩ := obS h
        obtain ⟨r, h5, h⟩ := obS h
        obtain ⟨e, h6, h7⟩ := (pSh_B k (sh := r.1) (q := r.2)).mp h5
        cases h
        refine ⟨e, obM h1 (obM h2 ?_), h7⟩
        rw [h4]; exact obM h6 rfl
    · rintro ⟨e, h, h7⟩
      obtain ⟨a, h1, h⟩ := obS h
      obtain ⟨b, h2, h⟩ := obS h
      refine obM h1 (obM h2 ?_)
      cases h4 : gSign f n L 44 b.2 with
      | some x =>
        rw [h4] at h
        obtain ⟨r, h5, h⟩ := obS h
        cases h
        have h3 : gSign f n L 59 b.2 = none := by
          cases h6 : gSign f n L 59 b.2 with
          | none => rfl
          | some y => exact absurd (sg_one h4 h6).1 (by decide)
        rw [h3]
        exact obM rfl (obM ((pSh_B k (sh := r.1) (q := q)).mpr ⟨r.2, h5, h7⟩) rfl)
      | none =>
        rw [h4] at h
        cases h
        rw [h7]
theorem pTurns_B {rs : List Rl} {r : Rl} : pTurns f n L rs p = some (r, q) ↔ ∃ e, pTurnsB f n L rs p = some (r, e) ∧ gSign f n L 59 e = some q := by
  unfold pTurns pTurnsB
  constructor
  · intro h
    obtain ⟨a, h1, h⟩ := obS h
    split at h
    · cases h
    · next hne =>
      obtain ⟨b, h2, h⟩ := obS h
      obtain ⟨c, h3, h⟩ := obS h
      obtain ⟨e, h4, h5⟩ := (pSh_B 8 (sh := c.1) (q := c.2)).mp h3
      cases h
      exact ⟨e, obM h1 ((if_neg hne).trans (obM h2 (obM h4 rfl))), h5⟩
  · rintro ⟨e, h, h7⟩
    obtain ⟨a, h1, h⟩ := obS h
    split at h
    · cases h
    · next hne =>
      obtain ⟨b, h2, h⟩ := obS h
      obtain ⟨c, h3, h⟩ := obS h
      cases h
      exact obM h1 ((if_neg hne).trans (obM h2 (obM ((pSh_B 8 (sh := c.1) (q := q)).mpr ⟨c.2, h3, h7⟩) rfl)))
end PZ8b
/-- what the reference's rows hold of a rule at the place q -/
def LMb (r : Rl) (st : gS) (q : Nat) : Prop := (r.1 = 0 → (st 9 0 q).toInt = r.2.1 ∧ (st 13 0 q).toInt = (r.2.2.2.2.2.length : Int) ∧ ∀ k : Nat, k < r.2.2.2.2.2.length → (st 14 0 (8 * q + k)).toInt = (r.2.2.2.2.2.getD k (0, 0)).1 ∧ (st 15 0 (8 * q + k)).toInt = (r.2.2.2.2.2.getD k (0, 0)).2) ∧ (r.1 = 1 → (st 9 0 q).toInt = r.2.1 ∧ (st 10 0 q).toInt = r.2.2.1 ∧ (st 11 0 q).toInt = r.2.2.2.1 ∧ (st 12 0 q).toInt = r.2.2.2.2.1) ∧ (r.1 = 2 → (st 9 0 q).toInt = r.2.1 ∧ (st 10 0 q).toInt = r.2.2.1) ∧ (r.1 = 3 → (st 9 0 q).toInt = r.2.1 ∧ (st 10 0 q).toInt = r.2.2.1 ∧ (st 12 0 q).toInt = r.2.2.2.2.1) ∧ (r.1 = 4 → (st 9 0 q).toInt = r.2.1 ∧ (st 10 0 q).toInt = r.2.2.1)
def LMr (r : Rl) (st : gS) (q : Nat) : Prop := (st 8 0 q).toInt = r.1 ∧ LMb r st q
def LM (rs : List Rl) (st : gS) (b : Nat) : Prop := ∀ i : Nat, i < rs.length → LMr (rs.getD i r0) st (24 * b + i)
/-- nothing changes in the rows of rules but at the place q -/
def mO (q : Nat) (st u : gS) : Prop := (∀ k j, 8 ≤ k → k ≤ 13 → j ≠ q → u k 0 j = st k 0 j) ∧ ∀ k j, k = 14 ∨ k = 15 → ¬ (8 * q ≤ j ∧ j < 8 * q + 8) → u k 0 j = st k 0 j
theorem mO.rf {q : Nat} {st : gS} : mO q st st := ⟨fun _ _ _ _ _ => rfl, fun _ _ _ _ => rfl⟩
theorem mO.trans {q : Nat} {a b c : gS} (h1 : mO q a b) (h2 : mO q b c) : mO q a c := ⟨fun k j x1 x2 x3 => (h2.1 k j x1 x2 x3).trans (h1.1 k j x1 x2 x3), fun k j x1 x2 => (h2.2 k j x1 x2).trans (h1.2 k j x1 x2)⟩
theorem mO.up {q k j : Nat} {a b : gS} {v : Int32} (h : mO q a b) (h1 : k ≠ 14 ∧ k ≠ 15 → j = q) (h2 : k = 14 ∨ k = 15 → 8 * q ≤ j ∧ j < 8 * q + 8) : mO q a (gU b k 0 j v) := by
  refine ⟨fun k' j' x1 x2 x3 => ?_, fun k' j' x1 x2 => ?_⟩
  · by_cases e : k' = k
    · subst e
      rw [gU_other (by have := h1 (by omega); omega)]; exact h.1 _ _ x1 x2 x3
    · rw [gU_k e]; exact h.1 _ _ x1 x2 x3
  · by_cases e : k' = k
    · subst e
      rw [gU_other (by intro e2; subst e2; exact x2 (h2 x1))]; exact h.2 _ _ x1 x2
    · rw [gU_k e]; exact h.2 _ _ x1 x2
theorem kM_rule : ∀ k, 8 ≤ k → k ≤ 15 → ∀ j, kM k j = 100 * k := by
  intro k h1 h2 j
  rcases (show k = 8 ∨ k = 9 ∨ k = 10 ∨ k = 11 ∨ k = 12 ∨ k = 13 ∨ k = 14 ∨ k = 15 by omega) with rfl | rfl | rfl | rfl | rfl | rfl | rfl | rfl <;> rfl
theorem mO.frame {q : Nat} {a b : gS} {fs : List Nat} (h : gF kM fs a b) (hf : ∀ x ∈ fs, x < 800 ∨ 1500 < x) : mO q a b := by
  refine ⟨fun k j x1 x2 _ => h k 0 j (fun hm => ?_), fun k j x1 _ => h k 0 j (fun hm => ?_)⟩
  · have := hf _ hm
    rw [kM_rule k x1 (by omega) j] at this
    omega
  · have := hf _ hm
    rw [kM_rule k (by omega) (by omega) j] at this
    omega
theorem LMr.oth {r : Rl} {st u : gS} {q q' : Nat} (h : LMr r st q') (hl : r.2.2.2.2.2.length ≤ 8) (ho : mO q st u) (hne : q' ≠ q) : LMr r u q' := by
  have f : ∀ k, 8 ≤ k → k ≤ 13 → u k 0 q' = st k 0 q' := fun k x1 x2 => ho.1 k q' x1 x2 hne
  obtain ⟨h1, h2, h3, h4, h5, h6⟩ := h
  refine ⟨by rw [f 8 (by decide) (by decide)]; exact h1, fun x => ?_, fun x => ?_, fun x => ?_, fun x => ?_, fun x => ?_⟩
  · obtain ⟨a1, a2, a3⟩ := h2 x
    refine ⟨by rw [f 9 (by decide) (by decide)]; exact a1, by rw [f 13 (by decide) (by decide)]; exact a2, fun k hk => ?_⟩
    rw [ho.2 14 _ (Or.inl rfl) (by omega), ho.2 15 _ (Or.inr rfl) (by omega)]; exact a3 k hk
  · rw [f 9 (by decide) (by decide), f 10 (by decide) (by decide), f 11 (by decide) (by decide), f 12 (by decide) (by decide)]; exact h3 x
  · rw [f 9 (by decide) (by decide), f 10 (by decide) (by decide)]; exact h4 x
  · rw [f 9 (by decide) (by decide), f 10 (by decide) (by decide), f 12 (by decide) (by decide)]; exact h5 x
  · rw [f 9 (by decide) (by decide), f 10 (by decide) (by decide)]; exact h6 x
theorem mO.upk {q k i j : Nat} {a b : gS} {v : Int32} (e : b = gU a k i j v) (hk : k < 8 ∨ 15 < k) : mO q a b := by
  refine ⟨fun k' j' x1 x2 _ => ?_, fun k' j' x1 _ => ?_⟩
  · rw [e, gU_k (by omega)]
  · rw [e, gU_k (by omega)]
theorem LMb_1 {a b c d : Int} {st : gS} {q : Nat} (h1 : (st 9 0 q).toInt = a) (h2 : (st 10 0 q).toInt = b) (h3 : (st 11 0 q).toInt = c) (h4 : (st 12 0 q).toInt = d) : LMb (1, a, b, c, d, []) st q := ⟨fun h => absurd (show (1 : Int) = 0 from h) (by decide), fun _ => ⟨h1, h2, h3, h4⟩, fun h => absurd (show (1 : Int) = 2 from h) (by decide), fun h => absurd (show (1 : Int) = 3 from h) (by decide), fun h => absurd (show (1 : Int) = 4 from h) (by decide)⟩
theorem LMb_2 {a b : Int} {st : gS} {q : Nat} (h1 : (st 9 0 q).toInt = a) (h2 : (st 10 0 q).toInt = b) : LMb (2, a, b, 0, 0, []) st q := ⟨fun h => absurd (show (2 : Int) = 0 from h) (by decide), fun h => absurd (show (2 : Int) = 1 from h) (by decide), fun _ => ⟨h1, h2⟩, fun h => absurd (show (2 : Int) = 3 from h) (by decide), fun h => absurd (show (2 : Int) = 4 from h) (by decide)⟩
theorem LMb_3 {a b d : Int} {st : gS} {q : Nat} (h1 : (st 9 0 q).toInt = a) (h2 : (st 10 0 q).toInt = b) (h4 : (st 12 0 q).toInt = d) : LMb (3, a, b, 0, d, []) st q := ⟨fun h => absurd (show (3 : Int) = 0 from h) (by decide), fun h => absurd (show (3 : Int) = 1 from h) (by decide), fun h => absurd (show (3 : Int) = 2 from h) (by decide), fun _ => ⟨h1, h2, h4⟩, fun h => absurd (show (3 : Int) = 4 from h) (by decide)⟩
theorem LMb_4 {a b : Int} {st : gS} {q : Nat} (h1 : (st 9 0 q).toInt = a) (h2 : (st 10 0 q).toInt = b) : LMb (4, a, b, 0, 0, []) st q := ⟨fun h => absurd (show (4 : Int) = 0 from h) (by decide), fun h => absurd (show (4 : Int) = 1 from h) (by decide), fun h => absurd (show (4 : Int) = 2 from h) (by decide), fun h => absurd (show (4 : Int) = 3 from h) (by decide), fun _ => ⟨h1, h2⟩⟩
theorem getR {rs : List Rl} {i : Nat} (h : i < rs.length) : rs.getD i r0 ∈ rs := by
  rw [List.getD_eq_getElem?_getD, List.getElem?_eq_getElem h]; exact List.getElem_mem h
theorem LM.has {rs : List Rl} {st : gS} {b : Nat} {w : Int} (h : LM rs st b) : hasT rs w = true ↔ ∃ i : Nat, i < rs.length ∧ (st 8 0 (24 * b + i)).toInt = 0 ∧ (st 9 0 (24 * b + i)).toInt = w := by
  unfold hasT
  rw [List.any_eq_true]
  constructor
  · rintro ⟨x, hx, h1⟩
    have h1 := of_decide_eq_true h1
    obtain ⟨i, hi, e⟩ := List.getElem_of_mem hx
    have e2 : rs.getD i r0 = x := by rw [List.getD_eq_getElem?_getD, List.getElem?_eq_getElem hi, e]; rfl
    have h2 := h i hi
    rw [e2] at h2
    exact ⟨i, hi, h2.1.trans h1.1, ((h2.2.1 h1.1).1).trans h1.2⟩
  · rintro ⟨i, hi, h1, h2⟩
    have h3 := h i hi
    have h4 : (rs.getD i r0).1 = 0 := h3.1.symm.trans h1
    exact ⟨_, getR hi, decide_eq_true ⟨h4, ((h3.2.1 h4).1).symm.trans h2⟩⟩
theorem LM.all {rs : List Rl} {st u : gS} {b : Nat} (h : LM rs st b) (ha : ∀ k j, 8 ≤ k → k ≤ 15 → u k 0 j = st k 0 j) : LM rs u b := fun i hi => by
  have h1 := h i hi
  unfold LMr LMb at h1 ⊢
  simp only [ha 8 _ (by decide) (by decide), ha 9 _ (by decide) (by decide), ha 10 _ (by decide) (by decide), ha 11 _ (by decide) (by decide), ha 12 _ (by decide) (by decide), ha 13 _ (by decide) (by decide), ha 14 _ (by decide) (by decide), ha 15 _ (by decide) (by decide)]
  exact h1
theorem LM.oth {rs : List Rl} {st u : gS} {b q : Nat} (h : LM rs st b) (hwf : ∀ r ∈ rs, wfR r) (ho : mO q st u) (hq : ∀ i, i < rs.length → 24 * b + i ≠ q) : LM rs u b := fun i hi => (h i hi).oth ((hwf _ (getR hi)).2.2.2.2.2.1) ho (hq i hi)
theorem LM.snoc {rs : List Rl} {r : Rl} {st : gS} {b : Nat} (h : LM rs st b) (hr : LMr r st (24 * b + rs.length)) : LM (rs ++ [r]) st b := fun i hi => by
  rcases getD_app (d := r0) hi with ⟨q1, q2⟩ | ⟨q1, q2⟩
  · rw [q2]; exact h i q1
  · rw [q2, q1]; exact hr
theorem LM.nil {st : gS} {b : Nat} : LM [] st b := fun i hi => absurd hi (Nat.not_lt_zero _)
/-- the shares that stand at the place q -/
def LMs (sh : List (Int × Int)) (st : gS) (q : Nat) : Prop := ∀ k : Nat, k < sh.length → (st 14 0 (8 * q + k)).toInt = (sh.getD k (0, 0)).1 ∧ (st 15 0 (8 * q + k)).toInt = (sh.getD k (0, 0)).2
theorem getS_app {l : List (Int × Int)} {x : Int × Int} {i : Nat} (h : i < (l ++ [x]).length) : (i < l.length ∧ (l ++ [x]).getD i (0, 0) = l.getD i (0, 0)) ∨ (i = l.length ∧ (l ++ [x]).getD i (0, 0) = x) := by
  rw [List.length_append, List.length_singleton] at h
  by_cases h1 : i < l.length
  · left; refine ⟨h1, ?_⟩
    rw [List.getD_eq_getElem?_getD, List.getD_eq_getElem?_getD, List.getElem?_append_left h1]
  · right
    have h2 : i = l.length := by omega
    refine ⟨h2, ?_⟩
    rw [List.getD_eq_getElem?_getD, h2, List.getElem?_append_right (Nat.le_refl _), Nat.sub_self]
    rfl
theorem LMs.snoc {sh : List (Int × Int)} {st u : gS} {q : Nat} {c d : Int32} (h : LMs sh st q) (h14 : u 14 0 = upd (st 14 0) (8 * q + sh.length) c) (h15 : u 15 0 = upd (st 15 0) (8 * q + sh.length) d) : LMs (sh ++ [(c.toInt, d.toInt)]) u q := fun k hk => by
  rw [h14, h15]
  rcases getS_app hk with ⟨q1, q2⟩ | ⟨q1, q2⟩
  · rw [q2, pk_un (by omega), pk_un (by omega)]; exact h k q1
  · rw [q2, q1, pk_us, pk_us]; exact ⟨rfl, rfl⟩
theorem LMb_0 {w : Int} {sh : List (Int × Int)} {st : gS} {q : Nat} (h1 : (st 9 0 q).toInt = w) (h2 : (st 13 0 q).toInt = (sh.length : Int)) (h3 : LMs sh st q) : LMb (0, w, 0, 0, 0, sh) st q := ⟨fun _ => ⟨h1, h2, h3⟩, fun h => absurd (show (0 : Int) = 1 from h) (by decide), fun h => absurd (show (0 : Int) = 2 from h) (by decide), fun h => absurd (show (0 : Int) = 3 from h) (by decide), fun h => absurd (show (0 : Int) = 4 from h) (by decide)⟩
section PZ8c
variable {f : Nat → Int32} {n : Int} {L : Lx} {p q : Int} {k : Nat} {a b : Int × Int}
theorem shB_nc (h : gClan f n L p = none) : pShB f n L k p = none := by
  cases k with
  | zero => rfl
  | succ k => unfold pShB; exact obN h
theorem shB_nn (h : gClan f n L p = some a) (h2 : gNum f n L 1 9 a.2 = none) : pShB f n L k p = none := by
  cases k with
  | zero => rfl
  | succ k => unfold pShB; exact obM h (obN h2)
theorem shB_end (h : gClan f n L p = some a) (h2 : gNum f n L 1 9 a.2 = some b) (h3 : gSign f n L 44 b.2 = none) : pShB f n L (k + 1) p = some ([(a.1, b.1)], b.2) := by
  unfold pShB
  refine obM h (obM h2 ?_)
  rw [h3]
theorem shB_go (h : gClan f n L p = some a) (h2 : gNum f n L 1 9 a.2 = some b) (h3 : gSign f n L 44 b.2 = some q) : pShB f n L (k + 1) p = (pShB f n L k q).bind fun r => some ((a.1, b.1) :: r.1, r.2) := by
  conv => lhs; unfold pShB
  refine obM h (obM h2 ?_)
  rw [h3]
end PZ8c
theorem LM.frame {rs : List Rl} {st u : gS} {b : Nat} {fs : List Nat} (h : LM rs st b) (hg : gF kM fs st u) (hf : ∀ x ∈ fs, x < 800 ∨ 1500 < x) : LM rs u b := h.all (fun k j h1 h2 => hg k 0 j (fun hm => by
  have := hf _ hm
  rw [kM_rule k h1 h2 j] at this
  omega))
/-- no round of turns of the well t stands at the places lo .. hi - 1 -/
def noT (st : gS) (t : Int) (lo : Nat) (hi : Int) : Prop := ∀ q : Nat, lo ≤ q → (q : Int) < hi → ¬ ((st 8 0 q).toInt = 0 ∧ (st 9 0 q).toInt = t)
theorem noT.nil {st : gS} {t hi : Int} {lo : Nat} (h : hi ≤ (lo : Int)) : noT st t lo hi := fun q h1 h2 => by omega
theorem noT.step {st : gS} {t hi : Int} {lo : Nat} {y : Int32} (h : noT st t lo y.toInt) (h0 : 0 ≤ y.toInt) (hh : hi = y.toInt + 1) (hn : ¬ ((st 8 0 y.toNatClampNeg).toInt = 0 ∧ (st 9 0 y.toNatClampNeg).toInt = t)) : noT st t lo hi := fun q h1 h2 => by
  by_cases e : (q : Int) < y.toInt
  · exact h q h1 e
  · have c := gs_cl h0
    rw [show q = y.toNatClampNeg by omega]; exact hn
theorem LM.not {rs : List Rl} {st : gS} {b : Nat} {t hi : Int} (h : LM rs st b) (hn : noT st t (24 * b) hi) (hh : 24 * (b : Int) + (rs.length : Int) ≤ hi) : ¬ hasT rs t = true := fun hx => by
  obtain ⟨i, hi, h1, h2⟩ := h.has.mp hx
  exact hn (24 * b + i) (by omega) (by omega) ⟨h1, h2⟩
theorem LM.yes {rs : List Rl} {st : gS} {b : Nat} {t : Int} {y : Int32} (h : LM rs st b) (h0 : 24 * (b : Int) ≤ y.toInt) (h1 : y.toInt < 24 * (b : Int) + (rs.length : Int)) (h2 : (st 8 0 y.toNatClampNeg).toInt = 0) (h3 : (st 9 0 y.toNatClampNeg).toInt = t) : hasT rs t = true := by
  have c := gs_cl (x := y) (by omega)
  refine h.has.mpr ⟨y.toNatClampNeg - 24 * b, by omega, ?_, ?_⟩
  · rw [show 24 * b + (y.toNatClampNeg - 24 * b) = y.toNatClampNeg by omega]; exact h2
  · rw [show 24 * b + (y.toNatClampNeg - 24 * b) = y.toNatClampNeg by omega]; exact h3
/-- in the loop over the shares: n are read; more: another is to come -/
def shI (f : Nat → Int32) (n P : Int) (x : Nat) (k more : Int) (st : gS) : Prop := ∃ (sh : List (Int × Int)) (p : Int), mCur f n p st ∧ (sh.length : Int) = k ∧ (∀ s ∈ sh, wfS s) ∧ LMs sh st x ∧ (more = 1 → ((pShB f n (mLex f n) (8 - k).toNat p).bind fun r9 => some (sh ++ r9.1, r9.2)) = pShB f n (mLex f n) 8 P) ∧ (more = 0 → (st 13 0 x).toInt = k ∧ 1 ≤ k ∧ pShB f n (mLex f n) 8 P = some (sh, p))
section PZ8d
variable {f : Nat → Int32} {n P : Int} {x : Nat} {st u : gS} {sh : List (Int × Int)} {p e1 e2 q k k1 : Int} {c d : Int32}
theorem shI.new (h : mCur f n P st) : shI f n P x 0 1 st := ⟨[], P, h, rfl, fun s hs => (by cases hs), fun k hk => absurd hk (Nat.not_lt_zero _), fun _ => pSh_id, fun h => absurd h (by decide)⟩
theorem shI.go (hs1 : (sh.length : Int) = k) (hs2 : ∀ s ∈ sh, wfS s) (hs3 : LMs sh st x) (hs4 : ((pShB f n (mLex f n) (8 - k).toNat p).bind fun r9 => some (sh ++ r9.1, r9.2)) = pShB f n (mLex f n) 8 P) (hk : k1 = k + 1) (hk8 : k ≤ 7) (hc : gClan f n (mLex f n) p = some (c.toInt, e1)) (hcb : 0 ≤ c.toInt ∧ c.toInt ≤ 5) (hd : gNum f n (mLex f n) 1 9 e1 = some (d.toInt, e2)) (hdb : 1 ≤ d.toInt ∧ d.toInt ≤ 9) (hsg : gSign f n (mLex f n) 44 e2 = some q) (hcur : mCur f n q u) (h14 : u 14 0 = upd (st 14 0) (8 * x + sh.length) c) (h15 : u 15 0 = upd (st 15 0) (8 * x + sh.length) d) : shI f n P x k1 1 u := by
  refine ⟨sh ++ [(c.toInt, d.toInt)], q, hcur, by rw [List.length_append, List.length_singleton]; omega, wfS_app hs2 ⟨hcb, hdb⟩, hs3.snoc h14 h15, fun _ => ?_, fun h => absurd h (by decide)⟩
  rw [← hs4, show (8 - k).toNat = (8 - k1).toNat + 1 by omega, shB_go hc hd hsg, pSh_fold]
theorem shI.stop (hs1 : (sh.length : Int) = k) (hs2 : ∀ s ∈ sh, wfS s) (hs3 : LMs sh st x) (hs4 : ((pShB f n (mLex f n) (8 - k).toNat p).bind fun r9 => some (sh ++ r9.1, r9.2)) = pShB f n (mLex f n) 8 P) (hk : k1 = k + 1) (hk8 : k ≤ 7) (hc : gClan f n (mLex f n) p = some (c.toInt, e1)) (hcb : 0 ≤ c.toInt ∧ c.toInt ≤ 5) (hd : gNum f n (mLex f n) 1 9 e1 = some (d.toInt, e2)) (hdb : 1 ≤ d.toInt ∧ d.toInt ≤ 9) (hsg : gSign f n (mLex f n) 44 e2 = none) (hcur : mCur f n e2 u) (h14 : u 14 0 = upd (st 14 0) (8 * x + sh.length) c) (h15 : u 15 0 = upd (st 15 0) (8 * x + sh.length) d) (h13 : (u 13 0 x).toInt = k1) : shI f n P x k1 0 u := by
  refine ⟨sh ++ [(c.toInt, d.toInt)], e2, hcur, by rw [List.length_append, List.length_singleton]; omega, wfS_app hs2 ⟨hcb, hdb⟩, hs3.snoc h14 h15, fun h => absurd h (by decide), fun _ => ⟨h13, by omega, ?_⟩⟩
  rw [← hs4, show (8 - k).toNat = (7 - k).toNat + 1 by omega, shB_end hc hd hsg]
  rfl
theorem shI.no (hs4 : ((pShB f n (mLex f n) (8 - k).toNat p).bind fun r9 => some (sh ++ r9.1, r9.2)) = pShB f n (mLex f n) 8 P) (h : pShB f n (mLex f n) (8 - k).toNat p = none) : pShB f n (mLex f n) 8 P = none := hs4.symm.trans (obN h)
end PZ8d
/-- the rows of rules stay as they are -/
def mA (st u : gS) : Prop := ∀ k j, 8 ≤ k → k ≤ 15 → u k 0 j = st k 0 j
theorem mA.rf {st : gS} : mA st st := fun _ _ _ _ => rfl
theorem mA.trans {a b c : gS} (h1 : mA a b) (h2 : mA b c) : mA a c := fun k j x1 x2 => (h2 k j x1 x2).trans (h1 k j x1 x2)
theorem mA.frame {a b : gS} {fs : List Nat} (h : gF kM fs a b) (hf : ∀ x ∈ fs, x < 800 ∨ 1500 < x) : mA a b := fun k j h1 h2 => h k 0 j (fun hm => by
  have := hf _ hm
  rw [kM_rule k h1 h2 j] at this
  omega)
theorem mA.upk {k i j : Nat} {a b : gS} {v : Int32} (e : b = gU a k i j v) (hk : k < 8 ∨ 15 < k) : mA a b := fun k' j' x1 x2 => by rw [e, gU_k (by omega)]
theorem LMb.all {r : Rl} {st u : gS} {q : Nat} (h : LMb r st q) (ha : mA st u) : LMb r u q := by
  unfold LMb at h ⊢
  simp only [ha 9 _ (by decide) (by decide), ha 10 _ (by decide) (by decide), ha 11 _ (by decide) (by decide), ha 12 _ (by decide) (by decide), ha 13 _ (by decide) (by decide), ha 14 _ (by decide) (by decide), ha 15 _ (by decide) (by decide)]
  exact h
theorem LM.add {rs : List Rl} {r : Rl} {st v u : gS} {b q : Nat} (h : LM rs st b) (hwf : ∀ r ∈ rs, wfR r) (ho : mO q st u) (hq : q = 24 * b + rs.length) (h8 : (u 8 0 q).toInt = r.1) (hb : LMb r v q) (ha : mA v u) : LM (rs ++ [r]) u b := by
  refine (h.oth hwf ho (fun i hi => by omega)).snoc ?_
  rw [← hq]
  exact ⟨h8, hb.all ha⟩
theorem noB {α : Type} {X : Option (α × Int)} {Y : Option (α × Int)} {S : Int → Option Int} (hXY : ∀ r q, Y = some (r, q) ↔ ∃ e, X = some (r, e) ∧ S e = some q) (h : X = none ∨ ∃ r e, X = some (r, e) ∧ S e = none) : Y = none := by
  cases hY : Y with
  | none => rfl
  | some y =>
    obtain ⟨e, h1, h2⟩ := (hXY y.1 y.2).mp hY
    rcases h with h | ⟨r, e', h3, h4⟩
    · rw [h] at h1; cases h1
    · rw [h3] at h1; cases h1; rw [h4] at h2; cases h2
