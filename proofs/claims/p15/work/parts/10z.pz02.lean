/-! the rules out of the tokens -/
abbrev Lx : Type := Int → Int × Int × Int
/-- a rule: its sort (0 turns, 1 guest, 2 wed, 3 drought, 4 dry), one, two, three, many; the shares of turns (clan, days) -/
abbrev Rl : Type := Int × Int × Int × Int × Int × List (Int × Int)
abbrev isW (f : Nat → Int32) (n s e : Int) (w : List Int) : Prop := e - s = w.length ∧ ∀ i, i < w.length → bA f n (s + (i : Int)) = w.getD i 0
def wTurns : List Int := [116, 117, 114, 110, 115]
def wGuest : List Int := [103, 117, 101, 115, 116]
def wWed : List Int := [119, 101, 100]
def wDrought : List Int := [100, 114, 111, 117, 103, 104, 116]
def wDry : List Int := [100, 114, 121]
def wAt : List Int := [97, 116]
def wOf : List Int := [111, 102]
def wBelow : List Int := [98, 101, 108, 111, 119]
def wTo : List Int := [116, 111]
def tV (f : Nat → Int32) (n : Int) (t : Int × Int × Int) : Int := vlT f n t.2.1 (t.2.2 - t.2.1).toNat
def gNum (f : Nat → Int32) (n : Int) (L : Lx) (lo hi p : Int) : Option (Int × Int) := if (L p).1 = 3 ∧ lo ≤ tV f n (L p) ∧ tV f n (L p) ≤ hi then some (tV f n (L p), (L p).2.2) else none
def gClan (f : Nat → Int32) (n : Int) (L : Lx) (p : Int) : Option (Int × Int) := if (L p).1 = 2 ∧ (L p).2.2 - (L p).2.1 = 1 ∧ 97 ≤ bA f n (L p).2.1 ∧ bA f n (L p).2.1 ≤ 102 then some (bA f n (L p).2.1 - 97, (L p).2.2) else none
def gWord (f : Nat → Int32) (n : Int) (L : Lx) (w : List Int) (p : Int) : Option Int := if (L p).1 = 2 ∧ isW f n (L p).2.1 (L p).2.2 w then some (L p).2.2 else none
def gSign (f : Nat → Int32) (n : Int) (L : Lx) (c p : Int) : Option Int := if (L p).1 = 4 ∧ bA f n (L p).2.1 = c then some (L p).2.2 else none
def pGuest (f : Nat → Int32) (n : Int) (L : Lx) (p : Int) : Option (Rl × Int) := (gClan f n L p).bind fun a => (gWord f n L wAt a.2).bind fun b => (gNum f n L 0 5 b).bind fun c => (gWord f n L wOf c.2).bind fun d => (gClan f n L d).bind fun e => if e.1 = a.1 then none else (gNum f n L 0 1000 e.2).bind fun g => (gSign f n L 59 g.2).bind fun q => some ((1, a.1, c.1, e.1, g.1, []), q)
def pWed (f : Nat → Int32) (n : Int) (L : Lx) (p : Int) : Option (Rl × Int) := (gClan f n L p).bind fun a => (gClan f n L a.2).bind fun b => if b.1 = a.1 then none else (gSign f n L 59 b.2).bind fun q => some ((2, a.1, b.1, 0, 0, []), q)
def pDrought (f : Nat → Int32) (n : Int) (L : Lx) (p : Int) : Option (Rl × Int) := (gNum f n L 0 5 p).bind fun a => (gWord f n L wBelow a.2).bind fun b => (gNum f n L 0 1000 b).bind fun c => (gClan f n L c.2).bind fun d => (gSign f n L 59 d.2).bind fun q => some ((3, a.1, d.1, 0, c.1, []), q)
def pDry (f : Nat → Int32) (n : Int) (L : Lx) (p : Int) : Option (Rl × Int) := (gNum f n L 0 5 p).bind fun a => (gWord f n L wTo a.2).bind fun b => (gNum f n L 0 5 b).bind fun c => if c.1 = a.1 then none else (gSign f n L 59 c.2).bind fun q => some ((4, a.1, c.1, 0, 0, []), q)
def pSh (f : Nat → Int32) (n : Int) (L : Lx) : Nat → Int → Option (List (Int × Int) × Int)
  | 0, _ => none
  | k + 1, p => (gClan f n L p).bind fun a => (gNum f n L 1 9 a.2).bind fun b => match gSign f n L 59 b.2 with
    | some q => some ([(a.1, b.1)], q)
    | none => (gSign f n L 44 b.2).bind fun q => (pSh f n L k q).bind fun r => some ((a.1, b.1) :: r.1, r.2)
def hasT (rs : List Rl) (w : Int) : Bool := rs.any (fun r => decide (r.1 = 0 ∧ r.2.1 = w))
def pTurns (f : Nat → Int32) (n : Int) (L : Lx) (rs : List Rl) (p : Int) : Option (Rl × Int) := (gNum f n L 0 5 p).bind fun a => if hasT rs a.1 = true then none else (gSign f n L 58 a.2).bind fun b => (pSh f n L 8 b).bind fun c => some ((0, a.1, 0, 0, 0, c.1), c.2)
def pRule (f : Nat → Int32) (n : Int) (L : Lx) (rs : List Rl) (p : Int) : Option (Rl × Int) := match gWord f n L wTurns p with
  | some q => pTurns f n L rs q
  | none => match gWord f n L wGuest p with
    | some q => pGuest f n L q
    | none => match gWord f n L wWed p with
      | some q => pWed f n L q
      | none => match gWord f n L wDrought p with
        | some q => pDrought f n L q
        | none => (gWord f n L wDry p).bind fun q => pDry f n L q
def pText (f : Nat → Int32) (n : Int) (L : Lx) : Nat → List Rl → Int → Option (List Rl)
  | 0, rs, p => if (L p).1 = 0 then some rs else none
  | k + 1, rs, p => if (L p).1 = 0 then some rs else (pRule f n L rs p).bind fun x => pText f n L k (rs ++ [x.1]) x.2
theorem obS {α β : Type} {x : Option α} {g : α → Option β} {b : β} (h : x.bind g = some b) : ∃ a, x = some a ∧ g a = some b := by
  cases x with
  | none => cases h
  | some a => exact ⟨a, rfl, h⟩
theorem obM {α β : Type} {x : Option α} {g : α → Option β} {a : α} {b : Option β} (h1 : x = some a) (h2 : g a = b) : x.bind g = b := by rw [h1]; exact h2
theorem obN {α β : Type} {x : Option α} {g : α → Option β} (h1 : x = none) : x.bind g = none := by rw [h1]; rfl
section PZ
variable {f : Nat → Int32} {n : Int} {L1 L2 : Lx} {p lo hi c : Int} {w : List Int}
theorem gNum_eq (h : L2 p = L1 p) : gNum f n L2 lo hi p = gNum f n L1 lo hi p := by unfold gNum; rw [h]
theorem gClan_eq (h : L2 p = L1 p) : gClan f n L2 p = gClan f n L1 p := by unfold gClan; rw [h]
theorem gWord_eq (h : L2 p = L1 p) : gWord f n L2 w p = gWord f n L1 w p := by unfold gWord; rw [h]
theorem gSign_eq (h : L2 p = L1 p) : gSign f n L2 c p = gSign f n L1 c p := by unfold gSign; rw [h]
theorem gNum_ok {x : Int × Int} (h : gNum f n L1 lo hi p = some x) : (L1 p).1 = 3 ∧ x.2 = (L1 p).2.2 ∧ x.1 = tV f n (L1 p) ∧ lo ≤ x.1 ∧ x.1 ≤ hi := by
  unfold gNum at h
  split at h
  · next q => cases h; exact ⟨q.1, rfl, rfl, q.2⟩
  · cases h
theorem gClan_ok {x : Int × Int} (h : gClan f n L1 p = some x) : (L1 p).1 = 2 ∧ x.2 = (L1 p).2.2 ∧ 0 ≤ x.1 ∧ x.1 ≤ 5 := by
  unfold gClan at h
  split at h
  · next q => cases h; exact ⟨q.1, rfl, by show (0 : Int) ≤ _ - 97; omega, by show _ - 97 ≤ (5 : Int); omega⟩
  · cases h
theorem gWord_ok {x : Int} (h : gWord f n L1 w p = some x) : (L1 p).1 = 2 ∧ x = (L1 p).2.2 := by
  unfold gWord at h
  split at h
  · next q => cases h; exact ⟨q.1, rfl⟩
  · cases h
theorem gSign_ok {x : Int} (h : gSign f n L1 c p = some x) : (L1 p).1 = 4 ∧ x = (L1 p).2.2 := by
  unfold gSign at h
  split at h
  · next q => cases h; exact ⟨q.1, rfl⟩
  · cases h
theorem swN (HL : ∀ p, (L1 p).1 ≠ 1 → ((L1 p).1 = 2 ∨ (L1 p).1 = 3 → (L1 (L1 p).2.2).1 ≠ 1) → L2 p = L1 p) {x : Int × Int} (h : gNum f n L1 lo hi p = some x) (hq : (L1 x.2).1 ≠ 1) : gNum f n L2 lo hi p = some x := by
  have h1 := gNum_ok h
  rw [gNum_eq (HL p (by omega) (fun _ => by rw [← h1.2.1]; exact hq))]; exact h
theorem swC (HL : ∀ p, (L1 p).1 ≠ 1 → ((L1 p).1 = 2 ∨ (L1 p).1 = 3 → (L1 (L1 p).2.2).1 ≠ 1) → L2 p = L1 p) {x : Int × Int} (h : gClan f n L1 p = some x) (hq : (L1 x.2).1 ≠ 1) : gClan f n L2 p = some x := by
  have h1 := gClan_ok h
  rw [gClan_eq (HL p (by omega) (fun _ => by rw [← h1.2.1]; exact hq))]; exact h
theorem swW (HL : ∀ p, (L1 p).1 ≠ 1 → ((L1 p).1 = 2 ∨ (L1 p).1 = 3 → (L1 (L1 p).2.2).1 ≠ 1) → L2 p = L1 p) {x : Int} (h : gWord f n L1 w p = some x) (hq : (L1 x).1 ≠ 1) : L2 p = L1 p := by
  have h1 := gWord_ok h
  exact HL p (by omega) (fun _ => by rw [← h1.2]; exact hq)
theorem swS (HL : ∀ p, (L1 p).1 ≠ 1 → ((L1 p).1 = 2 ∨ (L1 p).1 = 3 → (L1 (L1 p).2.2).1 ≠ 1) → L2 p = L1 p) {x : Int} (h : gSign f n L1 c p = some x) : L2 p = L1 p := by
  have h1 := gSign_ok h
  exact HL p (by omega) (fun q => by omega)
theorem kN {x : Int × Int} (h : gNum f n L1 lo hi p = some x) : (L1 p).1 ≠ 1 := by have := (gNum_ok h).1; omega
theorem kC {x : Int × Int} (h : gClan f n L1 p = some x) : (L1 p).1 ≠ 1 := by have := (gClan_ok h).1; omega
theorem kW {x : Int} (h : gWord f n L1 w p = some x) : (L1 p).1 ≠ 1 := by have := (gWord_ok h).1; omega
theorem kS {x : Int} (h : gSign f n L1 c p = some x) : (L1 p).1 ≠ 1 := by have := (gSign_ok h).1; omega
theorem pGuest_sw (HL : ∀ p, (L1 p).1 ≠ 1 → ((L1 p).1 = 2 ∨ (L1 p).1 = 3 → (L1 (L1 p).2.2).1 ≠ 1) → L2 p = L1 p) {x : Rl × Int} (h : pGuest f n L1 p = some x) : pGuest f n L2 p = some x ∧ (L1 p).1 ≠ 1 := by
  unfold pGuest at h ⊢
  obtain ⟨a, h1, h⟩ := obS h
  obtain ⟨b, h2, h⟩ := obS h
  obtain ⟨c, h3, h⟩ := obS h
  obtain ⟨d, h4, h⟩ := obS h
  obtain ⟨e, h5, h⟩ := obS h
  split at h
  · cases h
  · next hne =>
    obtain ⟨g, h6, h⟩ := obS h
    obtain ⟨q, h7, h⟩ := obS h
    refine ⟨obM (swC HL h1 (kW h2)) (obM ((gWord_eq (swW HL h2 (kN h3))).trans h2) (obM (swN HL h3 (kW h4)) (obM ((gWord_eq (swW HL h4 (kC h5))).trans h4) (obM (swC HL h5 (kN h6)) ?_)))), kC h1⟩
    rw [if_neg hne]
    exact obM (swN HL h6 (kS h7)) (obM ((gSign_eq (swS HL h7)).trans h7) h)
theorem pWed_sw (HL : ∀ p, (L1 p).1 ≠ 1 → ((L1 p).1 = 2 ∨ (L1 p).1 = 3 → (L1 (L1 p).2.2).1 ≠ 1) → L2 p = L1 p) {x : Rl × Int} (h : pWed f n L1 p = some x) : pWed f n L2 p = some x ∧ (L1 p).1 ≠ 1 := by
  unfold pWed at h ⊢
  obtain ⟨a, h1, h⟩ := obS h
  obtain ⟨b, h2, h⟩ := obS h
  split at h
  · cases h
  · next hne =>
    obtain ⟨q, h3, h⟩ := obS h
    refine ⟨obM (swC HL h1 (kC h2)) (obM (swC HL h2 (kS h3)) ?_), kC h1⟩
    rw [if_neg hne]
    exact obM ((gSign_eq (swS HL h3)).trans h3) h
theorem pDrought_sw (HL : ∀ p, (L1 p).1 ≠ 1 → ((L1 p).1 = 2 ∨ (L1 p).1 = 3 → (L1 (L1 p).2.2).1 ≠ 1) → L2 p = L1 p) {x : Rl × Int} (h : pDrought f n L1 p = some x) : pDrought f n L2 p = some x ∧ (L1 p).1 ≠ 1 := by
  unfold pDrought at h ⊢
  obtain ⟨a, h1, h⟩ := obS h
  obtain ⟨b, h2, h⟩ := obS h
  obtain ⟨c, h3, h⟩ := obS h
  obtain ⟨d, h4, h⟩ := obS h
  obtain ⟨q, h5, h⟩ := obS h
  exact ⟨obM (swN HL h1 (kW h2)) (obM ((gWord_eq (swW HL h2 (kN h3))).trans h2) (obM (swN HL h3 (kC h4)) (obM (swC HL h4 (kS h5)) (obM ((gSign_eq (swS HL h5)).trans h5) h)))), kN h1⟩
theorem pDry_sw (HL : ∀ p, (L1 p).1 ≠ 1 → ((L1 p).1 = 2 ∨ (L1 p).1 = 3 → (L1 (L1 p).2.2).1 ≠ 1) → L2 p = L1 p) {x : Rl × Int} (h : pDry f n L1 p = some x) : pDry f n L2 p = some x ∧ (L1 p).1 ≠ 1 := by
  unfold pDry at h ⊢
  obtain ⟨a, h1, h⟩ := obS h
  obtain ⟨b, h2, h⟩ := obS h
  obtain ⟨c, h3, h⟩ := obS h
  split at h
  · cases h
  · next hne =>
    obtain ⟨q, h5, h⟩ := obS h
    refine ⟨obM (swN HL h1 (kW h2)) (obM ((gWord_eq (swW HL h2 (kN h3))).trans h2) (obM (swN HL h3 (kS h5)) ?_)), kN h1⟩
    rw [if_neg hne]
    exact obM ((gSign_eq (swS HL h5)).trans h5) h
theorem pSh_sw (HL : ∀ p, (L1 p).1 ≠ 1 → ((L1 p).1 = 2 ∨ (L1 p).1 = 3 → (L1 (L1 p).2.2).1 ≠ 1) → L2 p = L1 p) : ∀ (k : Nat) {p : Int} {x : List (Int × Int) × Int}, pSh f n L1 k p = some x → pSh f n L2 k p = some x ∧ (L1 p).1 ≠ 1
  | 0, _, _, h => by cases h
  | k + 1, p, x, h => by
    unfold pSh at h ⊢
    obtain ⟨a, h1, h⟩ := obS h
    obtain ⟨b, h2, h⟩ := obS h
    cases h3 : gSign f n L1 59 b.2 with
    | some q =>
      rw [h3] at h
      refine ⟨obM (swC HL h1 (kN h2)) (obM (swN HL h2 (kS h3)) ?_), kC h1⟩
      rw [gSign_eq (swS HL h3), h3]; exact h
    | none =>
      rw [h3] at h
      obtain ⟨q, h4, h⟩ := obS h
      obtain ⟨r, h5, h⟩ := obS h
      refine ⟨obM (swC HL h1 (kN h2)) (obM (swN HL h2 (kS h4)) ?_), kC h1⟩
      rw [gSign_eq (swS HL h4), h3]
      exact obM ((gSign_eq (swS HL h4)).trans h4) (obM (pSh_sw HL k h5).1 h)
theorem pTurns_sw (HL : ∀ p, (L1 p).1 ≠ 1 → ((L1 p).1 = 2 ∨ (L1 p).1 = 3 → (L1 (L1 p).2.2).1 ≠ 1) → L2 p = L1 p) {rs : List Rl} {x : Rl × Int} (h : pTurns f n L1 rs p = some x) : pTurns f n L2 rs p = some x ∧ (L1 p).1 ≠ 1 := by
  unfold pTurns at h ⊢
  obtain ⟨a, h1, h⟩ := obS h
  split at h
  · cases h
  · next hne =>
    obtain ⟨b, h2, h⟩ := obS h
    obtain ⟨c, h3, h⟩ := obS h
    refine ⟨obM (swN HL h1 (kS h2)) ?_, kN h1⟩
    rw [if_neg hne]
    exact obM ((gSign_eq (swS HL h2)).trans h2) (obM (pSh_sw HL 8 h3).1 h)
theorem pRule_sw (HL : ∀ p, (L1 p).1 ≠ 1 → ((L1 p).1 = 2 ∨ (L1 p).1 = 3 → (L1 (L1 p).2.2).1 ≠ 1) → L2 p = L1 p) {rs : List Rl} {x : Rl × Int} (h : pRule f n L1 rs p = some x) : pRule f n L2 rs p = some x := by
  unfold pRule at h ⊢
  cases h1 : gWord f n L1 wTurns p with
  | some q =>
    rw [h1] at h
    obtain ⟨a1, a2⟩ := pTurns_sw HL h
    rw [gWord_eq (swW HL h1 a2), h1]; exact a1
  | none =>
    rw [h1] at h
    cases h2 : gWord f n L1 wGuest p with
    | some q =>
      rw [h2] at h
      obtain ⟨a1, a2⟩ := pGuest_sw HL h
      have e := swW HL h2 a2
      rw [gWord_eq e, h1, gWord_eq e, h2]; exact a1
    | none =>
      rw [h2] at h
      cases h3 : gWord f n L1 wWed p with
      | some q =>
        rw [h3] at h
        obtain ⟨a1, a2⟩ := pWed_sw HL h
        have e := swW HL h3 a2
        rw [gWord_eq e, h1, gWord_eq e, h2, gWord_eq e, h3]; exact a1
      | none =>
        rw [h3] at h
        cases h4 : gWord f n L1 wDrought p with
        | some q =>
          rw [h4] at h
          obtain ⟨a1, a2⟩ := pDrought_sw HL h
          have e := swW HL h4 a2
          rw [gWord_eq e, h1, gWord_eq e, h2, gWord_eq e, h3, gWord_eq e, h4]; exact a1
        | none =>
          rw [h4] at h
          obtain ⟨q, h5, h⟩ := obS h
          obtain ⟨a1, a2⟩ := pDry_sw HL h
          have e := swW HL h5 a2
          rw [gWord_eq e, h1, gWord_eq e, h2, gWord_eq e, h3, gWord_eq e, h4]
          exact obM ((gWord_eq e).trans h5) a1
theorem pText_sw (HL : ∀ p, (L1 p).1 ≠ 1 → ((L1 p).1 = 2 ∨ (L1 p).1 = 3 → (L1 (L1 p).2.2).1 ≠ 1) → L2 p = L1 p) : ∀ (k : Nat) {rs : List Rl} {p : Int} {x : List Rl}, pText f n L1 k rs p = some x → pText f n L2 k rs p = some x
  | 0, rs, p, x, h => by
    unfold pText at h ⊢
    split at h
    · next h0 => rw [HL p (by omega) (fun q => by omega), if_pos h0]; exact h
    · cases h
  | k + 1, rs, p, x, h => by
    unfold pText at h ⊢
    split at h
    · next h0 => rw [HL p (by omega) (fun q => by omega), if_pos h0]; exact h
    · next h0 =>
      obtain ⟨a, h1, h⟩ := obS h
      have h2 := pRule_sw HL h1
      have h3 : (L2 p).1 ≠ 0 := by
        intro q
        unfold pRule gWord at h2
        rw [if_neg (by omega), if_neg (by omega), if_neg (by omega), if_neg (by omega), if_neg (by omega)] at h2
        cases h2
      rw [if_neg h3]
      exact obM h2 (pText_sw HL k h)
end PZ
/-- both ways of reading tokens make the same rules -/
theorem pText_eq {f : Nat → Int32} {n : Int} (hn : n ≤ 800) (k : Nat) (rs : List Rl) (p : Int) : pText f n (cLex f n) k rs p = pText f n (mLex f n) k rs p := by
  have A1 : ∀ p, (cLex f n p).1 ≠ 1 → ((cLex f n p).1 = 2 ∨ (cLex f n p).1 = 3 → (cLex f n (cLex f n p).2.2).1 ≠ 1) → mLex f n p = cLex f n p := fun p h _ => cLex_m hn h
  have A2 : ∀ p, (mLex f n p).1 ≠ 1 → ((mLex f n p).1 = 2 ∨ (mLex f n p).1 = 3 → (mLex f n (mLex f n p).2.2).1 ≠ 1) → cLex f n p = mLex f n p := fun p h h2 => mLex_c hn h h2
  cases h1 : pText f n (cLex f n) k rs p with
  | some x => exact (pText_sw A1 k h1).symm
  | none =>
    cases h2 : pText f n (mLex f n) k rs p with
    | none => rfl
    | some y =>
      have := pText_sw A2 k h2
      rw [h1] at this; cases this
