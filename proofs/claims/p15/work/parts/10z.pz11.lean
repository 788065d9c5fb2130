/-! the reference's calendar: by turns from a day on, by drought on the day -/
/-- the wells before i, and of i the days before k, have been told by the turns -/
def ownL (rs : List Rl) (o n : Nat → Int32) (dy i k : Int) : Prop := ∀ w d : Nat, w < 6 → d < 200 → (n (200 * w + d)).toInt = if ((w : Int) < i ∨ ((w : Int) = i ∧ (d : Int) < k)) ∧ dy ≤ (d : Int) then ownT rs w d else (o (200 * w + d)).toInt
theorem ownL.new {rs : List Rl} {o : Nat → Int32} {dy i k : Int} (hi : i ≤ 0) (h : k ≤ dy) : ownL rs o o dy i k := fun w d _ _ => by rw [if_neg (by omega)]
theorem ownL.step {rs : List Rl} {o n : Nat → Int32} {dy k1 : Int} {i k x v : Int32} (h : ownL rs o n dy i.toInt k.toInt) (h0 : 0 ≤ i.toInt) (h5 : i.toInt ≤ 5) (hk : dy ≤ k.toInt) (hk0 : 0 ≤ k.toInt) (hk9 : k.toInt ≤ 199) (hx : x.toInt = 200 * i.toInt + k.toInt) (hv : v.toInt = ownT rs i.toInt k.toInt) (e : k1 = k.toInt + 1) : ownL rs o (upd n x.toNatClampNeg v) dy i.toInt k1 := fun w d hw hd => by
  have c := gs_cl (x := x) (by omega)
  by_cases q : 200 * w + d = x.toNatClampNeg
  · have e1 : (w : Int) = i.toInt := by omega
    have e2 : (d : Int) = k.toInt := by omega
    rw [q, pk_us, if_pos (by omega), e1, e2]; exact hv
  · rw [pk_un q, h w d hw hd]
    by_cases q2 : ((w : Int) < i.toInt ∨ ((w : Int) = i.toInt ∧ (d : Int) < k.toInt)) ∧ dy ≤ (d : Int)
    · rw [if_pos q2, if_pos (by omega)]
    · rw [if_neg q2, if_neg (by omega)]
theorem ownL.next {rs : List Rl} {o n : Nat → Int32} {dy i i1 k k1 : Int} (h : ownL rs o n dy i k) (hk : 200 ≤ k) (e : i1 = i + 1) (hk1 : k1 ≤ dy) : ownL rs o n dy i1 k1 := fun w d hw hd => by
  rw [h w d hw hd]
  by_cases q2 : ((w : Int) < i ∨ ((w : Int) = i ∧ (d : Int) < k)) ∧ dy ≤ (d : Int)
  · rw [if_pos q2, if_pos (by omega)]
  · rw [if_neg q2, if_neg (by omega)]
/-- on the day dy the wells before i have been told by the droughts -/
def drL (rs : List Rl) (o n wl mo : Nat → Int32) (dy i : Int) : Prop := ∀ w d : Nat, w < 6 → d < 200 → (n (200 * w + d)).toInt = if (w : Int) < i ∧ (d : Int) = dy ∧ ¬ (wl w).toInt = 0 ∧ 0 ≤ dryO rs w (mo w).toInt then dryO rs w (mo w).toInt else (o (200 * w + d)).toInt
theorem drL.new {rs : List Rl} {o wl mo : Nat → Int32} {dy i : Int} (h : i ≤ 0) : drL rs o o wl mo dy i := fun w d _ _ => by rw [if_neg (by omega)]
theorem drL.skip {rs : List Rl} {o n wl mo : Nat → Int32} {dy i1 : Int} {i : Int32} (h : drL rs o n wl mo dy i.toInt) (h0 : 0 ≤ i.toInt) (hn : (wl i.toNatClampNeg).toInt = 0 ∨ dryO rs i.toInt (mo i.toNatClampNeg).toInt < 0) (e : i1 = i.toInt + 1) : drL rs o n wl mo dy i1 := fun w d hw hd => by
  have c := gs_cl h0
  rw [h w d hw hd]
  by_cases q : (w : Int) = i.toInt
  · have q3 : w = i.toNatClampNeg := by omega
    rw [if_neg (by omega), if_neg (fun h9 => by
      rcases hn with hn | hn
      · exact h9.2.2.1 (by rw [q3]; exact hn)
      · have := h9.2.2.2; rw [q, q3] at this; omega)]
  · by_cases q2 : (w : Int) < i.toInt ∧ (d : Int) = dy ∧ ¬ (wl w).toInt = 0 ∧ 0 ≤ dryO rs w (mo w).toInt
    · rw [if_pos q2, if_pos ⟨by omega, q2.2⟩]
    · rw [if_neg q2, if_neg (fun h9 => q2 ⟨by omega, h9.2⟩)]
theorem drL.put {rs : List Rl} {o n wl mo : Nat → Int32} {dy i1 : Int} {i x v : Int32} (h : drL rs o n wl mo dy i.toInt) (h0 : 0 ≤ i.toInt) (h5 : i.toInt ≤ 5) (hd0 : 0 ≤ dy) (hd9 : dy ≤ 199) (hw : ¬ (wl i.toNatClampNeg).toInt = 0) (hv : v.toInt = dryO rs i.toInt (mo i.toNatClampNeg).toInt) (hv0 : 0 ≤ v.toInt) (hx : x.toInt = 200 * i.toInt + dy) (e : i1 = i.toInt + 1) : drL rs o (upd n x.toNatClampNeg v) wl mo dy i1 := fun w d hw6 hd => by
  have c := gs_cl h0
  have cx := gs_cl (x := x) (by omega)
  by_cases q : 200 * w + d = x.toNatClampNeg
  · have q3 : w = i.toNatClampNeg := by omega
    have q4 : (d : Int) = dy := by omega
    have q5 : (w : Int) = i.toInt := by omega
    have hv' : v.toInt = dryO rs w (mo w).toInt := by rw [q5, q3]; exact hv
    rw [q, pk_us, if_pos ⟨by omega, q4, by rw [q3]; exact hw, by rw [← hv']; exact hv0⟩, hv']
  · rw [pk_un q, h w d hw6 hd]
    by_cases q2 : (w : Int) < i.toInt ∧ (d : Int) = dy ∧ ¬ (wl w).toInt = 0 ∧ 0 ≤ dryO rs w (mo w).toInt
    · rw [if_pos q2, if_pos ⟨by omega, q2.2⟩]
    · rw [if_neg q2, if_neg (fun h9 => q2 ⟨by omega, h9.2⟩)]
/-- in the loop over the text -/
def txI (f : Nat → Int32) (n : Int) (b : Nat) (more k : Int) (st : gS) : Prop := (more = 1 → ∃ (rs : List Rl) (p : Int), mCur f n p st ∧ LM rs st b ∧ (∀ r ∈ rs, wfR r) ∧ unT rs ∧ (rs.length : Int) = k ∧ pText f n (mLex f n) (20 - k).toNat rs p = pText f n (mLex f n) 20 [] 0) ∧ (more = 0 → pText f n (mLex f n) 20 [] 0 = none)
section PZ11
variable {f : Nat → Int32} {n : Int} {b : Nat} {st u : gS} {rs : List Rl} {p q k k1 : Int} {r : Rl}
theorem txI.new (h : mCur f n 0 st) (hk : k = 0) : txI f n b 1 k st := ⟨fun _ => ⟨[], 0, h, LM.nil, fun r hr => (by cases hr), trivial, hk.symm, by rw [hk, show ((20 : Int) - 0).toNat = 20 from rfl]⟩, fun h => absurd h (by decide)⟩
theorem txI.go (hL : LM (rs ++ [r]) u b) (hwf : ∀ r ∈ rs, wfR r) (hu : unT rs) (hl : (rs.length : Int) = k) (hp : pText f n (mLex f n) (20 - k).toNat rs p = pText f n (mLex f n) 20 [] 0) (h0 : ¬ (mLex f n p).1 = 0) (hr : pRule f n (mLex f n) rs p = some (r, q)) (hwr : wfR r) (hk : k1 = k + 1) (hk20 : k ≤ 19) (hc : mCur f n q u) : txI f n b 1 k1 u := by
  refine ⟨fun _ => ⟨rs ++ [r], q, hc, hL, wfR_app hwf hwr, unT_app hu (pRule_un hr), by rw [List.length_append, List.length_singleton]; omega, ?_⟩, fun h => absurd h (by decide)⟩
  rw [← hp, show (20 - k).toNat = (20 - k1).toNat + 1 by omega]
  exact (pText_go h0 hr).symm
theorem txI.no (hl : (rs.length : Int) = k) (hp : pText f n (mLex f n) (20 - k).toNat rs p = pText f n (mLex f n) 20 [] 0) (h0 : ¬ (mLex f n p).1 = 0) (h : pRule f n (mLex f n) rs p = none ∨ (rs.length : Int) = 20) : txI f n b 0 k1 u := by
  refine ⟨fun h => absurd h (by decide), fun _ => ?_⟩
  rcases h with h | h
  · exact hp.symm.trans (pText_no h0 h)
  · rw [← hp, show (20 - k).toNat = 0 by omega]; exact pText_full h0
end PZ11
/-! the class's calendar -/
def ownC (rs : List Rl) (st u : gS) (dy i k : Int) : Prop := ∀ w d : Nat, w < 6 → d < 200 → (u 11 w d).toInt = if ((w : Int) < i ∨ ((w : Int) = i ∧ (d : Int) < k)) ∧ dy ≤ (d : Int) then ownT rs w d else (st 11 w d).toInt
theorem ownC.new {rs : List Rl} {st : gS} {dy i k : Int} (hi : i ≤ 0) (h : k ≤ dy) : ownC rs st st dy i k := fun w d _ _ => by rw [if_neg (by omega)]
theorem ownC.step {rs : List Rl} {st m : gS} {dy k1 : Int} {i k v : Int32} (h : ownC rs st m dy i.toInt k.toInt) (h0 : 0 ≤ i.toInt) (h5 : i.toInt ≤ 5) (hk : dy ≤ k.toInt) (hk0 : 0 ≤ k.toInt) (hk9 : k.toInt ≤ 199) (hv : v.toInt = ownT rs i.toInt k.toInt) (e : k1 = k.toInt + 1) : ownC rs st (gU m 11 i.toNatClampNeg k.toNatClampNeg v) dy i.toInt k1 := fun w d hw hd => by
  have c := gs_cl h0
  have ck := gs_cl hk0
  by_cases q : w = i.toNatClampNeg
  · by_cases q2 : d = k.toNatClampNeg
    · rw [q, q2, gU_same, if_pos (by omega), c, ck]; exact hv
    · rw [q, gU_other q2, ← q, h w d hw hd]
      by_cases q3 : ((w : Int) < i.toInt ∨ ((w : Int) = i.toInt ∧ (d : Int) < k.toInt)) ∧ dy ≤ (d : Int)
      · rw [if_pos q3, if_pos (by omega)]
      · rw [if_neg q3, if_neg (by omega)]
  · rw [gU_ne (fun h9 => q h9.2), h w d hw hd]
    by_cases q3 : ((w : Int) < i.toInt ∨ ((w : Int) = i.toInt ∧ (d : Int) < k.toInt)) ∧ dy ≤ (d : Int)
    · rw [if_pos q3, if_pos (by omega)]
    · rw [if_neg q3, if_neg (by omega)]
theorem ownC.next {rs : List Rl} {st m : gS} {dy i i1 k k1 : Int} (h : ownC rs st m dy i k) (hk : 200 ≤ k) (e : i1 = i + 1) (hk1 : k1 ≤ dy) : ownC rs st m dy i1 k1 := fun w d hw hd => by
  rw [h w d hw hd]
  by_cases q2 : ((w : Int) < i ∨ ((w : Int) = i ∧ (d : Int) < k)) ∧ dy ≤ (d : Int)
  · rw [if_pos q2, if_pos (by omega)]
  · rw [if_neg q2, if_neg (by omega)]
/-- whose the day is by drought, as the class asks: a well that is not there has the morning -1 -/
def dryD (rs : List Rl) (w m : Int) : Int := if m = -1 then -1 else dryO rs w m
/-- the wells before k have their owner of the day -/
def setC (rs : List Rl) (st u : gS) (i : Nat) (dy k : Int) : Prop := ∀ w : Nat, w < 6 → (w : Int) < k → (u 15 i w).toInt = if dryD rs w (st 14 i w).toInt = -1 then (st 11 w dy.toNat).toInt else dryD rs w (st 14 i w).toInt
theorem setC.new {rs : List Rl} {st u : gS} {i : Nat} {dy k : Int} (h : k ≤ 0) : setC rs st u i dy k := fun w _ h1 => by omega
theorem setC.step {rs : List Rl} {st m : gS} {i : Nat} {dy k1 : Int} {k v : Int32} (h : setC rs st m i dy k.toInt) (h0 : 0 ≤ k.toInt) (hv : v.toInt = if dryD rs k.toInt (st 14 i k.toNatClampNeg).toInt = -1 then (st 11 k.toNatClampNeg dy.toNat).toInt else dryD rs k.toInt (st 14 i k.toNatClampNeg).toInt) (e : k1 = k.toInt + 1) : setC rs st (gU m 15 i k.toNatClampNeg v) i dy k1 := fun w hw h1 => by
  have c := gs_cl h0
  by_cases q : w = k.toNatClampNeg
  · rw [q, gU_same, c]; exact hv
  · rw [gU_other q]; exact h w hw (by omega)
/-- the calendar keeps the owners of the day -/
def keepC (st u : gS) (i : Nat) (dy k : Int) : Prop := ∀ w d : Nat, w < 6 → d < 200 → (u 11 w d).toInt = if (w : Int) < k ∧ (d : Int) = dy then (st 15 i w).toInt else (st 11 w d).toInt
theorem keepC.new {st : gS} {i : Nat} {dy k : Int} (h : k ≤ 0) : keepC st st i dy k := fun w d _ _ => by rw [if_neg (by omega)]
theorem keepC.step {st m : gS} {i : Nat} {dy k1 : Int} {k x v : Int32} (h : keepC st m i dy k.toInt) (h0 : 0 ≤ k.toInt) (hx : x.toInt = dy) (hx0 : 0 ≤ dy) (hv : v.toInt = (st 15 i k.toNatClampNeg).toInt) (e : k1 = k.toInt + 1) : keepC st (gU m 11 k.toNatClampNeg x.toNatClampNeg v) i dy k1 := fun w d hw hd => by
  have c := gs_cl h0
  have cx := gs_cl (x := x) (by omega)
  by_cases q : w = k.toNatClampNeg
  · by_cases q2 : d = x.toNatClampNeg
    · rw [q, q2, gU_same, if_pos (by omega)]; exact hv
    · rw [q, gU_other q2, ← q, h w d hw hd, if_neg (by omega), if_neg (by omega)]
  · rw [gU_ne (fun h9 => q h9.2), h w d hw hd]
    by_cases q2 : (w : Int) < k.toInt ∧ (d : Int) = dy
    · rw [if_pos q2, if_pos (by omega)]
    · rw [if_neg q2, if_neg (by omega)]
/-- the clan c has a right at the well w, by the day i of the class -/
def rtC (rs : List Rl) (st : gS) (i : Nat) (w : Nat) (c : Int) : Prop := (st 15 i w).toInt = c ∨ wedT rs (st 15 i w).toInt c ∨ ∃ a : Nat, a < 6 ∧ (st 15 i a).toInt = c ∧ (st 14 i a).toInt = 0 ∧ dryT rs a w
/-- none of the wells before k leads its clan c there -/
def noQ (rs : List Rl) (st : gS) (i w : Nat) (c k : Int) : Prop := ∀ a : Nat, (a : Int) < k → ¬ ((st 15 i a).toInt = c ∧ (st 14 i a).toInt = 0 ∧ dryT rs a w)
theorem noQ.nil {rs : List Rl} {st : gS} {i w : Nat} {c k : Int} (h : k ≤ 0) : noQ rs st i w c k := fun a h1 => by omega
theorem noQ.step {rs : List Rl} {st : gS} {i w : Nat} {c k1 : Int} {y : Int32} (h : noQ rs st i w c y.toInt) (h0 : 0 ≤ y.toInt) (e : k1 = y.toInt + 1) (hn : (st 15 i y.toNatClampNeg).toInt = c → (st 14 i y.toNatClampNeg).toInt = 0 → ¬ dryT rs y.toInt w) : noQ rs st i w c k1 := fun a h1 h9 => by
  have cc := gs_cl h0
  by_cases q : (a : Int) < y.toInt
  · exact h a q h9
  · have e1 : a = y.toNatClampNeg := by omega
    rw [e1] at h9
    exact hn h9.1 h9.2.1 (by rw [← cc]; exact h9.2.2)
theorem rtC.no {rs : List Rl} {st : gS} {i w : Nat} {c k : Int} (h1 : ¬ (st 15 i w).toInt = c) (h2 : ¬ wedT rs (st 15 i w).toInt c) (h3 : noQ rs st i w c k) (hk : 6 ≤ k) : ¬ rtC rs st i w c := fun h => by
  rcases h with h | h | ⟨a, ha, h⟩
  · exact h1 h
  · exact h2 h
  · exact h3 a (by omega) h
