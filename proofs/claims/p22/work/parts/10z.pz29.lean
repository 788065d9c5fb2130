/-! the reference's planner against the search -/
def evM (rs : List Rl) (st : gS) : Ev := (fun h => if h < 4 then (if (st 22 0 h).toInt = 0 then -1 else (st 23 0 h).toInt) else -1, cutN 4 (st 24 0), fun h => if h < 4 then (st 25 0 h).toInt else 0, cutN 6 (st 3 0), cutN 6 (st 2 0), fun u v => if u < 6 ∧ v < 6 then st 28 0 (6 * u + v) else 0, fun w d => if w < 6 ∧ d < 200 then (st 6 0 (200 * w + d)).toInt else 0, rs, st 0 0 7, cutN 6 (st 4 0), cutN 4 (st 26 0), cutN 4 (st 27 0))
/-- cells that stay while the reference looks for a plan -/
def evQ (s0 st : gS) : Prop := st 22 0 = s0 22 0 ∧ st 23 0 = s0 23 0 ∧ st 24 0 = s0 24 0 ∧ st 25 0 = s0 25 0 ∧ st 3 0 = s0 3 0 ∧ st 2 0 = s0 2 0 ∧ st 28 0 = s0 28 0 ∧ st 6 0 = s0 6 0 ∧ st 0 0 7 = s0 0 0 7 ∧ st 1 0 = s0 1 0
/-- what must be so of the reference's cells -/
def okM (st : gS) : Prop := (∀ h : Nat, h < 4 → ¬ (st 22 0 h).toInt = 0 → 0 ≤ (st 23 0 h).toInt ∧ 0 ≤ (st 24 0 h).toInt) ∧ (∀ w : Nat, w < 6 → (0 < (st 2 0 w).toInt ↔ ¬ (st 1 0 w).toInt = 0)) ∧ (∀ w : Nat, w < 6 → 0 < (st 2 0 w).toInt → (st 2 0 w).toInt ≤ 1000 ∧ (0 ≤ (st 3 0 w).toInt ∧ (st 3 0 w).toInt ≤ 200) ∧ (0 ≤ (st 4 0 w).toInt ∧ (st 4 0 w).toInt ≤ 1000)) ∧ (∀ j : Nat, j < 36 → 0 ≤ (st 28 0 j).toInt ∧ (st 28 0 j).toInt ≤ 9)
/-- the place p holds the world W -/
def snM (E : Ev) (st : gS) (p : Nat) (W : Wd) : Prop := (∀ w : Nat, w < 6 → st 29 0 (6 * p + w) = W.1 w) ∧ (∀ w : Nat, w < 6 → 0 < (evP E w).toInt → (st 35 0 (6 * p + w)).toInt = W.2.1 w) ∧ (∀ w : Nat, w < 6 → (st 36 0 (6 * p + w)).toInt = W.2.2.1 w) ∧ (∀ k : Nat, k < 4 → st 30 0 (4 * p + k) = W.2.2.2.1 k ∧ st 31 0 (4 * p + k) = evD E + W.2.2.2.2.1 k ∧ st 32 0 (4 * p + k) = W.2.2.2.2.2 k) ∧ (∀ w : Nat, w < 6 → 0 < (evP E w).toInt → 0 ≤ (W.1 w).toInt ∧ (W.1 w).toInt ≤ 1000) ∧ (∀ k : Nat, k < 4 → 0 ≤ (W.2.2.2.2.1 k).toInt ∧ (W.2.2.2.2.1 k).toInt ≤ 23)
/-- an act as the search lets it: the herd is free, or it is under way -/
def akM (E : Ev) (as : List Int) (a : Int) : Prop := (a = 9 ∧ ¬ wFree E (as.length / 4 + 1) (as.length % 4) (wdA E as)) ∨ ((0 ≤ a ∧ a ≤ 7) ∧ wFree E (as.length / 4 + 1) (as.length % 4) (wdA E as))
def cM (E : Ev) (st : gS) : List Int → Prop
  | [] => snM E st 0 (wdA E [])
  | a :: as => cM E st as ∧ snM E st (as.length + 1) (wdA E (a :: as)) ∧ (st 34 0 as.length).toInt = a ∧ (st 33 0 as.length).toInt = (if a = 9 then 1 else a + 1) ∧ akM E as a
/-- the places up to p stay, and what was chosen before -/
def kpM (p : Nat) (st u : gS) : Prop := (∀ j : Nat, j < 6 * p + 6 → u 29 0 j = st 29 0 j ∧ u 35 0 j = st 35 0 j ∧ u 36 0 j = st 36 0 j) ∧ (∀ j : Nat, j < 4 * p + 4 → u 30 0 j = st 30 0 j ∧ u 31 0 j = st 31 0 j ∧ u 32 0 j = st 32 0 j) ∧ (∀ j : Nat, j < p → u 33 0 j = st 33 0 j ∧ u 34 0 j = st 34 0 j)
theorem snM.keep {E : Ev} {st u : gS} {p q : Nat} {W : Wd} (h : snM E st p W) (hk : kpM q st u) (hp : p ≤ q) : snM E u p W := by
  obtain ⟨h1, h2, h3, h4, h5⟩ := h
  refine ⟨fun w hw => (hk.1 _ (by omega)).1.trans (h1 w hw), fun w hw hp9 => by rw [(hk.1 _ (by omega)).2.1]; exact h2 w hw hp9, fun w hw => by rw [(hk.1 _ (by omega)).2.2]; exact h3 w hw, fun k hk4 => ?_, h5⟩
  obtain ⟨a, b, c⟩ := hk.2.1 (4 * p + k) (by omega)
  rw [a, b, c]; exact h4 k hk4
theorem cM.keep {E : Ev} {st u : gS} : ∀ {as : List Int} {q : Nat}, cM E st as → kpM q st u → as.length ≤ q → cM E u as
  | [], _, h, hk, _ => snM.keep h hk (Nat.zero_le _)
  | a :: as, q, h, hk, hl => by
    have hl2 : as.length + 1 ≤ q := hl
    obtain ⟨h1, h2, h3, h4, h5⟩ := h
    obtain ⟨e33, e34⟩ := hk.2.2 as.length (by omega)
    exact ⟨cM.keep h1 hk (by omega), h2.keep hk hl2, by rw [e34]; exact h3, by rw [e33]; exact h4, h5⟩
theorem cM.at {E : Ev} {st : gS} : ∀ {as : List Int}, cM E st as → snM E st as.length (wdA E as)
  | [], h => h
  | _ :: _, h => h.2.1
section PZ29
variable {rs : List Rl} {s0 st u : gS} {as : List Int} {a t : Int} {E : Ev} {W : Wd} {p r H : Nat}
theorem evQ.C (h : evQ s0 st) {k : Nat} (hk : k < 4) : evC (evM rs s0) k = if (st 22 0 k).toInt = 0 then -1 else (st 23 0 k).toInt := by rw [h.1, h.2.1]; exact if_pos hk
theorem evQ.N (h : evQ s0 st) {k : Nat} (hk : k < 4) : evN (evM rs s0) k = st 24 0 k := by rw [h.2.2.1]; exact if_pos hk
theorem evQ.L (h : evQ s0 st) {k : Nat} (hk : k < 4) : evL (evM rs s0) k = (st 25 0 k).toInt := by rw [h.2.2.2.1]; exact if_pos hk
theorem evQ.R (h : evQ s0 st) {k : Nat} (hk : k < 6) : evR (evM rs s0) k = st 3 0 k := by rw [h.2.2.2.2.1]; exact if_pos hk
theorem evQ.P (h : evQ s0 st) {k : Nat} (hk : k < 6) : evP (evM rs s0) k = st 2 0 k := by rw [h.2.2.2.2.2.1]; exact if_pos hk
theorem evQ.Y (h : evQ s0 st) {k j : Nat} (hk : k < 6) (hj : j < 6) : evW (evM rs s0) k j = st 28 0 (6 * k + j) := by rw [h.2.2.2.2.2.2.1]; exact if_pos ⟨hk, hj⟩
theorem evQ.O (h : evQ s0 st) {k j : Nat} (hk : k < 6) (hj : j < 200) : evO (evM rs s0) k j = (st 6 0 (200 * k + j)).toInt := by rw [h.2.2.2.2.2.2.2.1]; exact if_pos ⟨hk, hj⟩
theorem evQ.D (h : evQ s0 st) : evD (evM rs s0) = st 0 0 7 := by rw [h.2.2.2.2.2.2.2.2.1]; rfl
/-- dawn at a place -/
theorem snM.dawn {y : Nat} (hwf : ∀ r ∈ rs, wfR r) (hk : evQ s0 st) (ho : okM s0) (h : snM (evM rs s0) st p W) (hd : dwM rs st u p y 6) (hy : (y : Int) = (st 0 0 7).toInt + (r : Int)) (hy9 : y < 200) (e30 : u 30 0 = st 30 0) (e31 : u 31 0 = st 31 0) (e32 : u 32 0 = st 32 0) : snM (evM rs s0) u p (wDawn (evM rs s0) r W) := by
  obtain ⟨h1, h2, h3, h4, h5, h6⟩ := h
  obtain ⟨o1, o2, o3, o4⟩ := ho
  have wl : ∀ w : Nat, w < 6 → (0 < (evP (evM rs s0) w).toInt ↔ ¬ (st 1 0 w).toInt = 0) := fun w hw => by
    rw [hk.P hw, hk.2.2.2.2.2.1, hk.2.2.2.2.2.2.2.2.2]; exact o2 w hw
  have lv : ∀ w : Nat, w < 6 → dwL st p w = (wDawn (evM rs s0) r W).1 w := fun w hw => by
    show _ = if 0 < (evP (evM rs s0) w).toInt then gwF (W.1 w) (evR (evM rs s0) w) (evP (evM rs s0) w) else W.1 w
    unfold dwL
    by_cases q : (st 1 0 w).toInt = 0
    · rw [if_pos q, if_neg (fun z => (wl w hw).mp z q)]; exact h1 w hw
    · rw [if_neg q, if_pos ((wl w hw).mpr q), h1 w hw, hk.R hw, hk.P hw]
  have rg : ∀ w : Nat, w < 6 → 0 < (evP (evM rs s0) w).toInt → 0 ≤ ((wDawn (evM rs s0) r W).1 w).toInt ∧ ((wDawn (evM rs s0) r W).1 w).toInt ≤ 1000 := fun w hw hp => by
    have e : (wDawn (evM rs s0) r W).1 w = gwF (W.1 w) (evR (evM rs s0) w) (evP (evM rs s0) w) := if_pos hp
    rw [e]
    have hp2 := hp
    rw [hk.P hw, hk.2.2.2.2.2.1] at hp2
    have o := o3 w hw hp2
    refine gwF_rng hp ?_ ?_ (h5 w hw hp)
    · rw [hk.P hw, hk.2.2.2.2.2.1]; exact o.1
    · rw [hk.R hw, hk.2.2.2.2.1]; exact o.2.1
  have mo : ∀ w : Nat, w < 6 → 0 < (evP (evM rs s0) w).toInt → (wDawn (evM rs s0) r W).2.1 w = ((wDawn (evM rs s0) r W).1 w).toInt := fun w hw hp => if_pos hp
  refine ⟨fun w hw => (hd.1 w hw (by omega)).1.trans (lv w hw), fun w hw hp => ?_, fun w hw => ?_, fun k hk4 => ?_, rg, h6⟩
  · rw [(hd.1 w hw (by omega)).2.1, lv w hw, mo w hw hp]
  · rw [(hd.1 w hw (by omega)).2.2, lv w hw]
    show _ = if dryD rs w ((wDawn (evM rs s0) r W).2.1 w) = -1 then evO (evM rs s0) w ((evD (evM rs s0)).toInt + (r : Int)).toNat else dryD rs w ((wDawn (evM rs s0) r W).2.1 w)
    rw [hk.D, show ((st 0 0 7).toInt + (r : Int)).toNat = y by omega, hk.O hw hy9]
    by_cases q : 0 < (evP (evM rs s0) w).toInt
    · rw [mo w hw q]
      have g := rg w hw q
      unfold dryD
      rw [if_neg (show ¬ ((wDawn (evM rs s0) r W).1 w).toInt = -1 by omega)]
      rcases dryO_rng (w := w) (m := ((wDawn (evM rs s0) r W).1 w).toInt) hwf with z | z
      · rw [if_pos z, if_neg (fun z9 => by omega)]
      · rw [if_pos ⟨(wl w hw).mp q, z⟩, if_neg (by omega)]
    · have e : (wDawn (evM rs s0) r W).2.1 w = -1 := if_neg q
      rw [e]
      unfold dryD
      rw [if_pos rfl, if_pos rfl, if_neg (fun z => q ((wl w hw).mpr z.1))]
  · rw [e30, e31, e32]; exact h4 k hk4
/-- an act from a place to the next -/
theorem snM.act {D : Int32} (hB : gBd bM st) (hk : evQ s0 st) (ho : okM s0) (h : snM (evM rs s0) st p W) (hg : gsM st u p H a D) (hH : H < 4) (hr : r < 15) (hD : D = evD (evM rs s0) + rwI32 r) (hv : a = 0 → 0 < (evP (evM rs s0) (W.2.2.2.1 H).toNatClampNeg).toInt ∧ (evN (evM rs s0) H).toInt ≤ (W.1 (W.2.2.2.1 H).toNatClampNeg).toInt ∧ 0 ≤ (evN (evM rs s0) H).toInt) (ha : (0 ≤ a ∧ a ≤ 7) ∨ a = 9) : snM (evM rs s0) u (p + 1) (wAct (evM rs s0) r H a W) := by
  obtain ⟨h1, h2, h3, h4, h5, h6⟩ := h
  obtain ⟨⟨g35, g36⟩, ⟨g29, _⟩, ⟨g3, _⟩⟩ := hg
  obtain ⟨n1, n2, n3⟩ := h4 H hH
  have b30 : (0 : Int) ≤ (st 30 0 (4 * p + H)).toInt ∧ (st 30 0 (4 * p + H)).toInt ≤ (5 : Int) := hB 30 0 _
  have cp := gs_cl b30.1
  have p6 : (st 30 0 (4 * p + H)).toNatClampNeg < 6 := by omega
  have hrr : (rwI32 r).toInt = (r : Int) := nI_toInt (by omega)
  have mo : (∀ w : Nat, w < 6 → 0 < (evP (evM rs s0) w).toInt → (u 35 0 (6 * (p + 1) + w)).toInt = (wAct (evM rs s0) r H a W).2.1 w) ∧ (∀ w : Nat, w < 6 → (u 36 0 (6 * (p + 1) + w)).toInt = (wAct (evM rs s0) r H a W).2.2.1 w) := by
    rw [wAct_m.1, wAct_m.2]
    exact ⟨fun w hw hp => by rw [g35.1 w hw (by omega)]; exact h2 w hw hp, fun w hw => by rw [g36.1 w hw (by omega)]; exact h3 w hw⟩
  rcases (show a = 0 ∨ (a = 1 ∨ a = 9) ∨ (2 ≤ a ∧ a ≤ 7) by omega) with c | c | c
  · obtain ⟨v1, v2, v3⟩ := hv c
    refine ⟨fun w hw => ?_, mo.1, mo.2, fun k hk4 => ?_, fun w hw hp => ?_, ?_⟩
    · rw [wAct_0 c, g29 w hw]
      show _ = upd _ _ _ w
      rw [← n1]
      by_cases q : w = (st 30 0 (4 * p + H)).toNatClampNeg
      · rw [if_pos ⟨c, q⟩, q, pk_us, h1 _ p6, hk.N hH]
      · rw [if_neg (fun z => q z.2), pk_un q]; exact h1 w hw
    · rw [wAct_0 c]
      obtain ⟨q1, q2, q3⟩ := g3 k hk4
      rw [q1, q2, q3, if_neg (by omega), if_neg (by omega)]
      refine ⟨(h4 k hk4).1, (h4 k hk4).2.1, ?_⟩
      show _ = upd _ _ _ k
      by_cases q : k = H
      · rw [if_pos ⟨c, q⟩, q, pk_us]; exact hD
      · rw [if_neg (fun z => q z.2), pk_un q]; exact (h4 k hk4).2.2
    · rw [wAct_0 c]
      show 0 ≤ (upd _ _ _ w).toInt ∧ (upd _ _ _ w).toInt ≤ 1000
      have g := h5 w hw hp
      by_cases q : w = (W.2.2.2.1 H).toNatClampNeg
      · rw [q] at g
        have e : (W.1 (W.2.2.2.1 H).toNatClampNeg - evN (evM rs s0) H).toInt = (W.1 (W.2.2.2.1 H).toNatClampNeg).toInt - (evN (evM rs s0) H).toInt := gz_subI rfl rfl (by omega) (by omega)
        rw [q, pk_us]; omega
      · rw [pk_un q]; exact g
    · rw [wAct_0 c]; exact h6
  · rw [wAct_1 c] at mo ⊢
    refine ⟨fun w hw => by rw [g29 w hw, if_neg (by omega)]; exact h1 w hw, mo.1, mo.2, fun k hk4 => ?_, h5, h6⟩
    obtain ⟨q1, q2, q3⟩ := g3 k hk4
    rw [q1, q2, q3, if_neg (by omega), if_neg (by omega), if_neg (by omega)]; exact h4 k hk4
  · have wyb : 0 ≤ (evW (evM rs s0) (W.2.2.2.1 H).toNatClampNeg (a - 2).toNat).toInt ∧ (evW (evM rs s0) (W.2.2.2.1 H).toNatClampNeg (a - 2).toNat).toInt ≤ 9 := by
      rw [← n1, hk.Y p6 (by omega), hk.2.2.2.2.2.2.1]; exact ho.2.2.2 _ (by omega)
    refine ⟨fun w hw => by rw [wAct_2 c, g29 w hw, if_neg (by omega)]; exact h1 w hw, mo.1, mo.2, fun k hk4 => ?_, by rw [wAct_2 c]; exact h5, fun k hk4 => ?_⟩
    · rw [wAct_2 c]
      obtain ⟨q1, q2, q3⟩ := g3 k hk4
      rw [q1, q2, q3, if_neg (show ¬ (a = 0 ∧ k = H) by omega)]
      refine ⟨?_, ?_, (h4 k hk4).2.2⟩
      · show _ = upd _ _ _ k
        by_cases q : k = H
        · rw [if_pos ⟨c, q⟩, q, pk_us]
        · rw [if_neg (fun z => q z.2), pk_un q]; exact (h4 k hk4).1
      · show _ = evD (evM rs s0) + upd _ _ _ k
        by_cases q : k = H
        · rw [if_pos ⟨c, q⟩, q, pk_us, hD, Int32.add_assoc, ← n1, hk.Y p6 (by omega)]
        · rw [if_neg (fun z => q z.2), pk_un q]; exact (h4 k hk4).2.1
    · rw [wAct_2 c]
      show 0 ≤ (upd _ _ _ k).toInt ∧ (upd _ _ _ k).toInt ≤ 23
      by_cases q : k = H
      · have e : (rwI32 r + evW (evM rs s0) (W.2.2.2.1 H).toNatClampNeg (a - 2).toNat).toInt = (r : Int) + (evW (evM rs s0) (W.2.2.2.1 H).toNatClampNeg (a - 2).toNat).toInt := gz_addI hrr rfl (by omega) (by omega)
        rw [q, pk_us]; omega
      · rw [pk_un q]; exact h6 k hk4
end PZ29
