/-! how many herds; the plan's start, by the call's own cells -/
def nhX (st : gS) (s k : Int) : Prop := (s = 0 → ∀ h : Nat, (h : Int) < k → (st 20 0 h).toInt = -1) ∧ (¬ s = 0 → ∃ h : Nat, (h : Int) < k ∧ ¬ (st 20 0 h).toInt = -1)
theorem nhX.nil {st : gS} {s k : Int} (hs : s = 0) (h : k ≤ 0) : nhX st s k := ⟨fun _ h1 h2 => by omega, fun q => absurd hs q⟩
theorem nhX.skip {st : gS} {s k1 : Int} {y : Int32} (h : nhX st s y.toInt) (h0 : 0 ≤ y.toInt) (hk : k1 = y.toInt + 1) (hn : (st 20 0 y.toNatClampNeg).toInt = -1) : nhX st s k1 := by
  have c := gs_cl h0
  refine ⟨fun q h1 h2 => ?_, fun q => ?_⟩
  · by_cases e : h1 = y.toNatClampNeg
    · rw [e]; exact hn
    · exact h.1 q h1 (by omega)
  · obtain ⟨a, b, d⟩ := h.2 q; exact ⟨a, by omega, d⟩
theorem nhX.add {st : gS} {s s1 k1 : Int} {y : Int32} (h0 : 0 ≤ y.toInt) (hs : 0 ≤ s) (hs1 : s1 = s + 1) (hk : k1 = y.toInt + 1) (hn : ¬ (st 20 0 y.toNatClampNeg).toInt = -1) : nhX st s1 k1 := by
  have c := gs_cl h0
  exact ⟨fun q => by omega, fun _ => ⟨y.toNatClampNeg, by omega, hn⟩⟩
theorem zr_start {st u : gS} (hz : zrX st) (hd : dyO 0 st u) (h13 : ∀ w : Nat, w < 6 → u 13 0 w = st 13 15 w) (e14 : u 14 = st 14) (e5 : u 5 0 = st 5 0) (e20 : u 20 0 = st 20 0) (e21 : u 21 0 = st 21 0) : zrX u := by
  refine ⟨fun i w hi hw hn => ?_, fun h hh hn => by rw [e20] at hn; rw [e21]; exact hz.2 h hh hn⟩
  rw [e5] at hn
  rw [e14]
  refine ⟨?_, (hz.1 i w hi hw hn).2⟩
  by_cases q : i = 0
  · rw [q, h13 w hw]; exact (hz.1 15 w (by decide) hw hn).1
  · rw [hd 13 i (by omega) q]; exact (hz.1 i w hi hw hn).1
def evY (rs : List Rl) (st : gS) : Ev := (fun h => if h < 4 then (st 20 0 h).toInt else -1, cutN 4 (st 21 0), fun h => if h < 4 then (st 22 0 h).toInt else 0, cutN 6 (st 6 0), cutN 6 (st 5 0), fun u v => if u < 6 ∧ v < 6 then st 8 u v else 0, fun w d => if w < 6 ∧ d < 200 then (st 11 w d).toInt else 0, rs, st 0 0 10, cutN 6 (st 13 15), cutN 4 (st 23 0), cutN 4 (st 24 0))
theorem cutN_eq {n : Nat} {f g : Nat → Int32} (h : ∀ j, j < n → f j = g j) : cutN n f = cutN n g := funext fun j => by
  unfold cutN
  split
  · next q => exact h j q
  · rfl
theorem evXY {rs : List Rl} {st v : gS} (e20 : v 20 0 = st 20 0) (e21 : v 21 0 = st 21 0) (e22 : v 22 0 = st 22 0) (e6 : v 6 0 = st 6 0) (e5 : v 5 0 = st 5 0) (e8 : v 8 = st 8) (e11 : v 11 = st 11) (eD : v 38 0 4 = st 0 0 10) (h13 : ∀ w : Nat, w < 6 → v 13 0 w = st 13 15 w) (h41 : ∀ k : Nat, k < 4 → v 41 0 k = st 23 0 k) (h45 : ∀ k : Nat, k < 4 → v 45 0 k = st 24 0 k) : evX rs v = evY rs st := by
  unfold evX evY
  rw [e20, e21, e22, e6, e5, e8, e11, eD, cutN_eq h13, cutN_eq h41, cutN_eq h45]
/-- the plan that was found, by the call's own cells -/
def fdY (st u : gS) (as : List Int) (n : Int32) : Prop := (∀ j : Nat, (j : Int) < 4 * n.toInt → (u 47 0 j).toInt = if (st 20 0 (j % 4)).toInt = -1 then -1 else as.getD (as.length - 1 - j) 0) ∧ u 38 0 13 = st 0 0 10 ∧ u 38 0 14 = n ∧ (as.length : Int) = 4 * n.toInt
theorem fdX.Y {st v u : gS} {as : List Int} {n : Int32} (h : fdX v u as n) (e20 : v 20 0 = st 20 0) (eD : v 38 0 4 = st 0 0 10) : fdY st u as n := by
  obtain ⟨h1, h2, h3, h4⟩ := h
  exact ⟨fun j hj => by rw [← e20]; exact h1 j hj, h2.trans eD, h3, h4⟩
