/-! the class's planner against the search: its steps -/
/-- the cells of the turns before p stay -/
def kpX (p : Nat) (st u : gS) : Prop := (∀ q, q < p → u 46 0 q = st 46 0 q ∧ u 41 (q / 4 + 1) (q % 4) = st 41 (q / 4 + 1) (q % 4) ∧ u 43 (q / 4 + 1) (q % 4) = st 43 (q / 4 + 1) (q % 4) ∧ u 45 (q / 4 + 1) (q % 4) = st 45 (q / 4 + 1) (q % 4)) ∧ (∀ k, u 41 0 k = st 41 0 k ∧ u 43 0 k = st 43 0 k ∧ u 45 0 k = st 45 0 k) ∧ (∀ i, 4 * i ≤ p → u 13 i = st 13 i) ∧ (∀ i, 4 * i < p → u 14 (i + 1) = st 14 (i + 1) ∧ u 15 (i + 1) = st 15 (i + 1))
theorem cX.keep {E : Ev} {st u : gS} : ∀ {as : List Int}, cX E st as → kpX as.length st u → cX E u as
  | [], h, hk => fun k hk4 => by
    obtain ⟨a, b, c⟩ := h k hk4
    obtain ⟨a', b', c'⟩ := hk.2.1 k
    exact ⟨a'.trans a, b'.trans b, c'.trans c⟩
  | a :: as, h, hk => by
    obtain ⟨h1, h2, h3, h4, h5, h6⟩ := h
    have hl : (a :: as).length = as.length + 1 := rfl
    rw [hl] at hk
    obtain ⟨k1, k2, k3, k4⟩ := hk
    obtain ⟨e46, e41, e43, e45⟩ := k1 as.length (by omega)
    obtain ⟨e14, e15⟩ := k4 (as.length / 4) (by omega)
    refine ⟨cX.keep h1 ⟨fun q hq => k1 q (by omega), k2, fun i hi => k3 i (by omega), fun i hi => k4 i (by omega)⟩, by rw [e46]; exact h2, ⟨e41.trans h3.1, e43.trans h3.2.1, e45.trans h3.2.2⟩, fun q w hw hp => ?_, fun w hw => ?_, h6⟩
    · rw [k3 (as.length / 4 + 1) (by omega)]; exact h4 q w hw hp
    · rw [e14, e15]; exact h5 w hw
/-- at a turn: before its act -/
def iX (rs : List Rl) (s0 st : gS) (as : List Int) (t : Int) : Prop := cX (evX rs s0) st as ∧ lvX (evX rs s0) st (as.length / 4 + 1) (wdA (evX rs s0) as) ∧ moX st (as.length / 4 + 1) (wdA (evX rs s0) as) ∧ (st 46 0 as.length).toInt = t ∧ evK9 s0 st ∧ zrX st
/-- behind its act -/
def jX (rs : List Rl) (s0 st : gS) (as : List Int) (a : Int) : Prop := cX (evX rs s0) st as ∧ (st 46 0 as.length).toInt = a ∧ hcX st (as.length / 4 + 1) (as.length % 4) (wAct (evX rs s0) (as.length / 4 + 1) (as.length % 4) a (wdA (evX rs s0) as)) ∧ lvX (evX rs s0) st (as.length / 4 + 1) (wAct (evX rs s0) (as.length / 4 + 1) (as.length % 4) a (wdA (evX rs s0) as)) ∧ moX st (as.length / 4 + 1) (wdA (evX rs s0) as) ∧ (a = 0 → 0 < (evP (evX rs s0) ((wdA (evX rs s0) as).2.2.2.1 (as.length % 4)).toNatClampNeg).toInt) ∧ evK9 s0 st ∧ zrX st
section PZ23
variable {rs : List Rl} {s0 st u : gS} {as : List Int} {a t : Int}
theorem evK9.C (h : evK9 s0 st) {k : Nat} (hk : k < 4) : evC (evX rs s0) k = (st 20 0 k).toInt := by rw [h.1]; exact if_pos hk
theorem evK9.N (h : evK9 s0 st) {k : Nat} (hk : k < 4) : evN (evX rs s0) k = st 21 0 k := by rw [h.2.1]; exact if_pos hk
theorem evK9.L (h : evK9 s0 st) {k : Nat} (hk : k < 4) : evL (evX rs s0) k = (st 22 0 k).toInt := by rw [h.2.2.1]; exact if_pos hk
theorem evK9.R (h : evK9 s0 st) {k : Nat} (hk : k < 6) : evR (evX rs s0) k = st 6 0 k := by rw [h.2.2.2.1]; exact if_pos hk
theorem evK9.P (h : evK9 s0 st) {k : Nat} (hk : k < 6) : evP (evX rs s0) k = st 5 0 k := by rw [h.2.2.2.2.1]; exact if_pos hk
theorem evK9.W (h : evK9 s0 st) {k j : Nat} (hk : k < 6) (hj : j < 6) : evW (evX rs s0) k j = st 8 k j := by rw [h.2.2.2.2.2.1]; exact if_pos ⟨hk, hj⟩
theorem evK9.O (h : evK9 s0 st) {k j : Nat} (hk : k < 6) (hj : j < 200) : evO (evX rs s0) k j = (st 11 k j).toInt := by rw [h.2.2.2.2.2.2.1]; exact if_pos ⟨hk, hj⟩
theorem evK9.D (h : evK9 s0 st) : evD (evX rs s0) = st 38 0 4 := by rw [h.2.2.2.2.2.2.2.1]; rfl
theorem nxI.map {fr fr2 : Prop} {can can2 : Int → Prop} {t r : Int} (h1 : nxI fr can t r) (e : fr ↔ fr2) (ec : fr → ∀ a, t < a → a ≤ 7 → (can a ↔ can2 a)) : nxI fr2 can2 t r := by
  rcases h1 with ⟨a, b, c⟩ | ⟨a, b, c⟩ | ⟨a, b, c, d, f⟩ | ⟨a, b, c⟩
  · exact Or.inl ⟨fun z => a (e.mpr z), b, c⟩
  · exact Or.inr (Or.inl ⟨fun z => a (e.mpr z), b, c⟩)
  · exact Or.inr (Or.inr (Or.inl ⟨e.mp a, b, c, (ec a r b c.2).mp d, fun x h1 h2 h3 => f x h1 h2 ((ec a x h1 (by omega)).mpr h3)⟩))
  · exact Or.inr (Or.inr (Or.inr ⟨e.mp a, b, fun x h1 h2 h3 => c x h1 h2 ((ec a x h1 h2).mpr h3)⟩))
/-- the next thing is the search's own -/
theorem iX.nx {x : Int} (hB : gBd bX st) (hr16 : as.length / 4 + 1 < 16) (h : iX rs s0 st as t) (ht : -1 ≤ t) (hn : nxI (frX st (as.length / 4 + 1) (as.length % 4)) (cdX rs st (as.length / 4 + 1) (as.length % 4)) t x) : nxI (wFree (evX rs s0) (as.length / 4 + 1) (as.length % 4) (wdA (evX rs s0) as)) (wCan (evX rs s0) (as.length % 4) (wdA (evX rs s0) as)) t x := by
  obtain ⟨hc, hl, hm, _, hk, hz⟩ := h
  have h4 : as.length % 4 < 4 := by omega
  obtain ⟨n1, n2, n3⟩ := hc.now
  have b41 : (0 : Int) ≤ (st 41 (as.length / 4) (as.length % 4)).toInt ∧ (st 41 (as.length / 4) (as.length % 4)).toInt ≤ (5 : Int) := hB 41 _ _
  have cp := gs_cl b41.1
  have p6 : (st 41 (as.length / 4) (as.length % 4)).toNatClampNeg < 6 := by omega
  refine hn.map ?_ (fun hf a h1 h2 => ?_)
  · unfold frX wFree
    rw [hk.C h4, ← n2, Nat.add_sub_cancel]
  · unfold cdX wCan
    rw [Nat.add_sub_cancel, ← n1, hk.C h4, hk.N h4]
    refine or_congr ?_ (or_congr Iff.rfl ?_)
    · have hrt : rtC rs st (as.length / 4 + 1) (st 41 (as.length / 4) (as.length % 4)).toNatClampNeg (st 20 0 (as.length % 4)).toInt ↔ wRt (evX rs s0) (wdA (evX rs s0) as) (st 41 (as.length / 4) (as.length % 4)).toNatClampNeg (st 20 0 (as.length % 4)).toInt := by
        unfold rtC wRt
        rw [(hm _ p6).2]
        refine or_congr Iff.rfl (or_congr Iff.rfl ?_)
        constructor
        · rintro ⟨b, hb, q1, q2, q3⟩
          exact ⟨b, hb, (hm b hb).2.symm.trans q1, (hm b hb).1.symm.trans q2, q3⟩
        · rintro ⟨b, hb, q1, q2, q3⟩
          exact ⟨b, hb, (hm b hb).2.trans q1, (hm b hb).1.trans q2, q3⟩
      rw [hk.P p6]
      by_cases q : 0 < (st 5 0 (st 41 (as.length / 4) (as.length % 4)).toNatClampNeg).toInt
      · rw [hl _ p6 (by rw [hk.P p6]; exact q)]
        exact ⟨fun z => ⟨z.1, q, z.2.1, hrt.mp z.2.2⟩, fun z => ⟨z.1, z.2.2.1, hrt.mpr z.2.2.2⟩⟩
      · have z0 := (hz.1 (as.length / 4 + 1) _ hr16 p6 q).1
        have n0 := hz.2 _ h4 hf.1
        exact ⟨fun z => absurd z.2.1 (by omega), fun z => absurd z.2.1 q⟩
    · refine and_congr_right (fun h2' => ?_)
      rw [hk.W p6 (by omega)]
end PZ23
