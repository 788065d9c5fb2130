/-! the reference's search: acts and days -/
def jM (rs : List Rl) (s0 u : gS) (as : List Int) (x : Int) : Prop := cM (evM rs s0) u as ∧ snM (evM rs s0) u (as.length + 1) (wAct (evM rs s0) (as.length / 4 + 1) (as.length % 4) x (wdA (evM rs s0) as)) ∧ (u 34 0 as.length).toInt = x ∧ (u 33 0 as.length).toInt = (if x = 9 then 1 else x + 1) ∧ akM (evM rs s0) as x ∧ evQ s0 u
/-- the places' rows -/
def rwS (st u : gS) : Prop := u 29 0 = st 29 0 ∧ u 30 0 = st 30 0 ∧ u 31 0 = st 31 0 ∧ u 32 0 = st 32 0 ∧ u 35 0 = st 35 0 ∧ u 36 0 = st 36 0
section PZ31
variable {rs : List Rl} {s0 st u v z : gS} {n m x k1 at_ : Int} {as : List Int} {t k f : Int} {j : Nat} {D v33 v34 : Int32}
theorem nx_ak {E : Ev} (hn : nxI (wFree E (as.length / 4 + 1) (as.length % 4) (wdA E as)) (wCan E (as.length % 4) (wdA E as)) t x) (hx : ¬ x = -1) : akM E as x ∧ (x = 0 → wCan E (as.length % 4) (wdA E as) 0) := by
  rcases hn with ⟨a, b, c⟩ | ⟨_, _, c⟩ | ⟨a, _, c, d, _⟩ | ⟨_, c, _⟩
  · exact ⟨Or.inl ⟨c, a⟩, fun z => absurd z (by omega)⟩
  · exact absurd c hx
  · exact ⟨Or.inr ⟨c, a⟩, fun z => by rw [z] at d; exact d⟩
  · exact absurd c hx
theorem sM.perf (h : sM rs s0 st n m as t k f j) (hB : gBd bM v) (ho : okM s0) (hn14 : n ≤ 14) (h7 : (0 : Int) ≤ (s0 0 0 7).toInt ∧ (s0 0 0 7).toInt ≤ 199) (hn : nxI (wFree (evM rs s0) (as.length / 4 + 1) (as.length % 4) (wdA (evM rs s0) as)) (wCan (evM rs s0) (as.length % 4) (wdA (evM rs s0) as)) t x) (hx : ¬ x = -1) (hr : rwS st v) (hq : evQ s0 v) (hqu : evQ s0 u) (hg : gsM v u as.length (as.length % 4) x D) (hD : D.toInt = (s0 0 0 7).toInt + ((as.length / 4 + 1 : Nat) : Int)) (e33 : u 33 0 = upd (st 33 0) as.length v33) (h33 : v33.toInt = (if x = 9 then 1 else x + 1)) (e34 : u 34 0 = upd (st 34 0) as.length v34) (h34 : v34.toInt = x) : jM rs s0 u as x := by
  obtain ⟨_, hc, _, _, _, _, h6, _, _, hk⟩ := h
  obtain ⟨ha, h0⟩ := nx_ak hn hx
  obtain ⟨r29, r30, r31, r32, r35, r36⟩ := hr
  have h4 : as.length % 4 < 4 := by omega
  have sn : snM (evM rs s0) v as.length (wdA (evM rs s0) as) := by
    obtain ⟨h1, h2, h3, h4, h5⟩ := hc.at
    exact ⟨fun w hw => by rw [r29]; exact h1 w hw, fun w hw hp => by rw [r35]; exact h2 w hw hp, fun w hw => by rw [r36]; exact h3 w hw, fun k hk4 => by rw [r30, r31, r32]; exact h4 k hk4, h5⟩
  · have hDe : D = evD (evM rs s0) + rwI32 (as.length / 4 + 1) := by
      have e : (evD (evM rs s0) + rwI32 (as.length / 4 + 1)).toInt = (s0 0 0 7).toInt + ((as.length / 4 + 1 : Nat) : Int) := gz_addI rfl (nI_toInt (by omega)) (by omega) (by omega)
      exact Int32.toInt_inj.mp (hD.trans e.symm)
    have sa := sn.act hB hq ho hg h4 (r := as.length / 4 + 1) (by omega) hDe (fun q => by
      rcases h0 q with w | w | w
      · refine ⟨w.2.1, w.2.2.1, ?_⟩
        rw [hk.N h4, hk.2.2.1]
        refine (ho.1 _ h4 ?_).2
        rcases ha with a | a
        · omega
        · have c := a.2.1
          rw [hk.C h4] at c
          intro q9
          rw [if_pos (by rw [hk.1]; exact q9)] at c
          exact c rfl
      · exact absurd w (by decide)
      · exact absurd w.1 (by decide)) (by
      rcases ha with a | a
      · exact Or.inr a.1
      · exact Or.inl a.1)
    have kp : kpM as.length st u := by
      obtain ⟨⟨g35, g36⟩, ⟨_, g29⟩, ⟨_, g3⟩⟩ := hg
      refine ⟨fun j hj => ?_, fun j hj => ?_, fun j hj => ?_⟩
      · rw [g29 j (by omega), g35.2 j (by omega), g36.2 j (by omega), r29, r35, r36]; exact ⟨rfl, rfl, rfl⟩
      · obtain ⟨a, b, c⟩ := g3 j (by omega)
        rw [a, b, c, r30, r31, r32]; exact ⟨rfl, rfl, rfl⟩
      · rw [e33, e34, pk_un (by omega), pk_un (by omega)]; exact ⟨rfl, rfl⟩
    exact ⟨hc.keep kp (Nat.le_refl _), sa, by rw [e34, pk_us]; exact h34, by rw [e33, pk_us]; exact h33, ha, hqu⟩
/-- other cells change -/
theorem jM.fr (h : jM rs s0 u as x) (hr : rwS u z) (hq : evQ s0 z) (e33 : ∀ j, j < as.length + 1 → z 33 0 j = u 33 0 j) (e34 : z 34 0 = u 34 0) : jM rs s0 z as x := by
  obtain ⟨hc, hs, h34, h33, ha, _⟩ := h
  obtain ⟨r29, r30, r31, r32, r35, r36⟩ := hr
  have kp : kpM (as.length + 1) u z := ⟨fun j _ => by rw [r29, r35, r36]; exact ⟨rfl, rfl, rfl⟩, fun j _ => by rw [r30, r31, r32]; exact ⟨rfl, rfl, rfl⟩, fun j hj => ⟨e33 j hj, by rw [e34]⟩⟩
  exact ⟨hc.keep kp (by omega), hs.keep kp (Nat.le_refl _), by rw [e34]; exact h34, by rw [e33 _ (by omega)]; exact h33, ha, hq⟩
theorem jM.good (h : jM rs s0 u as x) (h7 : (0 : Int) ≤ (s0 0 0 7).toInt ∧ (s0 0 0 7).toInt ≤ 199) (ho : okM s0) (hp : as.length < 56) (hD : D.toInt = (s0 0 0 7).toInt + ((as.length / 4 + 1 : Nat) : Int)) : gdM u (as.length + 1) D 4 ↔ wGood (evM rs s0) (as.length / 4 + 1) (wAct (evM rs s0) (as.length / 4 + 1) (as.length % 4) x (wdA (evM rs s0) as)) := by
  obtain ⟨_, hs, _, _, _, hk⟩ := h
  have hDe : D = evD (evM rs s0) + rwI32 (as.length / 4 + 1) := by
    have e : (evD (evM rs s0) + rwI32 (as.length / 4 + 1)).toInt = (s0 0 0 7).toInt + ((as.length / 4 + 1 : Nat) : Int) := gz_addI rfl (nI_toInt (by omega)) (by omega) (by omega)
    exact Int32.toInt_inj.mp (hD.trans e.symm)
  obtain ⟨_, _, _, g4, _⟩ := hs
  have cl : ∀ q : Nat, q < 4 → (¬ (u 22 0 q).toInt = 0 ↔ ¬ evC (evM rs s0) q = -1) := fun q hq => by
    rw [hk.C hq]
    by_cases w : (u 22 0 q).toInt = 0
    · rw [if_pos w]; exact ⟨fun y => absurd w y, fun y => absurd rfl y⟩
    · rw [if_neg w]
      have := (ho.1 q hq (by rw [← hk.1]; exact w)).1
      rw [← hk.2.1] at this
      exact ⟨fun _ => by omega, fun _ => w⟩
  unfold gdM wGood
  constructor
  · intro g q hq hn
    have := g q (by omega) ((cl q hq).mpr hn)
    rw [hk.L hq, ← (g4 q hq).2.2, ← hDe]; exact this
  · intro g q hq hn
    have hq4 : q < 4 := by omega
    have := g q hq4 ((cl q hq4).mp hn)
    rw [hk.L hq4, ← (g4 q hq4).2.2, ← hDe] at this; exact this
theorem jM.push (h : jM rs s0 u as x) (q : ¬ as.length % 4 = 3) : cM (evM rs s0) u (x :: as) := ⟨h.1, by rw [wdA_n q]; exact h.2.1, h.2.2.1, h.2.2.2.1, h.2.2.2.2.1⟩
theorem jM.day {y : Nat} (h : jM rs s0 u as x) (hwf : ∀ r ∈ rs, wfR r) (ho : okM s0) (q : as.length % 4 = 3) (hd : dwM rs u z (as.length + 1) y 6) (hy : (y : Int) = (u 0 0 7).toInt + ((as.length / 4 + 1 + 1 : Nat) : Int)) (hy9 : y < 200) (e30 : z 30 0 = u 30 0) (e31 : z 31 0 = u 31 0) (e32 : z 32 0 = u 32 0) (e33 : z 33 0 = u 33 0) (e34 : z 34 0 = u 34 0) : cM (evM rs s0) z (x :: as) := by
  obtain ⟨hc, hs, h34, h33, ha, hk⟩ := h
  have kp : kpM as.length u z := ⟨fun j hj => hd.2 j (by omega), fun j _ => by rw [e30, e31, e32]; exact ⟨rfl, rfl, rfl⟩, fun j _ => by rw [e33, e34]; exact ⟨rfl, rfl⟩⟩
  refine ⟨hc.keep kp (Nat.le_refl _), ?_, by rw [e34]; exact h34, by rw [e33]; exact h33, ha⟩
  rw [wdA_d q]
  exact hs.dawn hwf hk ho hd hy hy9 e30 e31 e32
theorem sM.go (h : sM rs s0 st n m as t k f j) (hn14 : n ≤ 14) (hn : nxI (wFree (evM rs s0) (as.length / 4 + 1) (as.length % 4) (wdA (evM rs s0) as)) (wCan (evM rs s0) (as.length % 4) (wdA (evM rs s0) as)) t x) (hx : ¬ x = -1) (hm : x = 9 ∨ ¬ (st 0 0 57).toInt = m) (hk1 : k1 = if x = 9 then k else k + 1) (q : ¬ as.length % 4 = 3) (hc : cM (evM rs s0) z (x :: as)) (e33 : (z 33 0 (as.length + 1)).toInt = 0) (e57 : (z 0 0 57).toInt = k1) (e58 : (z 0 0 58).toInt = f) (hq : evQ s0 z) (hat : at_ = (as.length : Int) + 1) : loM rs s0 z n m at_ := by
  obtain ⟨h1, _, _, _, h5, h6, h7, h8, h9, _⟩ := h
  refine Or.inl ⟨x :: as, -1, k1, f, j + 1, ⟨⟨_, h1, rfl, x, hn, Or.inr (Or.inr ⟨hx, by rw [← h5]; exact hm, k1, hk1, Or.inl ⟨q, rfl⟩⟩)⟩, hc, e33, Or.inl rfl, e57, e58, ?_, ?_, h9, hq⟩, hat⟩
  · show ((as.length + 1 : Nat) : Int) < _; omega
  · split at hk1 <;> omega
theorem sM.thirst (h : sM rs s0 st n m as t k f j) (hn14 : n ≤ 14) (hn : nxI (wFree (evM rs s0) (as.length / 4 + 1) (as.length % 4) (wdA (evM rs s0) as)) (wCan (evM rs s0) (as.length % 4) (wdA (evM rs s0) as)) t x) (hx : ¬ x = -1) (hm : x = 9 ∨ ¬ (st 0 0 57).toInt = m) (hk1 : k1 = if x = 9 then k else k + 1) (hj : jM rs s0 u as x) (h7 : (0 : Int) ≤ (s0 0 0 7).toInt ∧ (s0 0 0 7).toInt ≤ 199) (ho : okM s0) (q : as.length % 4 = 3) (hD : D.toInt = (s0 0 0 7).toInt + ((as.length / 4 + 1 : Nat) : Int)) (hg : ¬ gdM u (as.length + 1) D 4) (e57 : (u 0 0 57).toInt = k1) (e58 : (u 0 0 58).toInt = f) : loM rs s0 u n m (as.length : Int) := by
  have h6 := h.2.2.2.2.2.2.1
  rw [hj.good h7 ho (by omega) hD] at hg
  obtain ⟨h1, _, _, _, h5, h6, h7, h8, h9, _⟩ := h
  refine Or.inl ⟨as, x, k1, f, j + 1, ⟨⟨_, h1, rfl, x, hn, Or.inr (Or.inr ⟨hx, by rw [← h5]; exact hm, k1, hk1, Or.inr (Or.inl ⟨q, hg, rfl⟩)⟩)⟩, hj.1, ?_, Or.inr hj.2.2.2.2.1, e57, e58, h7, ?_, h9, hj.2.2.2.2.2⟩, rfl⟩
  · rw [hj.2.2.2.1]; unfold nkM; rw [if_neg hx]
  · split at hk1 <;> omega
theorem sM.stp3 {f1 : Int} (h : sM rs s0 st n m as t k f j) (hn14 : n ≤ 14) (hn : nxI (wFree (evM rs s0) (as.length / 4 + 1) (as.length % 4) (wdA (evM rs s0) as)) (wCan (evM rs s0) (as.length % 4) (wdA (evM rs s0) as)) t x) (hx : ¬ x = -1) (hm : x = 9 ∨ ¬ (st 0 0 57).toInt = m) (hk1 : k1 = if x = 9 then k else k + 1) (hj : jM rs s0 u as x) (h7 : (0 : Int) ≤ (s0 0 0 7).toInt ∧ (s0 0 0 7).toInt ≤ 199) (ho : okM s0) (q : as.length % 4 = 3) (hD : D.toInt = (s0 0 0 7).toInt + ((as.length / 4 + 1 : Nat) : Int)) (hg : gdM u (as.length + 1) D 4) (hf1 : f1 = if f < ((as.length / 4 + 1 : Nat) : Int) then ((as.length / 4 + 1 : Nat) : Int) else f) : rch (evM rs s0) n m (j + 1) ([], -1, 0, 0, -1) (x :: as, -1, k1, f1, if n ≤ ((as.length / 4 + 1 : Nat) : Int) then 0 else -1) := by
  have h6 := h.2.2.2.2.2.2.1
  rw [hj.good h7 ho (by omega) hD] at hg
  obtain ⟨h1, _, _, _, h5, _⟩ := h
  refine ⟨_, h1, rfl, x, hn, Or.inr (Or.inr ⟨hx, by rw [← h5]; exact hm, k1, hk1, Or.inr (Or.inr ⟨q, hg, ?_⟩)⟩)⟩
  rw [← hf1]
theorem sM.found {f1 : Int} (h : sM rs s0 st n m as t k f j) (hs : rch (evM rs s0) n m (j + 1) ([], -1, 0, 0, -1) (x :: as, -1, k1, f1, if n ≤ ((as.length / 4 + 1 : Nat) : Int) then 0 else -1)) (hn9 : n ≤ ((as.length / 4 + 1 : Nat) : Int)) (q : as.length % 4 = 3) (hj : jM rs s0 z as x) (e58 : (z 0 0 58).toInt = f1) (hat : at_ = (as.length : Int) + 1) : loM rs s0 z n m at_ := by
  have h6 := h.2.2.2.2.2.2.1
  rw [if_pos hn9] at hs
  refine Or.inr (Or.inl ⟨by omega, x :: as, f1, ⟨-1, k1, j + 1, hs⟩, by show ((as.length + 1 : Nat) : Int) = _; omega, e58, fun i hi => ?_, hj.2.2.2.2.2⟩)
  have hl : (x :: as).length = as.length + 1 := rfl
  rw [hl] at hi ⊢
  by_cases w : i = as.length
  · rw [w, show as.length + 1 - 1 - as.length = 0 by omega]; exact hj.2.2.1
  · rw [show as.length + 1 - 1 - i = (as.length - 1 - i) + 1 by omega]
    exact cM.acts hj.1 i (by omega)
theorem sM.next {f1 : Int} (h : sM rs s0 st n m as t k f j) (hn14 : n ≤ 14) (hs : rch (evM rs s0) n m (j + 1) ([], -1, 0, 0, -1) (x :: as, -1, k1, f1, if n ≤ ((as.length / 4 + 1 : Nat) : Int) then 0 else -1)) (hn9 : ¬ n ≤ ((as.length / 4 + 1 : Nat) : Int)) (q : as.length % 4 = 3) (hk1 : k1 = if x = 9 then k else k + 1) (hm : x = 9 ∨ ¬ (st 0 0 57).toInt = m) (hf1 : f1 = if f < ((as.length / 4 + 1 : Nat) : Int) then ((as.length / 4 + 1 : Nat) : Int) else f) (hc : cM (evM rs s0) z (x :: as)) (e33 : (z 33 0 (as.length + 1)).toInt = 0) (e57 : (z 0 0 57).toInt = k1) (e58 : (z 0 0 58).toInt = f1) (hq : evQ s0 z) (hat : at_ = (as.length : Int) + 1) : loM rs s0 z n m at_ := by
  obtain ⟨h1, _, _, _, h5, h6, h7, h8, h9, _⟩ := h
  rw [if_neg hn9] at hs
  refine Or.inl ⟨x :: as, -1, k1, f1, j + 1, ⟨hs, hc, e33, Or.inl rfl, e57, e58, ?_, ?_, ?_, hq⟩, hat⟩
  · show ((as.length + 1 : Nat) : Int) < _; omega
  · split at hk1 <;> omega
  · split at hf1 <;> omega
end PZ31
