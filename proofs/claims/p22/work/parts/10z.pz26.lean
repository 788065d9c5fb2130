/-! the class's search, turn by turn -/
section PZ26a
variable {rs : List Rl} {s0 st u : gS} {as : List Int} {a t : Int}
theorem iX.fr (h : iX rs s0 st as t) (o : ∀ k, k ≠ 38 → u k = st k) (e : u 38 0 4 = st 38 0 4) : iX rs s0 u as t := by
  obtain ⟨hc, hl, hm, h46, hk, hz⟩ := h
  have kp : kpX as.length st u := ⟨fun q hq => by rw [o 46 (by decide), o 41 (by decide), o 43 (by decide), o 45 (by decide)]; exact ⟨rfl, rfl, rfl, rfl⟩, fun k => by rw [o 41 (by decide), o 43 (by decide), o 45 (by decide)]; exact ⟨rfl, rfl, rfl⟩, fun i hi => by rw [o 13 (by decide)], fun i hi => by rw [o 14 (by decide), o 15 (by decide)]; exact ⟨rfl, rfl⟩⟩
  refine ⟨hc.keep kp, fun w hw hp => by rw [o 13 (by decide)]; exact hl w hw hp, fun w hw => by rw [o 14 (by decide), o 15 (by decide)]; exact hm w hw, by rw [o 46 (by decide)]; exact h46, hk.keep ⟨by rw [o 20 (by decide)], by rw [o 21 (by decide)], by rw [o 22 (by decide)], by rw [o 6 (by decide)], by rw [o 5 (by decide)], o 8 (by decide), o 11 (by decide), e⟩ (by rw [o 41 (by decide)]) (by rw [o 43 (by decide)]) (by rw [o 45 (by decide)]), ?_⟩
  unfold zrX
  rw [o 5 (by decide), o 13 (by decide), o 14 (by decide), o 20 (by decide), o 21 (by decide)]
  exact hz
theorem jX.fr (h : jX rs s0 st as a) (o : ∀ k, k ≠ 38 → u k = st k) (e : u 38 0 4 = st 38 0 4) : jX rs s0 u as a := by
  obtain ⟨hc, ha, hh, hl, hm, hv, hk, hz⟩ := h
  have kp : kpX as.length st u := ⟨fun q hq => by rw [o 46 (by decide), o 41 (by decide), o 43 (by decide), o 45 (by decide)]; exact ⟨rfl, rfl, rfl, rfl⟩, fun k => by rw [o 41 (by decide), o 43 (by decide), o 45 (by decide)]; exact ⟨rfl, rfl, rfl⟩, fun i hi => by rw [o 13 (by decide)], fun i hi => by rw [o 14 (by decide), o 15 (by decide)]; exact ⟨rfl, rfl⟩⟩
  refine ⟨hc.keep kp, by rw [o 46 (by decide)]; exact ha, by unfold hcX; rw [o 41 (by decide), o 43 (by decide), o 45 (by decide)]; exact hh, fun w hw hp => by rw [o 13 (by decide)]; exact hl w hw hp, fun w hw => by rw [o 14 (by decide), o 15 (by decide)]; exact hm w hw, hv, hk.keep ⟨by rw [o 20 (by decide)], by rw [o 21 (by decide)], by rw [o 22 (by decide)], by rw [o 6 (by decide)], by rw [o 5 (by decide)], o 8 (by decide), o 11 (by decide), e⟩ (by rw [o 41 (by decide)]) (by rw [o 43 (by decide)]) (by rw [o 45 (by decide)]), ?_⟩
  unfold zrX
  rw [o 5 (by decide), o 13 (by decide), o 14 (by decide), o 20 (by decide), o 21 (by decide)]
  exact hz
theorem up38 {j : Nat} {v : Int32} (e : u = gU st 38 0 j v) : ∀ k, k ≠ 38 → u k = st k := fun k hk => by rw [e]; exact gU_k hk
theorem cX.acts {E : Ev} : ∀ {as : List Int}, cX E st as → ∀ j, j < as.length → (st 46 0 j).toInt = as.getD (as.length - 1 - j) 0
  | [], _, j, h => absurd h (Nat.not_lt_zero _)
  | a :: as, h, j, hj => by
    have hl : (a :: as).length = as.length + 1 := rfl
    rw [hl] at hj ⊢
    by_cases q : j = as.length
    · rw [q, show as.length + 1 - 1 - as.length = 0 by omega]; exact h.2.1
    · rw [show as.length + 1 - 1 - j = (as.length - 1 - j) + 1 by omega]
      exact cX.acts h.1 j (by omega)
/-- a fresh turn has something to do -/
theorem nx_fresh {E : Ev} {r h : Nat} {W : Wd} {x : Int} (hn : nxI (wFree E r h W) (wCan E h W) (-1) x) : ¬ x = -1 := by
  rcases hn with ⟨_, _, c⟩ | ⟨_, b, _⟩ | ⟨_, _, c, _⟩ | ⟨_, _, c⟩
  · omega
  · exact absurd rfl b
  · omega
  · exact absurd (Or.inr (Or.inl rfl)) (c 1 (by omega) (by omega))
theorem nx_tried {E : Ev} {r h : Nat} {W : Wd} {t x : Int} (hn : nxI (wFree E r h W) (wCan E h W) t x) (h1 : ¬ t = -1) (h2 : ¬ x = -1) : ¬ x = 9 := by
  rcases hn with ⟨_, b, _⟩ | ⟨_, _, c⟩ | ⟨_, _, c, _⟩ | ⟨_, c, _⟩
  · exact absurd b h1
  · exact absurd c h2
  · omega
  · exact absurd c h2
end PZ26a
/-- what the loop of the class's search keeps: n days, at most m looks; at the turn tu, behind mv moves -/
def sI (rs : List Rl) (s0 st : gS) (n m tu mv : Int) : Prop := ∃ (as : List Int) (t k f : Int) (j : Nat), rch (evX rs s0) n m j ([], -1, 0, 0, -1) (as, t, k, f, -1) ∧ iX rs s0 st as t ∧ tu = (as.length : Int) ∧ (st 38 0 10).toInt = k ∧ (st 38 0 11).toInt = f ∧ (as.length : Int) < 4 * n ∧ (0 ≤ k ∧ k ≤ m) ∧ (-1 ≤ t ∧ t ≤ 9) ∧ (0 ≤ f ∧ f ≤ 14) ∧ (∀ a ∈ as, 0 ≤ a ∧ a ≤ 9) ∧ mv ≤ 112 * k + (if t = -1 then (as.length : Int) else 112 - (as.length : Int))
/-- the search has ended -/
def sF (rs : List Rl) (s0 : gS) (n m f r : Int) (as : List Int) : Prop := ∃ (t k : Int) (j : Nat), rch (evX rs s0) n m j ([], -1, 0, 0, -1) (as, t, k, f, r)
section PZ26
variable {rs : List Rl} {s0 st u : gS} {n m tu mv : Int} {x : Int32}
theorem sI.new (hm1 : 1 ≤ m) (hn : 1 ≤ n) (h : iX rs s0 st [] (-1)) (h10 : (st 38 0 10).toInt = 0) (h11 : (st 38 0 11).toInt = 0) (hmv : mv ≤ 0) (htu : tu = 0) : sI rs s0 st n m tu mv := ⟨[], -1, 0, 0, 0, rfl, h, by rw [htu]; rfl, h10, h11, by show (0 : Int) < _; omega, ⟨by omega, by omega⟩, ⟨by omega, by omega⟩, ⟨by omega, by omega⟩, (fun a ha => (by cases ha)), by rw [if_pos rfl]; show mv ≤ 112 * 0 + ((0 : Nat) : Int); omega⟩
theorem sI.lim (h : sI rs s0 st n m tu mv) (hn : n ≤ 14) (hm : m ≤ 50000) : mv ≤ 5600112 ∧ 0 ≤ tu ∧ tu < 4 * n := by
  obtain ⟨as, t, k, f, j, _, _, h3, _, _, h6, h7, _, _, _, h11⟩ := h
  split at h11 <;> omega
end PZ26
/-- at the turn, with the next act y -/
def sN (rs : List Rl) (s0 st : gS) (n m mv y : Int) (as : List Int) (t k f : Int) (j : Nat) : Prop := rch (evX rs s0) n m j ([], -1, 0, 0, -1) (as, t, k, f, -1) ∧ iX rs s0 st as t ∧ (st 38 0 10).toInt = k ∧ (st 38 0 11).toInt = f ∧ (as.length : Int) < 4 * n ∧ (0 ≤ k ∧ k ≤ m) ∧ (-1 ≤ t ∧ t ≤ 9) ∧ (0 ≤ f ∧ f ≤ 14) ∧ (∀ a ∈ as, 0 ≤ a ∧ a ≤ 9) ∧ mv ≤ 112 * k + (if t = -1 then (as.length : Int) else 112 - (as.length : Int)) ∧ nxI (wFree (evX rs s0) (as.length / 4 + 1) (as.length % 4) (wdA (evX rs s0) as)) (wCan (evX rs s0) (as.length % 4) (wdA (evX rs s0) as)) t y
section PZ26b
variable {rs : List Rl} {s0 st u : gS} {n m tu mv mv1 y k1 : Int} {x : Int32} {as : List Int} {t k f : Int} {j : Nat}
theorem sI.nx (hB : gBd bX st) (h : sI rs s0 st n m tu mv) (hn14 : n ≤ 14) (hx : x.toInt = tu) (hn : nxI (frX st (x.toNatClampNeg / 4 + 1) (x.toNatClampNeg % 4)) (cdX rs st (x.toNatClampNeg / 4 + 1) (x.toNatClampNeg % 4)) (st 46 0 x.toNatClampNeg).toInt y) : ∃ (as : List Int) (t k f : Int) (j : Nat), sN rs s0 st n m mv y as t k f j ∧ x.toNatClampNeg = as.length ∧ x.toInt = (as.length : Int) := by
  obtain ⟨as, t, k, f, j, h1, h2, h3, h4, h5, h6, h7, h8, h9, h10, h11⟩ := h
  have c := gs_cl (x := x) (by omega)
  have e : x.toNatClampNeg = as.length := by omega
  rw [e, h2.2.2.2.1] at hn
  exact ⟨as, t, k, f, j, ⟨h1, h2, h4, h5, h6, h7, h8, h9, h10, h11, h2.nx hB (by omega) h8.1 hn⟩, e, by omega⟩
theorem sN.num (h : sN rs s0 st n m mv y as t k f j) : (st 38 0 10).toInt = k ∧ (st 38 0 11).toInt = f ∧ (as.length : Int) < 4 * n ∧ (0 ≤ k ∧ k ≤ m) ∧ (0 ≤ f ∧ f ≤ 14) := ⟨h.2.2.1, h.2.2.2.1, h.2.2.2.2.1, h.2.2.2.2.2.1, h.2.2.2.2.2.2.2.1⟩
theorem sN.end1 (h : sN rs s0 st n m mv y as t k f j) (hy : y = -1) (h0 : as.length = 0) : sF rs s0 n m f 1 as := by
  obtain ⟨h1, _, _, _, _, _, _, _, _, _, hn⟩ := h
  exact ⟨t, k, j + 1, _, h1, rfl, y, hn, Or.inl ⟨hy, Or.inl ⟨List.eq_nil_of_length_eq_zero h0, rfl⟩⟩⟩
theorem sN.back (h : sN rs s0 st n m mv y as t k f j) (hB : gBd bX st) (hy : y = -1) (hn14 : n ≤ 14) (hx : x.toInt = (as.length : Int) - 1) (h0 : 1 ≤ (as.length : Int)) (hu : udX st u x (x.toNatClampNeg / 4 + 1) (x.toNatClampNeg % 4)) (e10 : (u 38 0 10).toInt = (st 38 0 10).toInt) (e11 : (u 38 0 11).toInt = (st 38 0 11).toInt) (hmv : mv1 = mv + 1) : sI rs s0 u n m x.toInt mv1 := by
  obtain ⟨h1, hi, h4, h5, h6, h7, h8, h9, h10, h11, hn⟩ := h
  have c := gs_cl (x := x) (by omega)
  have tn : ¬ t = -1 := fun q => nx_fresh (by rw [q] at hn; exact hn) hy
  match as, h1, hi, h6, h10, h11, hn, hx, h0 with
  | [], _, _, _, _, _, _, _, h0 => exact absurd h0 (by show ¬ (1 : Int) ≤ ((0 : Nat) : Int); omega)
  | a :: as, h1, hi, h6, h10, h11, hn, hx, h0 =>
    have hl : ((a :: as).length : Int) = (as.length : Int) + 1 := rfl
    rw [hl] at h6 h11 hx
    have e : x.toNatClampNeg = as.length := by omega
    rw [e] at hu
    have ha := h10 a List.mem_cons_self
    refine ⟨as, a, k, f, j + 1, ⟨_, h1, rfl, y, hn, Or.inl ⟨hy, Or.inr ⟨a, as, rfl, rfl⟩⟩⟩, (hi.pop).undo hB e (by omega) hu, by omega, e10.trans h4, e11.trans h5, by omega, h7, by omega, h9, fun b hb => h10 b (List.mem_cons_of_mem _ hb), ?_⟩
    rw [if_neg tn] at h11
    rw [if_neg (by omega)]
    omega
theorem sN.cut (h : sN rs s0 st n m mv y as t k f j) (hy : ¬ y = -1) (h9 : ¬ y = 9) (hk : (st 38 0 10).toInt = m) : sF rs s0 n m f 2 as := by
  obtain ⟨h1, _, h4, _, _, _, _, _, _, _, hn⟩ := h
  exact ⟨t, k, j + 1, _, h1, rfl, y, hn, Or.inr (Or.inl ⟨hy, h9, h4.symm.trans hk, rfl⟩)⟩
theorem sN.rng (h : sN rs s0 st n m mv y as t k f j) (hy : ¬ y = -1) : (0 ≤ y ∧ y ≤ 9) ∧ (y = 0 → 0 < (evP (evX rs s0) ((wdA (evX rs s0) as).2.2.2.1 (as.length % 4)).toNatClampNeg).toInt) := by
  obtain ⟨_, _, _, _, _, _, _, _, _, _, hn⟩ := h
  rcases hn with ⟨_, _, c⟩ | ⟨_, _, c⟩ | ⟨_, _, c, d, _⟩ | ⟨_, c, _⟩
  · exact ⟨by omega, fun z => absurd z (by omega)⟩
  · exact absurd c hy
  · refine ⟨by omega, fun z => ?_⟩
    rcases d with d | d | d
    · exact d.2.1
    · exact absurd d (by omega)
    · exact absurd d.1 (by omega)
  · exact absurd c hy
theorem sN.perf {yv : Int32} {v : gS} (h : sN rs s0 st n m mv y as t k f j) (hB : gBd bX v) (hy : ¬ y = -1) (hn14 : n ≤ 14) (hyv : yv.toInt = y) (hx : x.toNatClampNeg = as.length) (o : ∀ k, k ≠ 38 → v k = st k) (e4 : v 38 0 4 = st 38 0 4) (hf : pfX v u x yv (x.toNatClampNeg / 4 + 1) (x.toNatClampNeg % 4)) (fe : frE v u) (e14 : u 14 = v 14) (e15 : u 15 = v 15) : jX rs s0 u as y := by
  have hr := h.rng hy
  obtain ⟨_, hi, _, _, h6, _, _, _, _, _, _⟩ := h
  rw [hx] at hf
  have := (hi.fr o e4).perf hB hx (by omega) hf fe e14 e15 (by rw [hyv]; exact hr.2)
  rw [hyv] at this
  exact this
theorem sN.go (h : sN rs s0 st n m mv y as t k f j) (hy : ¬ y = -1) (hn14 : n ≤ 14) (hm : y = 9 ∨ ¬ (st 38 0 10).toInt = m) (hk1 : k1 = if y = 9 then k else k + 1) {v : gS} (hj : jX rs s0 v as y) (q : ¬ as.length % 4 = 3) {w : Int32} (hw : w.toInt = -1) (e : u = gU v 46 0 (as.length + 1) w) (e10 : (u 38 0 10).toInt = k1) (e11 : (u 38 0 11).toInt = f) (hmv : mv1 = mv + 1) : sI rs s0 u n m ((as.length : Int) + 1) mv1 := by
  have hr := (h.rng hy).1
  obtain ⟨h1, hi, h4, h5, h6, h7, h8, h9, h10, h11, hn⟩ := h
  have hi2 : iX rs s0 u (y :: as) w.toInt := (hj.push q).act e
  rw [hw] at hi2
  have htr : ¬ t = -1 → ¬ y = 9 := fun z => nx_tried hn z hy
  refine ⟨y :: as, -1, k1, f, j + 1, ⟨_, h1, rfl, y, hn, Or.inr (Or.inr ⟨hy, by rw [← h4]; exact hm, k1, hk1, Or.inl ⟨q, rfl⟩⟩)⟩, hi2, rfl, e10, e11, ?_, ?_, ⟨by omega, by omega⟩, h9, ?_, ?_⟩
  · show ((as.length + 1 : Nat) : Int) < _; omega
  · split at hk1 <;> omega
  · intro b hb
    rcases List.mem_cons.mp hb with z | z
    · rw [z]; exact hr
    · exact h10 b z
  · rw [if_pos rfl]
    show mv1 ≤ 112 * k1 + ((as.length + 1 : Nat) : Int)
    split at h11
    · split at hk1 <;> omega
    · next z => rw [if_neg (htr z)] at hk1; omega
theorem sN.thirst {z : Int32} (h : sN rs s0 st n m mv y as t k f j) (hy : ¬ y = -1) (hn14 : n ≤ 14) (hm : y = 9 ∨ ¬ (st 38 0 10).toInt = m) (hk1 : k1 = if y = 9 then k else k + 1) {v : gS} (hB : gBd bX v) (hj : jX rs s0 v as y) (q : as.length % 4 = 3) (hx : x.toNatClampNeg = as.length) (hz : z.toInt = ((as.length / 4 + 1 : Nat) : Int)) (hg : ¬ gdX v z.toNatClampNeg (v 38 0 4 + z) 4) (hu : udX v u x (x.toNatClampNeg / 4 + 1) (x.toNatClampNeg % 4)) (e10 : (u 38 0 10).toInt = k1) (e11 : (u 38 0 11).toInt = f) (hmv : mv1 = mv + 1) : sI rs s0 u n m (as.length : Int) mv1 := by
  have hr := (h.rng hy).1
  obtain ⟨h1, hi, h4, h5, h6, h7, h8, h9, h10, h11, hn⟩ := h
  have cz := gs_cl (x := z) (by omega)
  rw [show z.toNatClampNeg = as.length / 4 + 1 by omega, hj.good q (by omega) hz] at hg
  rw [hx] at hu
  have htr : ¬ t = -1 → ¬ y = 9 := fun z => nx_tried hn z hy
  refine ⟨as, y, k1, f, j + 1, ⟨_, h1, rfl, y, hn, Or.inr (Or.inr ⟨hy, by rw [← h4]; exact hm, k1, hk1, Or.inr (Or.inl ⟨q, hg, rfl⟩)⟩)⟩, hj.undo hB hx (by omega) hu, rfl, e10, e11, h6, ?_, ⟨by omega, by omega⟩, h9, h10, ?_⟩
  · split at hk1 <;> omega
  · rw [if_neg hy]
    split at h11
    · split at hk1 <;> omega
    · next z => rw [if_neg (htr z)] at hk1; omega
theorem sN.found {z : Int32} {f1 : Int} (h : sN rs s0 st n m mv y as t k f j) (hy : ¬ y = -1) (hn14 : n ≤ 14) (hm : y = 9 ∨ ¬ (st 38 0 10).toInt = m) {v : gS} (hj : jX rs s0 v as y) (q : as.length % 4 = 3) (hz : z.toInt = ((as.length / 4 + 1 : Nat) : Int)) (hg : gdX v z.toNatClampNeg (v 38 0 4 + z) 4) (hn9 : n ≤ z.toInt) (hf1 : f1 = if f < z.toInt then z.toInt else f) : sF rs s0 n m f1 0 (y :: as) := by
  obtain ⟨h1, hi, h4, h5, h6, h7, h8, h9, h10, h11, hn⟩ := h
  have cz := gs_cl (x := z) (by omega)
  rw [show z.toNatClampNeg = as.length / 4 + 1 by omega, hj.good q (by omega) hz] at hg
  rw [hz] at hf1 hn9
  refine ⟨-1, if y = 9 then k else k + 1, j + 1, _, h1, rfl, y, hn, Or.inr (Or.inr ⟨hy, by rw [← h4]; exact hm, _, rfl, Or.inr (Or.inr ⟨q, hg, ?_⟩)⟩)⟩
  rw [if_pos hn9, ← hf1]
theorem sN.day {z : Int32} {f1 : Int} (h : sN rs s0 st n m mv y as t k f j) (hy : ¬ y = -1) (hn14 : n ≤ 14) (hm : y = 9 ∨ ¬ (st 38 0 10).toInt = m) (hk1 : k1 = if y = 9 then k else k + 1) {v v2 : gS} (hj : jX rs s0 v as y) (q : as.length % 4 = 3) (hz : z.toInt = ((as.length / 4 + 1 : Nat) : Int)) (hg : gdX v z.toNatClampNeg (v 38 0 4 + z) 4) (hn9 : z.toInt < n) (hf1 : f1 = if f < z.toInt then z.toInt else f) (hm2 : mX rs s0 v2 (y :: as)) {w : Int32} (hw : w.toInt = -1) (e : u = gU v2 46 0 (as.length + 1) w) (e10 : (u 38 0 10).toInt = k1) (e11 : (u 38 0 11).toInt = f1) (hmv : mv1 = mv + 1) : sI rs s0 u n m ((as.length : Int) + 1) mv1 := by
  have hr := (h.rng hy).1
  obtain ⟨h1, hi, h4, h5, h6, h7, h8, h9, h10, h11, hn⟩ := h
  have cz := gs_cl (x := z) (by omega)
  rw [show z.toNatClampNeg = as.length / 4 + 1 by omega, hj.good q (by omega) hz] at hg
  rw [hz] at hf1 hn9
  have hi2 : iX rs s0 u (y :: as) w.toInt := hm2.act e
  rw [hw] at hi2
  have htr : ¬ t = -1 → ¬ y = 9 := fun z => nx_tried hn z hy
  refine ⟨y :: as, -1, k1, f1, j + 1, ⟨_, h1, rfl, y, hn, Or.inr (Or.inr ⟨hy, by rw [← h4]; exact hm, k1, hk1, Or.inr (Or.inr ⟨q, hg, ?_⟩)⟩)⟩, hi2, rfl, e10, e11, ?_, ?_, ⟨by omega, by omega⟩, ?_, ?_, ?_⟩
  · show (y :: as, -1, k1, f1, -1) = (y :: as, -1, k1, (if f < ((as.length / 4 + 1 : Nat) : Int) then ((as.length / 4 + 1 : Nat) : Int) else f), if n ≤ ((as.length / 4 + 1 : Nat) : Int) then (0 : Int) else -1)
    rw [← hf1, if_neg (by omega)]
  · show ((as.length + 1 : Nat) : Int) < _; omega
  · split at hk1 <;> omega
  · split at hf1 <;> omega
  · intro b hb
    rcases List.mem_cons.mp hb with z | z
    · rw [z]; exact hr
    · exact h10 b z
  · rw [if_pos rfl]
    show mv1 ≤ 112 * k1 + ((as.length + 1 : Nat) : Int)
    split at h11
    · split at hk1 <;> omega
    · next z => rw [if_neg (htr z)] at hk1; omega
end PZ26b
