/-! the class's planner against the search: turns and days -/
/-- at a turn, but for what was tried there -/
def mX (rs : List Rl) (s0 st : gS) (as : List Int) : Prop := cX (evX rs s0) st as ∧ lvX (evX rs s0) st (as.length / 4 + 1) (wdA (evX rs s0) as) ∧ moX st (as.length / 4 + 1) (wdA (evX rs s0) as) ∧ evK9 s0 st ∧ zrX st
section PZ25
variable {rs : List Rl} {s0 st u : gS} {as : List Int} {a t : Int}
theorem wdA_n {E : Ev} (h : ¬ as.length % 4 = 3) : wdA E (a :: as) = wAct E (as.length / 4 + 1) (as.length % 4) a (wdA E as) := by rw [wdA_c, if_neg h]
theorem wdA_d {E : Ev} (h : as.length % 4 = 3) : wdA E (a :: as) = wDawn E (as.length / 4 + 1 + 1) (wAct E (as.length / 4 + 1) (as.length % 4) a (wdA E as)) := by rw [wdA_c, if_pos h]
theorem iX.pop (h : iX rs s0 st (a :: as) t) : jX rs s0 st as a := by
  obtain ⟨⟨c1, c2, c3, c4, c5, c6⟩, hl, hm, _, hk, hz⟩ := h
  refine ⟨c1, c2, c3, ?_, c5, c6, hk, hz⟩
  by_cases q : as.length % 4 = 3
  · exact c4 q
  · rw [wdA_n q, show (a :: as).length / 4 + 1 = as.length / 4 + 1 by (show (as.length + 1) / 4 + 1 = _; omega)] at hl
    exact hl
theorem mX.act {v : Int32} (h : mX rs s0 st as) (e : u = gU st 46 0 as.length v) : iX rs s0 u as v.toInt := by
  obtain ⟨hc, hl, hm, hk, hz⟩ := h
  have o : ∀ k, k ≠ 46 → u k = st k := fun k hn => by rw [e]; exact gU_k hn
  have kp : kpX as.length st u := ⟨fun q hq => ⟨by rw [e, gU_other (by omega)], by rw [o 41 (by decide)], by rw [o 43 (by decide)], by rw [o 45 (by decide)]⟩, fun k => by rw [o 41 (by decide), o 43 (by decide), o 45 (by decide)]; exact ⟨rfl, rfl, rfl⟩, fun i hi => by rw [o 13 (by decide)], fun i hi => by rw [o 14 (by decide), o 15 (by decide)]; exact ⟨rfl, rfl⟩⟩
  refine ⟨hc.keep kp, fun w hw hp => by rw [o 13 (by decide)]; exact hl w hw hp, fun w hw => by rw [o 14 (by decide), o 15 (by decide)]; exact hm w hw, by rw [e, gU_same], hk.keep ⟨by rw [o 20 (by decide)], by rw [o 21 (by decide)], by rw [o 22 (by decide)], by rw [o 6 (by decide)], by rw [o 5 (by decide)], o 8 (by decide), o 11 (by decide), by rw [o 38 (by decide)]⟩ (by rw [o 41 (by decide)]) (by rw [o 43 (by decide)]) (by rw [o 45 (by decide)]), ?_⟩
  unfold zrX
  rw [o 5 (by decide), o 13 (by decide), o 14 (by decide), o 20 (by decide), o 21 (by decide)]
  exact hz
theorem jX.push (h : jX rs s0 st as a) (q : ¬ as.length % 4 = 3) : mX rs s0 st (a :: as) := by
  obtain ⟨hc, ha, hh, hl, hm, hv, hk, hz⟩ := h
  have e : (a :: as).length / 4 + 1 = as.length / 4 + 1 := by show (as.length + 1) / 4 + 1 = _; omega
  refine ⟨⟨hc, ha, hh, fun z => absurd z q, hm, hv⟩, ?_, ?_, hk, hz⟩
  · rw [e, wdA_n q]; exact hl
  · rw [e, wdA_n q]; intro w hw; rw [wAct_m.1, wAct_m.2]; exact hm w hw
/-- a row's waters, mornings and owners, where a day begins -/
theorem dawn_X {E : Ev} {W : Wd} {R : Nat} (hE : E = evX rs s0) (hk : evK9 s0 st) (hz : zrX st) (hR : R < 15) (hR0 : 1 ≤ R) (hD0 : 0 ≤ (st 38 0 4).toInt) (hD : (st 38 0 4).toInt + (R : Int) ≤ 199) (hl : lvX E st (R - 1) W) (ho : opX rs st u R) : lvX E u R (wDawn E R W) ∧ moX u R (wDawn E R W) := by
  subst hE
  obtain ⟨g1, g2, g3, g4⟩ := ho
  have l1 : ∀ w : Nat, w < 6 → 0 < (st 5 0 w).toInt → u 13 R w = gwF (W.1 w) (evR (evX rs s0) w) (evP (evX rs s0) w) := fun w hw hp => by
    rw [(g1 w).1 (by omega) hp, hk.R hw, hk.P hw, hl w hw (by rw [hk.P hw]; exact hp)]
  have lv : ∀ w : Nat, w < 6 → 0 < (evP (evX rs s0) w).toInt → u 13 R w = (wDawn (evX rs s0) R W).1 w := fun w hw hp => by
    show _ = if 0 < (evP (evX rs s0) w).toInt then gwF (W.1 w) (evR (evX rs s0) w) (evP (evX rs s0) w) else W.1 w
    rw [if_pos hp]; exact l1 w hw (by rw [← hk.P (rs := rs) hw]; exact hp)
  have mo : ∀ w : Nat, w < 6 → (u 14 R w).toInt = (wDawn (evX rs s0) R W).2.1 w := fun w hw => by
    show _ = if 0 < (evP (evX rs s0) w).toInt then ((wDawn (evX rs s0) R W).1 w).toInt else -1
    by_cases q : 0 < (evP (evX rs s0) w).toInt
    · have q2 : 0 < (st 5 0 w).toInt := by rw [← hk.P (rs := rs) hw]; exact q
      rw [if_pos q, ← lv w hw q, (g2 w).1 (by omega) q2, (g1 w).1 (by omega) q2]
    · have q2 : ¬ 0 < (st 5 0 w).toInt := by rw [← hk.P (rs := rs) hw]; exact q
      rw [if_neg q, (g2 w).2 (fun z => q2 z.2)]; exact (hz.1 R w (by omega) hw q2).2
  refine ⟨lv, fun w hw => ⟨mo w hw, ?_⟩⟩
  rw [g3 w hw]
  show sP rs (u 14 R) (fun w9 d9 => (st 11 w9 d9).toInt) w ((st 38 0 4).toInt + (R : Int)) = if dryD rs w ((wDawn (evX rs s0) R W).2.1 w) = -1 then evO (evX rs s0) w ((evD (evX rs s0)).toInt + (R : Int)).toNat else dryD rs w ((wDawn (evX rs s0) R W).2.1 w)
  unfold sP
  rw [mo w hw, hk.D, hk.O hw (by omega)]
theorem zr_op {R : Nat} (hz : zrX st) (ho : opX rs st u R) (e5 : u 5 0 = st 5 0) (e20 : u 20 0 = st 20 0) (e21 : u 21 0 = st 21 0) : zrX u := by
  obtain ⟨g1, g2, _, g4⟩ := ho
  refine ⟨fun i w hi hw hn => ?_, fun h hh hn => by rw [e20] at hn; rw [e21]; exact hz.2 h hh hn⟩
  rw [e5] at hn
  have z := hz.1 i w hi hw hn
  by_cases q : i = R
  · subst q
    rw [(g1 w).2 (fun z9 => hn z9.2), (g2 w).2 (fun z9 => hn z9.2)]; exact z
  · rw [g4 13 i (by omega) q, g4 14 i (by omega) q]; exact z
theorem jX.day (h : jX rs s0 st as a) (q : as.length % 4 = 3) (hp : as.length < 55) (hD0 : 0 ≤ (st 38 0 4).toInt) (hD : (st 38 0 4).toInt + ((as.length / 4 + 1 + 1 : Nat) : Int) ≤ 199) (ho : opX rs st u (as.length / 4 + 1 + 1)) (fe : frE st u) (e46 : u 46 = st 46) (e41 : u 41 = st 41) (e43 : u 43 = st 43) (e45 : u 45 = st 45) : mX rs s0 u (a :: as) := by
  obtain ⟨hc, ha, hh, hl, hm, hv, hk, hz⟩ := h
  have e : (a :: as).length / 4 + 1 = as.length / 4 + 1 + 1 := by show (as.length + 1) / 4 + 1 = _; omega
  have dy := ho.2.2.2
  have kp : kpX (as.length + 1) st u := ⟨fun z hz9 => by rw [e46, e41, e43, e45]; exact ⟨rfl, rfl, rfl, rfl⟩, fun k => by rw [e41, e43, e45]; exact ⟨rfl, rfl, rfl⟩, fun i hi => dy 13 i (by omega) (by omega), fun i hi => ⟨dy 14 _ (by omega) (by omega), dy 15 _ (by omega) (by omega)⟩⟩
  have d := dawn_X (E := evX rs s0) (R := as.length / 4 + 1 + 1) rfl hk hz (by omega) (by omega) hD0 hD (by rw [Nat.add_sub_cancel]; exact hl) ho
  have c1 : cX (evX rs s0) st (a :: as) := ⟨hc, ha, hh, fun _ => hl, hm, hv⟩
  refine ⟨c1.keep kp, ?_, ?_, hk.keep fe (by rw [e41]) (by rw [e43]) (by rw [e45]), zr_op hz ho fe.2.2.2.2.1 fe.1 fe.2.1⟩
  · rw [e, wdA_d q]; exact d.1
  · rw [e, wdA_d q]; exact d.2
/-- the first day -/
theorem mX.first (hz : zrX s0) (h43 : ∀ k : Nat, k < 4 → (s0 43 0 k).toInt = 0) (hD0 : 0 ≤ (s0 38 0 4).toInt) (hD : (s0 38 0 4).toInt + 1 ≤ 199) (ho : opX rs s0 u 1) (fe : frE s0 u) (e41 : u 41 = s0 41) (e43 : u 43 = s0 43) (e45 : u 45 = s0 45) : mX rs s0 u [] := by
  have hk : evK9 s0 s0 := ⟨rfl, rfl, rfl, rfl, rfl, rfl, rfl, rfl, rfl, rfl, rfl⟩
  have d := dawn_X (E := evX rs s0) (R := 1) (W := (evV (evX rs s0), fun _ => 0, fun _ => 0, evA (evX rs s0), fun _ => 0, evK (evX rs s0))) rfl hk hz (by decide) (by decide) hD0 hD (fun w hw _ => (if_pos hw).symm) ho
  refine ⟨fun k hk4 => ?_, d.1, d.2, hk.keep fe (by rw [e41]) (by rw [e43]) (by rw [e45]), zr_op hz ho fe.2.2.2.2.1 fe.1 fe.2.1⟩
  unfold hcX
  rw [e41, e43, e45]
  refine ⟨(show s0 41 0 k = cutN 4 (s0 41 0) k from (if_pos hk4).symm), Int32.toInt_inj.mp ((h43 k hk4).trans (show (0 : Int) = (0 : Int32).toInt from by decide)), (show s0 45 0 k = cutN 4 (s0 45 0) k from (if_pos hk4).symm)⟩
/-- none thirsts, on both sides -/
theorem jX.good {x : Int32} (h : jX rs s0 st as a) (q : as.length % 4 = 3) (hp : as.length < 56) (hx : x.toInt = ((as.length / 4 + 1 : Nat) : Int)) : gdX st (as.length / 4 + 1) (st 38 0 4 + x) 4 ↔ wGood (evX rs s0) (as.length / 4 + 1) (wAct (evX rs s0) (as.length / 4 + 1) (as.length % 4) a (wdA (evX rs s0) as)) := by
  obtain ⟨hc, ha, hh, hl, hm, hv, hk, hz⟩ := h
  have er := rwI_eq hx (by omega)
  have e : ∀ k : Nat, k < 4 → st 45 (as.length / 4 + 1) k = (wAct (evX rs s0) (as.length / 4 + 1) (as.length % 4) a (wdA (evX rs s0) as)).2.2.2.2.2 k := fun k hk4 => by
    by_cases z : k = as.length % 4
    · rw [z]; exact hh.2.2
    · have c := cX.herd hc k hk4
      rw [if_pos (by omega)] at c
      rw [c.2.2, (wAct_o (E := evX rs s0) z).2.2]
  unfold gdX wGood
  constructor
  · intro g k hk4 hn
    have := g k (by omega) (by rw [← hk.C (rs := rs) hk4]; exact hn)
    rw [hk.D, hk.L hk4, ← e k hk4, ← er]; exact this
  · intro g k hk4 hn
    have := g k (by omega) (by rw [hk.C (rs := rs) (by omega)]; exact hn)
    rw [hk.D, hk.L (by omega), ← e k (by omega), ← er] at this; exact this
end PZ25
