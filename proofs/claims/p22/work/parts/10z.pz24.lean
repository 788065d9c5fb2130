/-! the class's planner against the search: acts -/
/-- the cells that are given stay -/
def frE (st u : gS) : Prop := u 20 0 = st 20 0 ∧ u 21 0 = st 21 0 ∧ u 22 0 = st 22 0 ∧ u 6 0 = st 6 0 ∧ u 5 0 = st 5 0 ∧ u 8 = st 8 ∧ u 11 = st 11 ∧ u 38 0 4 = st 38 0 4
theorem evK9.keep {s0 st u : gS} (h : evK9 s0 st) (f : frE st u) (a : u 41 0 = st 41 0) (b : u 43 0 = st 43 0) (c : u 45 0 = st 45 0) : evK9 s0 u := by
  obtain ⟨h1, h2, h3, h4, h5, h6, h7, h8, h9, h10, h11⟩ := h
  obtain ⟨f1, f2, f3, f4, f5, f6, f7, f8⟩ := f
  exact ⟨f1.trans h1, f2.trans h2, f3.trans h3, f4.trans h4, f5.trans h5, f6.trans h6, f7.trans h7, f8.trans h8, a.trans h9, b.trans h10, c.trans h11⟩
theorem rwI_eq {rv : Int32} {r : Nat} (h : rv.toInt = (r : Int)) (hr : r < 100) : rv = rwI32 r := Int32.toInt_inj.mp (h.trans (show (r : Int) = (Int32.ofNat r).toInt from (nI_toInt (by omega)).symm))
theorem wAct_0 {E : Ev} {r h : Nat} {a : Int} {W : Wd} (ha : a = 0) : wAct E r h a W = (upd W.1 (W.2.2.2.1 h).toNatClampNeg (W.1 (W.2.2.2.1 h).toNatClampNeg - evN E h), W.2.1, W.2.2.1, W.2.2.2.1, W.2.2.2.2.1, upd W.2.2.2.2.2 h (evD E + rwI32 r)) := by
  unfold wAct; simp only []; rw [if_pos ha]
theorem wAct_1 {E : Ev} {r h : Nat} {a : Int} {W : Wd} (ha : a = 1 ∨ a = 9) : wAct E r h a W = W := by
  unfold wAct; simp only []; rw [if_neg (by omega), if_neg (by omega)]
theorem wAct_2 {E : Ev} {r h : Nat} {a : Int} {W : Wd} (ha : 2 ≤ a ∧ a ≤ 7) : wAct E r h a W = (W.1, W.2.1, W.2.2.1, upd W.2.2.2.1 h (Int32.ofInt (a - 2)), upd W.2.2.2.2.1 h (rwI32 r + evW E (W.2.2.2.1 h).toNatClampNeg (a - 2).toNat), W.2.2.2.2.2) := by
  unfold wAct; simp only []; rw [if_neg (by omega), if_pos ha]
theorem ofI_toInt {x : Int32} {v : Int} (h : x.toInt = v) : x = Int32.ofInt v := by
  rw [← h]; exact (Int32.ofInt_toInt x).symm
section PZ24
variable {rs : List Rl} {s0 st u : gS} {as : List Int} {a t : Int}
set_option maxHeartbeats 1000000 in
theorem iX.perf {x y : Int32} (hB : gBd bX st) (h : iX rs s0 st as t) (hx : x.toNatClampNeg = as.length) (hp : as.length < 56) (hf : pfX st u x y (as.length / 4 + 1) (as.length % 4)) (fe : frE st u) (e14 : u 14 = st 14) (e15 : u 15 = st 15) (hv : y.toInt = 0 → 0 < (evP (evX rs s0) ((wdA (evX rs s0) as).2.2.2.1 (as.length % 4)).toNatClampNeg).toInt) : jX rs s0 u as y.toInt := by
  obtain ⟨hc, hl, hm, _, hk, hz⟩ := h
  obtain ⟨p46, pO, pJ, rv, hrv, pc⟩ := hf
  have h4 : as.length % 4 < 4 := by omega
  have ern := rwI_eq hrv (by omega)
  obtain ⟨n1, n2, n3⟩ := hc.now
  rw [Nat.add_sub_cancel] at pc
  have b41 : (0 : Int) ≤ (st 41 (as.length / 4) (as.length % 4)).toInt ∧ (st 41 (as.length / 4) (as.length % 4)).toInt ≤ (5 : Int) := hB 41 _ _
  have cp := gs_cl b41.1
  have p6 : (st 41 (as.length / 4) (as.length % 4)).toNatClampNeg < 6 := by omega
  have r0 : ∀ k, k = 13 ∨ k = 41 ∨ k = 43 ∨ k = 45 → u k 0 = st k 0 := fun k hk => pO k 0 hk (by omega)
  have kp : kpX as.length st u := by
    refine ⟨fun q hq => ?_, fun k => ⟨congrFun (r0 41 (by omega)) k, congrFun (r0 43 (by omega)) k, congrFun (r0 45 (by omega)) k⟩, fun i hi => pO 13 i (by omega) (by omega), fun i hi => ⟨congrFun e14 _, congrFun e15 _⟩⟩
    refine ⟨by rw [p46, hx, pk_un (by omega)], ?_⟩
    by_cases e : q / 4 + 1 = as.length / 4 + 1
    · obtain ⟨o1, o2, o3⟩ := pJ (q % 4) (by omega)
      rw [e]; exact ⟨o1, o2, o3⟩
    · exact ⟨congrFun (pO 41 _ (by omega) e) _, congrFun (pO 43 _ (by omega) e) _, congrFun (pO 45 _ (by omega) e) _⟩
  have hk' := hk.keep fe (r0 41 (by omega)) (r0 43 (by omega)) (r0 45 (by omega))
  have hz' : (∀ w : Nat, w < 6 → ¬ 0 < (st 5 0 w).toInt → (u 13 (as.length / 4 + 1) w).toInt = 0) → zrX u := fun hr => by
    refine ⟨fun i w hi hw hn => ?_, fun h hh hn => ?_⟩
    · rw [fe.2.2.2.2.1] at hn
      have z := hz.1 i w hi hw hn
      refine ⟨?_, by rw [e14]; exact z.2⟩
      by_cases e : i = as.length / 4 + 1
      · rw [e]; exact hr w hw hn
      · rw [pO 13 i (by omega) e]; exact z.1
    · rw [fe.1] at hn; rw [fe.2.1]; exact hz.2 h hh hn
  have hm' : moX u (as.length / 4 + 1) (wdA (evX rs s0) as) := fun w hw => by rw [e14, e15]; exact hm w hw
  have ha : (u 46 0 as.length).toInt = y.toInt := by rw [p46, hx, pk_us]
  rcases pc with ⟨c0, c41, c43, c45, c13⟩ | ⟨c0, c41, c43, c45, c13⟩ | ⟨c0, c41, c43, c45, c13⟩
  · refine ⟨hc.keep kp, ha, ?_, ?_, hm', hv, hk', hz' (fun w hw hn => ?_)⟩
    · rw [wAct_0 c0]
      exact ⟨c41.trans n1, c43.trans n2, by show _ = upd _ _ _ _; rw [pk_us, c45, hk.D, ern]⟩
    · rw [wAct_0 c0]
      intro w hw hpw
      show _ = upd _ _ _ w
      rw [c13, ← n1]
      by_cases e : w = (st 41 (as.length / 4) (as.length % 4)).toNatClampNeg
      · rw [e, pk_us, pk_us, hk.N h4, hl _ p6 (by rw [← e]; exact hpw)]
      · rw [pk_un e, pk_un e]; exact hl w hw hpw
    · have hw0 := hv c0
      rw [← n1, hk.P p6] at hw0
      rw [c13, pk_un (fun e => hn (by rw [e]; exact hw0))]
      exact (hz.1 _ w (by omega) hw hn).1
  · refine ⟨hc.keep kp, ha, ?_, ?_, hm', hv, hk', hz' (fun w hw hn => by rw [c13]; exact (hz.1 _ w (by omega) hw hn).1)⟩
    · rw [wAct_1 c0]; exact ⟨c41.trans n1, c43.trans n2, c45.trans n3⟩
    · rw [wAct_1 c0]; intro w hw hpw; rw [c13]; exact hl w hw hpw
  · refine ⟨hc.keep kp, ha, ?_, ?_, hm', hv, hk', hz' (fun w hw hn => by rw [c13]; exact (hz.1 _ w (by omega) hw hn).1)⟩
    · rw [wAct_2 c0]
      refine ⟨?_, ?_, c45.trans n3⟩
      · show _ = upd _ _ _ _; rw [pk_us]; exact ofI_toInt c41
      · show _ = upd _ _ _ _; rw [pk_us, c43, ern, ← n1, hk.W p6 (by omega)]
    · rw [wAct_2 c0]; intro w hw hpw; rw [c13]; exact hl w hw hpw
/-- an act is taken back -/
theorem jX.undo {x : Int32} (hB : gBd bX st) (h : jX rs s0 st as a) (hx : x.toNatClampNeg = as.length) (hp : as.length < 56) (hu : udX st u x (as.length / 4 + 1) (as.length % 4)) : iX rs s0 u as a := by
  obtain ⟨hc, ha, hh, hl, hm, hv, hk, hz⟩ := h
  have h4 : as.length % 4 < 4 := by omega
  rw [← hx] at ha
  rcases hu with ⟨u0, e⟩ | ⟨u0, e⟩
  · have a0 : a = 0 := ha.symm.trans u0
    rw [wAct_0 a0] at hh hl
    obtain ⟨n1, n2, n3⟩ := hh
    have n1 : st 41 (as.length / 4 + 1) (as.length % 4) = (wdA (evX rs s0) as).2.2.2.1 (as.length % 4) := n1
    have b41 : (0 : Int) ≤ (st 41 (as.length / 4 + 1) (as.length % 4)).toInt ∧ (st 41 (as.length / 4 + 1) (as.length % 4)).toInt ≤ (5 : Int) := hB 41 _ _
    have cp := gs_cl b41.1
    have p6 : (st 41 (as.length / 4 + 1) (as.length % 4)).toNatClampNeg < 6 := by omega
    have hw0 := hv a0
    rw [← n1] at hw0 hl
    have o : ∀ k i, ¬ (k = 13 ∧ i = as.length / 4 + 1) → u k i = st k i := fun k i hn => by rw [e]; exact gU_ne hn
    have kp : kpX as.length st u := ⟨fun q hq => ⟨congrFun (o 46 0 (by omega)) _, congrFun (o 41 _ (by omega)) _, congrFun (o 43 _ (by omega)) _, congrFun (o 45 _ (by omega)) _⟩, fun k => ⟨congrFun (o 41 0 (by omega)) k, congrFun (o 43 0 (by omega)) k, congrFun (o 45 0 (by omega)) k⟩, fun i hi => o 13 i (by omega), fun i hi => ⟨o 14 _ (by omega), o 15 _ (by omega)⟩⟩
    refine ⟨hc.keep kp, fun w hw hpw => ?_, fun w hw => by rw [o 14 _ (by omega), o 15 _ (by omega)]; exact hm w hw, by rw [o 46 0 (by omega), ← hx]; exact ha, hk.keep ⟨o 20 0 (by omega), o 21 0 (by omega), o 22 0 (by omega), o 6 0 (by omega), o 5 0 (by omega), funext fun i => o 8 i (by omega), funext fun i => o 11 i (by omega), congrFun (o 38 0 (by omega)) 4⟩ (o 41 0 (by omega)) (o 43 0 (by omega)) (o 45 0 (by omega)), fun i w hi hw hn => ?_, fun h hh hn => ?_⟩
    · have l1 := hl w hw hpw
      have l1 : st 13 (as.length / 4 + 1) w = upd (wdA (evX rs s0) as).1 (st 41 (as.length / 4 + 1) (as.length % 4)).toNatClampNeg ((wdA (evX rs s0) as).1 (st 41 (as.length / 4 + 1) (as.length % 4)).toNatClampNeg - evN (evX rs s0) (as.length % 4)) w := l1
      rw [e]
      by_cases q : w = (st 41 (as.length / 4 + 1) (as.length % 4)).toNatClampNeg
      · rw [q, pk_us] at l1
        rw [q, gU_same, l1, hk.N h4, Int32.sub_add_cancel]
      · rw [gU_other q, l1, pk_un q]
    · rw [o 5 0 (by omega)] at hn
      have z := hz.1 i w hi hw hn
      refine ⟨?_, by rw [o 14 i (by omega)]; exact z.2⟩
      by_cases q : i = as.length / 4 + 1
      · subst q
        rw [hk.P p6] at hw0
        rw [e, gU_other (fun z9 => hn (by rw [z9]; exact hw0))]; exact z.1
      · rw [o 13 i (by omega)]; exact z.1
    · rw [o 20 0 (by omega)] at hn; rw [o 21 0 (by omega)]; exact hz.2 h hh hn
  · subst e
    rw [hx] at ha u0
    have hn : ¬ a = 0 := fun q => u0 (ha.trans q)
    refine ⟨hc, ?_, hm, ha, hk, hz⟩
    intro w hw hpw
    rw [hl w hw hpw]
    unfold wAct
    simp only []
    rw [if_neg hn]
    split <;> rfl
end PZ24
