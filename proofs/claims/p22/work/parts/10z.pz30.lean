/-! the reference's search, turn by turn -/
def nkM (t : Int) : Int := if t = -1 then 0 else if t = 9 then 1 else t + 1
def sFE (E : Ev) (n m f r : Int) (as : List Int) : Prop := ∃ (t k : Int) (j : Nat), rch E n m j ([], -1, 0, 0, -1) (as, t, k, f, r)
def sM (rs : List Rl) (s0 st : gS) (n m : Int) (as : List Int) (t k f : Int) (j : Nat) : Prop := rch (evM rs s0) n m j ([], -1, 0, 0, -1) (as, t, k, f, -1) ∧ cM (evM rs s0) st as ∧ (st 33 0 as.length).toInt = nkM t ∧ (t = -1 ∨ akM (evM rs s0) as t) ∧ (st 0 0 57).toInt = k ∧ (st 0 0 58).toInt = f ∧ (as.length : Int) < 4 * n ∧ (0 ≤ k ∧ k ≤ m) ∧ (0 ≤ f ∧ f ≤ 14) ∧ evQ s0 st
/-- what the reference's loop keeps at the place at -/
def loM (rs : List Rl) (s0 st : gS) (n m at_ : Int) : Prop := (∃ (as : List Int) (t k f : Int) (j : Nat), sM rs s0 st n m as t k f j ∧ at_ = (as.length : Int)) ∨ (at_ = 4 * n ∧ ∃ (as : List Int) (f : Int), sFE (evM rs s0) n m f 0 as ∧ (as.length : Int) = 4 * n ∧ (st 0 0 58).toInt = f ∧ (∀ j : Nat, j < as.length → (st 34 0 j).toInt = as.getD (as.length - 1 - j) 0) ∧ evQ s0 st) ∨ (at_ = -1 ∧ ∃ (as : List Int) (f : Int), sFE (evM rs s0) n m f 1 as ∧ (st 0 0 58).toInt = f ∧ evQ s0 st)
theorem cM.acts {E : Ev} {st : gS} : ∀ {as : List Int}, cM E st as → ∀ j, j < as.length → (st 34 0 j).toInt = as.getD (as.length - 1 - j) 0
  | [], _, j, h => absurd h (Nat.not_lt_zero _)
  | a :: as, h, j, hj => by
    have hl : (a :: as).length = as.length + 1 := rfl
    rw [hl] at hj ⊢
    by_cases q : j = as.length
    · rw [q, show as.length + 1 - 1 - as.length = 0 by omega]; exact h.2.2.1
    · rw [show as.length + 1 - 1 - j = (as.length - 1 - j) + 1 by omega]
      exact cM.acts h.1 j (by omega)
theorem wdA_mo {E : Ev} {w : Nat} (hw : ¬ 0 < (evP E w).toInt) : ∀ as : List Int, (wdA E as).2.1 w = -1
  | [] => if_neg hw
  | a :: as => by
    rw [wdA_c]
    split
    · exact if_neg hw
    · rw [wAct_m.1]; exact wdA_mo hw as
section PZ30
variable {rs : List Rl} {s0 st u v : gS} {n m x k1 at_ : Int} {as : List Int} {t k f : Int} {j : Nat}
theorem sM.free {d : Int} (h : sM rs s0 st n m as t k f j) (hB : gBd bM st) (ho : okM s0) (hn14 : n ≤ 14) (hd : d = (st 0 0 7).toInt + ((as.length / 4 + 1 : Nat) : Int)) : (¬ (st 22 0 (as.length % 4)).toInt = 0 ∧ (st 31 0 (4 * as.length + as.length % 4)).toInt ≤ d) ↔ wFree (evM rs s0) (as.length / 4 + 1) (as.length % 4) (wdA (evM rs s0) as) := by
  obtain ⟨_, hc, _, _, _, _, h6, _, _, hk⟩ := h
  have h4 : as.length % 4 < 4 := by omega
  obtain ⟨_, _, _, g4, _, g6⟩ := hc.at
  have b7 : (0 : Int) ≤ (st 0 0 7).toInt ∧ (st 0 0 7).toInt ≤ (199 : Int) := hB 0 0 7
  have ar := g6 _ h4
  have e : (st 31 0 (4 * as.length + as.length % 4)).toInt = (st 0 0 7).toInt + ((wdA (evM rs s0) as).2.2.2.2.1 (as.length % 4)).toInt := by
    rw [(g4 _ h4).2.1, hk.D]; exact gz_addI rfl rfl (by omega) (by omega)
  unfold wFree
  rw [hk.C h4, e]
  by_cases q : (st 22 0 (as.length % 4)).toInt = 0
  · rw [if_pos q]; exact ⟨fun z => absurd q z.1, fun z => absurd rfl z.1⟩
  · have c := (ho.1 _ h4 (by rw [← hk.1]; exact q)).1
    rw [← hk.2.1] at c
    rw [if_neg q]
    exact ⟨fun z => ⟨by omega, by omega⟩, fun z => ⟨q, by omega⟩⟩
theorem sM.can {b : Int} (h : sM rs s0 st n m as t k f j) (hB : gBd bM st) (ho : okM s0) (hn14 : n ≤ 14) (hwf : ∀ r ∈ rs, wfR r) (hf : ¬ (st 22 0 (as.length % 4)).toInt = 0) (hb : b ≤ 7) : cdM rs st as.length (as.length % 4) b ↔ wCan (evM rs s0) (as.length % 4) (wdA (evM rs s0) as) b := by
  obtain ⟨_, hc, _, _, _, _, h6, _, _, hk⟩ := h
  have h4 : as.length % 4 < 4 := by omega
  obtain ⟨g1, g2, g3, g4, _, g6⟩ := hc.at
  have n1 := (g4 _ h4).1
  have b30 : (0 : Int) ≤ (st 30 0 (4 * as.length + as.length % 4)).toInt ∧ (st 30 0 (4 * as.length + as.length % 4)).toInt ≤ (5 : Int) := hB 30 0 _
  have cp := gs_cl b30.1
  have p6 : (st 30 0 (4 * as.length + as.length % 4)).toNatClampNeg < 6 := by omega
  have wl : ∀ w : Nat, w < 6 → (0 < (evP (evM rs s0) w).toInt ↔ ¬ (st 1 0 w).toInt = 0) := fun w hw => by
    rw [hk.P hw, hk.2.2.2.2.2.1, hk.2.2.2.2.2.2.2.2.2]; exact ho.2.1 w hw
  unfold cdM wCan
  rw [← n1, hk.C h4, if_neg hf, hk.N h4]
  refine or_congr ?_ (or_congr Iff.rfl ?_)
  · refine and_congr_right (fun _ => ?_)
    rw [g1 _ p6]
    refine and_congr (wl _ p6).symm (and_congr_right (fun _ => ?_))
    unfold rtM wRt
    have ow : ∀ w : Nat, w < 6 → (st 36 0 (w + 6 * as.length)).toInt = (wdA (evM rs s0) as).2.2.1 w := fun w hw => by rw [Nat.add_comm]; exact g3 w hw
    show ((st 36 0 ((st 30 0 (4 * as.length + as.length % 4)).toNatClampNeg + 6 * as.length)).toInt = (st 23 0 (as.length % 4)).toInt ∨ (0 ≤ (st 36 0 ((st 30 0 (4 * as.length + as.length % 4)).toNatClampNeg + 6 * as.length)).toInt ∧ wedT rs (st 36 0 ((st 30 0 (4 * as.length + as.length % 4)).toNatClampNeg + 6 * as.length)).toInt (st 23 0 (as.length % 4)).toInt) ∨ ∃ a : Nat, a < 6 ∧ ¬ (st 1 0 a).toInt = 0 ∧ (st 35 0 (a + 6 * as.length)).toInt = 0 ∧ (st 36 0 (a + 6 * as.length)).toInt = (st 23 0 (as.length % 4)).toInt ∧ dryT rs a (st 30 0 (4 * as.length + as.length % 4)).toNatClampNeg) ↔ _
    rw [ow _ p6]
    refine or_congr Iff.rfl (or_congr ⟨fun z => z.2, fun z => ⟨(wedT_rng hwf z).1.1, z⟩⟩ ?_)
    constructor
    · rintro ⟨a, ha, q1, q2, q3, q4⟩
      refine ⟨a, ha, (ow a ha).symm.trans q3, ?_, q4⟩
      rw [← g2 a ha ((wl a ha).mpr q1), Nat.add_comm]; exact q2
    · rintro ⟨a, ha, q1, q2, q3⟩
      by_cases q : 0 < (evP (evM rs s0) a).toInt
      · refine ⟨a, ha, (wl a ha).mp q, ?_, (ow a ha).trans q1, q3⟩
        rw [Nat.add_comm, g2 a ha q]; exact q2
      · have := wdA_mo q as; omega
  · refine and_congr_right (fun h2 => ?_)
    rw [hk.Y p6 (by omega)]
/-- the next act, as the reference finds it -/
theorem sM.nx {fr wh d : Int} (h : sM rs s0 st n m as t k f j) (hB : gBd bM st) (ho : okM s0) (hn14 : n ≤ 14) (hwf : ∀ r ∈ rs, wfR r) (hd : d = (st 0 0 7).toInt + ((as.length / 4 + 1 : Nat) : Int)) (hfr : (fr = 1 ∧ ¬ (st 22 0 (as.length % 4)).toInt = 0 ∧ (st 31 0 (4 * as.length + as.length % 4)).toInt ≤ d) ∨ (fr = 0 ∧ ¬ (¬ (st 22 0 (as.length % 4)).toInt = 0 ∧ (st 31 0 (4 * as.length + as.length % 4)).toInt ≤ d))) (h0 : fr = 0 → wh = (st 33 0 as.length).toInt) (h1 : fr = 1 → (st 33 0 as.length).toInt ≤ wh ∧ wh ≤ 8 ∧ noA (cdM rs st as.length (as.length % 4)) ((st 33 0 as.length).toInt - 1) wh ∧ (wh < 8 → cdM rs st as.length (as.length % 4) wh)) : nxI (wFree (evM rs s0) (as.length / 4 + 1) (as.length % 4) (wdA (evM rs s0) as)) (wCan (evM rs s0) (as.length % 4) (wdA (evM rs s0) as)) t (if fr = 1 then (if wh < 8 then wh else -1) else if wh < 1 then 9 else -1) := by
  have hF := h.free hB ho hn14 hd
  have hC := fun b hf hb => h.can (b := b) hB ho hn14 hwf hf hb
  obtain ⟨_, _, hnk, hak, _, _, _, _, _, _⟩ := h
  unfold nkM at hnk
  rcases hfr with ⟨f1, f2, f3⟩ | ⟨f1, f2⟩
  · have hf := hF.mp ⟨f2, f3⟩
    obtain ⟨a1, a2, a3, a4⟩ := h1 f1
    have t9 : ¬ t = 9 := fun q => by
      rcases hak with z | z | z
      · omega
      · exact z.2 hf
      · omega
    have tk : (st 33 0 as.length).toInt = t + 1 := by
      split at hnk
      · omega
      · omega
    have t0 : -1 ≤ t := by
      rcases hak with z | z | z
      · omega
      · omega
      · omega
    rw [if_pos f1]
    by_cases q : wh < 8
    · rw [if_pos q]
      exact Or.inr (Or.inr (Or.inl ⟨hf, by omega, ⟨by omega, by omega⟩, (hC wh f2 (by omega)).mp (a4 q), fun b b1 b2 b3 => a3 b (by omega) b2 ((hC b f2 (by omega)).mpr b3)⟩))
    · rw [if_neg q]
      exact Or.inr (Or.inr (Or.inr ⟨hf, rfl, fun b b1 b2 b3 => a3 b (by omega) (by omega) ((hC b f2 b2).mpr b3)⟩))
  · have hf := fun z => f2 (hF.mpr z)
    have w0 := h0 f1
    rw [if_neg (by omega)]
    rcases hak with z | z | z
    · rw [if_pos z] at hnk
      rw [if_pos (by omega)]
      exact Or.inl ⟨hf, z, rfl⟩
    · rw [if_neg (by omega), if_pos z.1] at hnk
      rw [if_neg (by omega)]
      exact Or.inr (Or.inl ⟨hf, by omega, rfl⟩)
    · exact absurd z.2 hf
theorem sM.back (h : sM rs s0 st n m as t k f j) (hn : nxI (wFree (evM rs s0) (as.length / 4 + 1) (as.length % 4) (wdA (evM rs s0) as)) (wCan (evM rs s0) (as.length % 4) (wdA (evM rs s0) as)) t x) (hx : x = -1) (hat : at_ = (as.length : Int) - 1) : loM rs s0 st n m at_ := by
  obtain ⟨h1, hc, h3, h4, h5, h6, h7, h8, h9, hk⟩ := h
  match as, h1, hc, h3, h4, h7, hn, hat with
  | [], h1, _, _, _, _, hn, hat =>
    exact Or.inr (Or.inr ⟨by rw [hat]; rfl, [], f, ⟨t, k, j + 1, _, h1, rfl, x, hn, Or.inl ⟨hx, Or.inl ⟨rfl, rfl⟩⟩⟩, h6, hk⟩)
  | a :: as, h1, hc, _, _, h7, hn, hat =>
    have hl : ((a :: as).length : Int) = (as.length : Int) + 1 := rfl
    rw [hl] at h7 hat
    obtain ⟨c1, c2, c3, c4, c5⟩ := hc
    refine Or.inl ⟨as, a, k, f, j + 1, ⟨⟨_, h1, rfl, x, hn, Or.inl ⟨hx, Or.inr ⟨a, as, rfl, rfl⟩⟩⟩, c1, ?_, Or.inr c5, h5, h6, by omega, h8, h9, hk⟩, by omega⟩
    rw [c4]
    unfold nkM
    rcases c5 with z | z
    · rw [if_neg (show ¬ a = -1 by omega)]
    · rw [if_neg (show ¬ a = -1 by omega)]
theorem sM.cut (h : sM rs s0 st n m as t k f j) (hn : nxI (wFree (evM rs s0) (as.length / 4 + 1) (as.length % 4) (wdA (evM rs s0) as)) (wCan (evM rs s0) (as.length % 4) (wdA (evM rs s0) as)) t x) (hx : ¬ x = -1) (h9 : ¬ x = 9) (hm : (st 0 0 57).toInt = m) : sFE (evM rs s0) n m f 2 as := by
  obtain ⟨h1, _, _, _, h5, _⟩ := h
  exact ⟨t, k, j + 1, _, h1, rfl, x, hn, Or.inr (Or.inl ⟨hx, h9, h5.symm.trans hm, rfl⟩)⟩
end PZ30
