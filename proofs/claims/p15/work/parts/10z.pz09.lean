/-! whose the days are: one round of turns a well, its shares laid out -/
def unT : List Rl → Prop
  | [] => True
  | r :: t => (r.1 = 0 → ¬ hasT t r.2.1 = true) ∧ unT t
theorem hasT_mem {rs : List Rl} {w : Int} : hasT rs w = true ↔ ∃ r ∈ rs, r.1 = 0 ∧ r.2.1 = w := by
  unfold hasT
  rw [List.any_eq_true]
  exact ⟨fun ⟨x, h1, h2⟩ => ⟨x, h1, of_decide_eq_true h2⟩, fun ⟨x, h1, h2⟩ => ⟨x, h1, decide_eq_true h2⟩⟩
theorem unT_app {r : Rl} : ∀ {rs : List Rl}, unT rs → (r.1 = 0 → ¬ hasT rs r.2.1 = true) → unT (rs ++ [r])
  | [], _, _ => ⟨fun _ h => (by
      obtain ⟨x, hx, _⟩ := hasT_mem.mp h
      cases hx), trivial⟩
  | x :: t, h, hn => by
    refine ⟨fun h0 hh => ?_, unT_app h.2 (fun h0 hh => hn h0 ?_)⟩
    · obtain ⟨y, hy, h1, h2⟩ := hasT_mem.mp hh
      rcases List.mem_append.mp hy with q | q
      · exact h.1 h0 (hasT_mem.mpr ⟨y, q, h1, h2⟩)
      · rw [List.mem_singleton.mp q] at h1 h2
        exact hn h1 (hasT_mem.mpr ⟨x, List.mem_cons_self, h0, h2.symm⟩)
    · obtain ⟨y, hy, h1⟩ := hasT_mem.mp hh
      exact hasT_mem.mpr ⟨y, List.mem_cons_of_mem _ hy, h1⟩
theorem exT_cons {x : Rl} {t : List Rl} {w : Int} : exT (x :: t) w = (if x.1 = 0 ∧ x.2.1 = w then shT x.2.2.2.2.2 else []) ++ exT t w := by
  unfold exT
  rw [List.flatMap_cons]
theorem exT_nil {w : Int} : ∀ {rs : List Rl}, ¬ hasT rs w = true → exT rs w = []
  | [], _ => rfl
  | x :: t, h => by
    rw [exT_cons, if_neg (fun h9 => h (hasT_mem.mpr ⟨x, List.mem_cons_self, h9⟩)), exT_nil (fun h9 => h (by
      obtain ⟨y, hy, h1⟩ := hasT_mem.mp h9
      exact hasT_mem.mpr ⟨y, List.mem_cons_of_mem _ hy, h1⟩)), List.nil_append]
theorem exT_one {r : Rl} {w : Int} : ∀ {rs : List Rl}, unT rs → r ∈ rs → r.1 = 0 → r.2.1 = w → exT rs w = shT r.2.2.2.2.2
  | [], _, h, _, _ => by cases h
  | x :: t, hu, h, h0, h1 => by
    rw [exT_cons]
    rcases List.mem_cons.mp h with e | q
    · rw [← e, if_pos ⟨h0, h1⟩, exT_nil (fun h9 => hu.1 (by rw [← e]; exact h0) (by rw [← e, h1]; exact h9)), List.append_nil]
    · rw [if_neg (fun h9 => hu.1 h9.1 (by rw [h9.2]; exact hasT_mem.mpr ⟨r, q, h0, h1⟩)), exT_one hu.2 q h0 h1, List.nil_append]
/-- the clan whose the day d is at the well w; -1: nobody's -/
def ownT (rs : List Rl) (w d : Int) : Int := if exT rs w = [] then -1 else (exT rs w).getD (d % ((exT rs w).length : Int)).toNat 0
section PZ9
variable {sh : List (Int × Int)} {i : Nat} {k d m : Int}
theorem getS_drop (h : i < sh.length) : sh.drop i = sh.getD i (0, 0) :: sh.drop (i + 1) := by
  rw [List.getD_eq_getElem?_getD, List.getElem?_eq_getElem h]
  exact List.drop_eq_getElem_cons h
theorem getS_mem (h : i < sh.length) : sh.getD i (0, 0) ∈ sh := by
  rw [List.getD_eq_getElem?_getD, List.getElem?_eq_getElem h]; exact List.getElem_mem h
theorem shT_cons {s : Int × Int} : shT (s :: sh) = List.replicate s.2.toNat s.1 ++ shT sh := by
  unfold shT
  rw [List.flatMap_cons]
theorem shT_dl (h : i < sh.length) (hd : (sh.getD i (0, 0)).2 = d) (h0 : 0 ≤ d) : ((shT (sh.drop i)).length : Int) = d + ((shT (sh.drop (i + 1))).length : Int) := by
  rw [getS_drop h, shT_cons, List.length_append, List.length_replicate, hd]
  omega
theorem shT_here (h : i < sh.length) (hd : (sh.getD i (0, 0)).2 = d) (h0 : 0 ≤ k) (hk : k < d) : (shT (sh.drop i)).getD k.toNat 0 = (sh.getD i (0, 0)).1 := by
  rw [getS_drop h, shT_cons, List.getD_eq_getElem?_getD, List.getElem?_append_left (by rw [List.length_replicate, hd]; omega), List.getElem?_replicate, if_pos (by rw [hd]; omega)]
  all_goals rfl
theorem shT_past (h : i < sh.length) (hd : (sh.getD i (0, 0)).2 = d) (h0 : 0 ≤ d) (hk : d ≤ k) : (shT (sh.drop i)).getD k.toNat 0 = (shT (sh.drop (i + 1))).getD (k - d).toNat 0 := by
  rw [getS_drop h, shT_cons, List.getD_eq_getElem?_getD, List.getElem?_append_right (by rw [List.length_replicate, hd]; omega), List.length_replicate, hd, List.getD_eq_getElem?_getD, show k.toNat - d.toNat = (k - d).toNat by omega]
end PZ9
/-- the sum of the days of the first i shares is m -/
def sumI (sh : List (Int × Int)) (i m : Int) : Prop := m + ((shT (sh.drop i.toNat)).length : Int) = ((shT sh).length : Int)
/-- on the way through the shares: k days are left at the share i -/
def wkI (sh : List (Int × Int)) (i k g : Int) : Prop := (shT (sh.drop i.toNat)).getD k.toNat 0 = g ∧ k < ((shT (sh.drop i.toNat)).length : Int)
section PZ9b
variable {sh : List (Int × Int)} {i i1 k d m m1 g : Int}
theorem sumI.new : sumI sh 0 0 := by
  show (0 : Int) + ((shT sh).length : Int) = _
  omega
theorem sumI.go (h : sumI sh i m) (h0 : 0 ≤ i) (hi : i < (sh.length : Int)) (hd : (sh.getD i.toNat (0, 0)).2 = d) (hd0 : 0 ≤ d) (e : i1 = i + 1) (em : m1 = m + d) : sumI sh i1 m1 := by
  unfold sumI at h ⊢
  have := shT_dl (i := i.toNat) (by omega) hd hd0
  rw [show i1.toNat = i.toNat + 1 by omega]
  omega
theorem sumI.all (h : sumI sh i m) (hi : (sh.length : Int) ≤ i) : m = ((shT sh).length : Int) := by
  unfold sumI at h
  rw [List.drop_eq_nil_of_le (by omega)] at h
  have : ((shT ([] : List (Int × Int))).length : Int) = 0 := rfl
  omega
theorem wkI.new (h0 : 0 ≤ k) (h : k < ((shT sh).length : Int)) : wkI sh 0 k ((shT sh).getD k.toNat 0) := ⟨rfl, h⟩
theorem wkI.here (h : wkI sh i k g) (h0 : 0 ≤ i) (hi : i < (sh.length : Int)) (hd : (sh.getD i.toNat (0, 0)).2 = d) (hk0 : 0 ≤ k) (hk : k < d) : (sh.getD i.toNat (0, 0)).1 = g := (shT_here (by omega) hd hk0 hk).symm.trans h.1
theorem wkI.go {k1 : Int} (h : wkI sh i k g) (h0 : 0 ≤ i) (hi : i < (sh.length : Int)) (hd : (sh.getD i.toNat (0, 0)).2 = d) (hd0 : 0 ≤ d) (hk : d ≤ k) (e : i1 = i + 1) (ek : k1 = k - d) : wkI sh i1 k1 g := by
  unfold wkI at h ⊢
  have := shT_dl (i := i.toNat) (by omega) hd hd0
  rw [show i1.toNat = i.toNat + 1 by omega, ek]
  exact ⟨(shT_past (by omega) hd hd0 hk).symm.trans h.1, by omega⟩
theorem wkI.no (h : wkI sh i k g) (hk : 0 ≤ k) (hi : (sh.length : Int) ≤ i) : False := by
  have h2 := h.2
  rw [List.drop_eq_nil_of_le (by omega)] at h2
  have : ((shT ([] : List (Int × Int))).length : Int) = 0 := rfl
  omega
end PZ9b
theorem ownT_no {rs : List Rl} {w d : Int} (h : ¬ hasT rs w = true) : ownT rs w d = -1 := by
  unfold ownT
  rw [if_pos (exT_nil h)]
theorem ownT_yes {rs : List Rl} {r : Rl} {w d : Int} (hu : unT rs) (hr : r ∈ rs) (h0 : r.1 = 0) (h1 : r.2.1 = w) (hl : 0 < ((shT r.2.2.2.2.2).length : Int)) : ownT rs w d = (shT r.2.2.2.2.2).getD (d % ((shT r.2.2.2.2.2).length : Int)).toNat 0 := by
  unfold ownT
  rw [exT_one hu hr h0 h1, if_neg (fun h9 => by rw [h9] at hl; exact absurd hl (by decide))]
theorem shT_pos {sh : List (Int × Int)} (hs : ∀ s ∈ sh, wfS s) (hne : sh ≠ []) : 0 < ((shT sh).length : Int) := by
  cases sh with
  | nil => exact absurd rfl hne
  | cons s t =>
    rw [shT_cons, List.length_append, List.length_replicate]
    have := (hs s List.mem_cons_self).2.1
    omega
theorem pRule_un {f : Nat → Int32} {n : Int} {L : Lx} {rs : List Rl} {p : Int} {y : Rl × Int} (h1 : pRule f n L rs p = some y) : y.1.1 = 0 → ¬ hasT rs y.1.2.1 = true := by
  intro h0 hh
  unfold pRule at h1
  split at h1
  · unfold pTurns at h1
    obtain ⟨a, h3, h1⟩ := obS h1
    split at h1
    · cases h1
    · next hne =>
      obtain ⟨b, _, h1⟩ := obS h1
      obtain ⟨c, _, h1⟩ := obS h1
      cases h1
      exact hne hh
  · split at h1
    · unfold pGuest at h1
      obtain ⟨a, _, h1⟩ := obS h1
      obtain ⟨b, _, h1⟩ := obS h1
      obtain ⟨c, _, h1⟩ := obS h1
      obtain ⟨d, _, h1⟩ := obS h1
      obtain ⟨e, _, h1⟩ := obS h1
      split at h1
      · cases h1
      · obtain ⟨g, _, h1⟩ := obS h1
        obtain ⟨q, _, h1⟩ := obS h1
        cases h1
        exact absurd (show (1 : Int) = 0 from h0) (by decide)
    · split at h1
      · unfold pWed at h1
        obtain ⟨a, _, h1⟩ := obS h1
        obtain ⟨b, _, h1⟩ := obS h1
        split at h1
        · cases h1
        · obtain ⟨q, _, h1⟩ := obS h1
          cases h1
          exact absurd (show (2 : Int) = 0 from h0) (by decide)
      · split at h1
        · unfold pDrought at h1
          obtain ⟨a, _, h1⟩ := obS h1
          obtain ⟨b, _, h1⟩ := obS h1
          obtain ⟨c, _, h1⟩ := obS h1
          obtain ⟨d, _, h1⟩ := obS h1
          obtain ⟨q, _, h1⟩ := obS h1
          cases h1
          exact absurd (show (3 : Int) = 0 from h0) (by decide)
        · obtain ⟨q0, _, h1⟩ := obS h1
          unfold pDry at h1
          obtain ⟨a, _, h1⟩ := obS h1
          obtain ⟨b, _, h1⟩ := obS h1
          obtain ⟨c, _, h1⟩ := obS h1
          split at h1
          · cases h1
          · obtain ⟨q, _, h1⟩ := obS h1
            cases h1
            exact absurd (show (4 : Int) = 0 from h0) (by decide)
theorem pText_un {f : Nat → Int32} {n : Int} {L : Lx} : ∀ (k : Nat) {rs : List Rl} {p : Int} {x : List Rl}, unT rs → pText f n L k rs p = some x → unT x
  | 0, rs, p, x, hu, h => by
    unfold pText at h
    split at h
    · cases h; exact hu
    · cases h
  | k + 1, rs, p, x, hu, h => by
    unfold pText at h
    split at h
    · cases h; exact hu
    · obtain ⟨y, h1, h2⟩ := obS h
      exact pText_un k (unT_app hu (pRule_un h1)) h2
theorem LM.turn {rs : List Rl} {st : gS} {b : Nat} {w : Int} {y : Int32} (h : LM rs st b) (hwf : ∀ r ∈ rs, wfR r) (hu : unT rs) (h0 : 24 * (b : Int) ≤ y.toInt) (h1 : y.toInt < 24 * (b : Int) + (rs.length : Int)) (h2 : (st 8 0 y.toNatClampNeg).toInt = 0) (h3 : (st 9 0 y.toNatClampNeg).toInt = w) : ∃ sh : List (Int × Int), (st 13 0 y.toNatClampNeg).toInt = (sh.length : Int) ∧ LMs sh st y.toNatClampNeg ∧ (∀ s ∈ sh, wfS s) ∧ (sh.length : Int) ≤ 8 ∧ 0 < ((shT sh).length : Int) ∧ ∀ d, ownT rs w d = (shT sh).getD (d % ((shT sh).length : Int)).toNat 0 := by
  have c := gs_cl (x := y) (by omega)
  have hi : y.toNatClampNeg - 24 * b < rs.length := by omega
  have e : 24 * b + (y.toNatClampNeg - 24 * b) = y.toNatClampNeg := by omega
  have h4 := h _ hi
  rw [e] at h4
  have h5 : (rs.getD (y.toNatClampNeg - 24 * b) r0).1 = 0 := h4.1.symm.trans h2
  obtain ⟨h6, h7, h8⟩ := h4.2.1 h5
  have h9 := hwf _ (getR hi)
  have hp := shT_pos h9.2.2.2.2.2.2.1 (h9.2.2.2.2.2.2.2 h5)
  exact ⟨_, h7, h8, h9.2.2.2.2.2.2.1, by have := h9.2.2.2.2.2.1; omega, hp, fun d => ownT_yes hu (getR hi) h5 (h6.symm.trans h3) hp⟩
theorem gs_rem3 {a b x : Int32} {y z : Int} (hb : b.toInt = y) (ha : a.toInt = z) (h0 : 0 ≤ a.toInt) (hy : 0 < y) (h : x = a - a / b * b) : x.toInt = z % y := by
  obtain ⟨h1, h2, h3⟩ := gs_rem hb h0 hy h
  obtain ⟨d0, d1, d2, d3⟩ := gs_div (x := a / b) hb h0 hy rfl
  have h4 := gi_hi a
  have m0 := Int.mul_nonneg (Int.le_of_lt hy) d0
  have m1 : (a / b * b).toInt = (a / b).toInt * y := gz_mulI rfl hb (by rw [Int.mul_comm]; omega) (by rw [Int.mul_comm]; omega)
  rw [Int.mul_comm] at m1
  have h5 : x.toInt = a.toInt - y * (a / b).toInt := by rw [h]; exact gz_subI rfl m1 (by omega) (by omega)
  rw [← ha, show a.toInt = x.toInt + y * (a / b).toInt by omega, Int.add_mul_emod_self_left, Int.emod_eq_of_lt h1 h2]
/-- the first rule of drought that speaks -/
def dryO (rs : List Rl) (w m : Int) : Int := match rs.find? (fun r => decide (r.1 = 3 ∧ r.2.1 = w ∧ m < r.2.2.2.2.1)) with
  | some r => r.2.2.1
  | none => -1
/-- no rule of drought at the places lo .. hi - 1 speaks -/
def noD (st : gS) (w m : Int) (lo : Nat) (hi : Int) : Prop := ∀ q : Nat, lo ≤ q → (q : Int) < hi → ¬ ((st 8 0 q).toInt = 3 ∧ (st 9 0 q).toInt = w ∧ m < (st 12 0 q).toInt)
theorem noD.nil {st : gS} {w m hi : Int} {lo : Nat} (h : hi ≤ (lo : Int)) : noD st w m lo hi := fun q h1 h2 => by omega
theorem noD.step {st : gS} {w m hi : Int} {lo : Nat} {y : Int32} (h : noD st w m lo y.toInt) (h0 : 0 ≤ y.toInt) (hh : hi = y.toInt + 1) (hn : ¬ ((st 8 0 y.toNatClampNeg).toInt = 3 ∧ (st 9 0 y.toNatClampNeg).toInt = w ∧ m < (st 12 0 y.toNatClampNeg).toInt)) : noD st w m lo hi := fun q h1 h2 => by
  by_cases e : (q : Int) < y.toInt
  · exact h q h1 e
  · have c := gs_cl h0
    rw [show q = y.toNatClampNeg by omega]; exact hn
theorem LM.drow {rs : List Rl} {st : gS} {b i : Nat} {w m : Int} (h : LM rs st b) (hi : i < rs.length) : ((st 8 0 (24 * b + i)).toInt = 3 ∧ (st 9 0 (24 * b + i)).toInt = w ∧ m < (st 12 0 (24 * b + i)).toInt) ↔ ((rs.getD i r0).1 = 3 ∧ (rs.getD i r0).2.1 = w ∧ m < (rs.getD i r0).2.2.2.2.1) := by
  have h1 := h i hi
  constructor
  · rintro ⟨a, b, c⟩
    have h2 : (rs.getD i r0).1 = 3 := h1.1.symm.trans a
    obtain ⟨d1, d2, d3⟩ := h1.2.2.2.2.1 h2
    exact ⟨h2, d1.symm.trans b, by rw [← d3]; exact c⟩
  · rintro ⟨a, b, c⟩
    obtain ⟨d1, d2, d3⟩ := h1.2.2.2.2.1 a
    exact ⟨h1.1.trans a, d1.trans b, by rw [d3]; exact c⟩
theorem find_at {P : Rl → Bool} : ∀ {rs : List Rl} {i : Nat}, i < rs.length → P (rs.getD i r0) = true → (∀ j, j < i → ¬ P (rs.getD j r0) = true) → rs.find? P = some (rs.getD i r0)
  | [], i, h, _, _ => absurd h (Nat.not_lt_zero _)
  | x :: t, 0, _, h, _ => by
    show (match P x with | true => some x | false => t.find? P) = some x
    rw [show P x = true from h]
  | x :: t, i + 1, hi, h, hn => by
    have h0 : P x = false := by
      cases hP : P x with
      | false => rfl
      | true => exact absurd hP (hn 0 (Nat.succ_pos _))
    show (match P x with | true => some x | false => t.find? P) = some (t.getD i r0)
    rw [h0]
    exact find_at (rs := t) (i := i) (Nat.lt_of_succ_lt_succ hi) h (fun j hj => hn (j + 1) (Nat.succ_lt_succ hj))
theorem LM.dry1 {rs : List Rl} {st : gS} {b : Nat} {w m : Int} {y : Int32} (h : LM rs st b) (hn : noD st w m (24 * b) y.toInt) (h0 : 24 * (b : Int) ≤ y.toInt) (h1 : y.toInt < 24 * (b : Int) + (rs.length : Int)) (h2 : (st 8 0 y.toNatClampNeg).toInt = 3) (h3 : (st 9 0 y.toNatClampNeg).toInt = w) (h4 : m < (st 12 0 y.toNatClampNeg).toInt) : (st 10 0 y.toNatClampNeg).toInt = dryO rs w m := by
  have c := gs_cl (x := y) (by omega)
  have hi : y.toNatClampNeg - 24 * b < rs.length := by omega
  have e : 24 * b + (y.toNatClampNeg - 24 * b) = y.toNatClampNeg := by omega
  have h5 := (h.drow (w := w) (m := m) hi).mp (by rw [e]; exact ⟨h2, h3, h4⟩)
  have h6 := h _ hi
  unfold dryO
  rw [find_at (P := fun r => decide (r.1 = 3 ∧ r.2.1 = w ∧ m < r.2.2.2.2.1)) hi (decide_eq_true h5) (fun j hj h9 => hn (24 * b + j) (by omega) (by omega) ((h.drow (by omega)).mpr (of_decide_eq_true h9)))]
  rw [e] at h6
  exact (h6.2.2.2.2.1 h5.1).2.1
theorem LM.dry0 {rs : List Rl} {st : gS} {b : Nat} {w m hi : Int} (h : LM rs st b) (hn : noD st w m (24 * b) hi) (hh : 24 * (b : Int) + (rs.length : Int) ≤ hi) : dryO rs w m = -1 := by
  unfold dryO
  rw [List.find?_eq_none.mpr (fun x hx h9 => by
    obtain ⟨i, hi, e⟩ := List.getElem_of_mem hx
    have e2 : rs.getD i r0 = x := by rw [List.getD_eq_getElem?_getD, List.getElem?_eq_getElem hi, e]; rfl
    exact hn (24 * b + i) (by omega) (by omega) ((h.drow hi).mpr (by rw [e2]; exact of_decide_eq_true h9)))]
  all_goals rfl
