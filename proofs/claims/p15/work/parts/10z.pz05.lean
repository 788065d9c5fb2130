/-! two laws side by side; shares; the whole text -/
def LXa (rs : List Rl) (st : gS) (z : Nat) : Prop := LXt rs st z ∧ LXk rs st z ∧ LXf rs st z ∧ LXd rs st z ∧ LXg rs st z
/-- nothing changes in the laws but in the one of the number z -/
def lO (z : Nat) (st u : gS) : Prop := ∀ k i j, 25 ≤ k → k ≤ 37 → (k = 25 → j < 100) → ¬ ((if k = 27 then i / 6 else i) = z) → u k i j = st k i j
theorem lO.rf {z : Nat} {st : gS} : lO z st st := fun _ _ _ _ _ _ _ => rfl
theorem lO.trans {z : Nat} {a b c : gS} (h1 : lO z a b) (h2 : lO z b c) : lO z a c := fun k i j q1 q2 q3 q4 => (h2 k i j q1 q2 q3 q4).trans (h1 k i j q1 q2 q3 q4)
theorem lO.up {z k i j : Nat} {a b : gS} {v : Int32} (h : lO z a b) (hi : (if k = 27 then i / 6 else i) = z) : lO z a (gU b k i j v) := fun k' i' j' q1 q2 q3 q4 => by
  rw [gU_ne (fun e => q4 (by rw [e.1, e.2]; exact hi))]; exact h k' i' j' q1 q2 q3 q4
theorem lO.upo {z k i j : Nat} {a b : gS} {v : Int32} (h : lO z a b) (hk : k < 25 ∨ 37 < k) : lO z a (gU b k i j v) := fun k' i' j' q1 q2 q3 q4 => by
  rw [gU_ne (fun e => by omega)]; exact h k' i' j' q1 q2 q3 q4
theorem kX_law : ∀ k, 26 ≤ k → k ≤ 37 → ∀ j, kX k j = 100 * k := by
  intro k h1 h2 j
  rcases (show k = 26 ∨ k = 27 ∨ k = 28 ∨ k = 29 ∨ k = 30 ∨ k = 31 ∨ k = 32 ∨ k = 33 ∨ k = 34 ∨ k = 35 ∨ k = 36 ∨ k = 37 by omega) with rfl | rfl | rfl | rfl | rfl | rfl | rfl | rfl | rfl | rfl | rfl | rfl <;> rfl
theorem lO.frame {z : Nat} {a b : gS} {fs : List Nat} (h : gF kX fs a b) (hf : ∀ q ∈ fs, q < 2500 ∨ 3799 < q) : lO z a b := fun k i j q1 q2 q3 q4 => by
  refine h k i j (fun hm => ?_)
  have h1 := hf _ hm
  by_cases e : k = 25
  · subst e
    have e1 : kX 25 j = 2500 + j := rfl
    rw [e1] at h1
    have := q3 rfl
    omega
  · rw [kX_law k (by omega) q2 j] at h1
    omega
theorem lO.fill {z k i : Nat} {a b : gS} (h : ∀ a9 b9, ¬ (a9 = k ∧ b9 = i) → b a9 b9 = a a9 b9) (hi : (if k = 27 then i / 6 else i) = z) : lO z a b := fun k' i' j' q1 q2 q3 q4 => by
  rw [h k' i' (fun e => q4 (by rw [e.1, e.2]; exact hi))]
theorem LXa.oth {rs : List Rl} {st u : gS} {z z' : Nat} (h : LXa rs st z') (ho : lO z st u) (hne : z' ≠ z) : LXa rs u z' := by
  have f : ∀ k j, 25 ≤ k → k ≤ 37 → k ≠ 27 → (k = 25 → j < 100) → u k z' j = st k z' j := fun k j q1 q2 q3 q4 => ho k z' j q1 q2 q4 (by rw [if_neg q3]; exact hne)
  have g : ∀ w j, w < 6 → u 27 (6 * z' + w) j = st 27 (6 * z' + w) j := fun w j hw => ho 27 _ j (by decide) (by decide) (fun q => absurd q (by decide)) (by rw [if_pos rfl]; omega)
  obtain ⟨h1, h2, h3, h4, h5⟩ := h
  refine ⟨fun w hw => ?_, fun c hc d hd => ?_, fun c hc d hd => ?_, ?_, ?_⟩
  · rw [f 28 w (by decide) (by decide) (by decide) (fun q => absurd q (by decide))]
    exact ⟨(h1 w hw).1, fun i hi => by rw [g w i hw]; exact (h1 w hw).2 i hi⟩
  · rw [f 29 c (by decide) (by decide) (by decide) (fun q => absurd q (by decide))]; exact h2 c hc d hd
  · rw [f 30 c (by decide) (by decide) (by decide) (fun q => absurd q (by decide))]; exact h3 c hc d hd
  · refine ⟨by rw [f 25 5 (by decide) (by decide) (by decide) (fun _ => by decide)]; exact h4.1, fun i hi => ?_⟩
    rw [f 31 i (by decide) (by decide) (by decide) (fun q => absurd q (by decide)), f 32 i (by decide) (by decide) (by decide) (fun q => absurd q (by decide)), f 33 i (by decide) (by decide) (by decide) (fun q => absurd q (by decide))]; exact h4.2 i hi
  · refine ⟨by rw [f 25 9 (by decide) (by decide) (by decide) (fun _ => by decide)]; exact h5.1, fun i hi => ?_⟩
    rw [f 34 i (by decide) (by decide) (by decide) (fun q => absurd q (by decide)), f 35 i (by decide) (by decide) (by decide) (fun q => absurd q (by decide)), f 36 i (by decide) (by decide) (by decide) (fun q => absurd q (by decide)), f 37 i (by decide) (by decide) (by decide) (fun q => absurd q (by decide))]; exact h5.2 i hi
theorem LXa.nil {u : gS} {z : Nat} (h28 : ∀ j, j < 6 → u 28 z j = 0) (h29 : ∀ j, j < 6 → u 29 z j = 0) (h30 : ∀ j, j < 6 → u 30 z j = 0) (h5 : (u 25 z 5).toInt = 0) (h9 : (u 25 z 9).toInt = 0) : LXa [] u z := by
  refine ⟨fun w hw => ⟨(by rw [h28 w hw]; show (0 : Int32).toInt = 0; decide), fun i hi => absurd hi (Nat.not_lt_zero _)⟩, fun c hc d hd => ?_, fun c hc d hd => ?_, ⟨by rw [h5]; rfl, fun i hi => absurd hi (Nat.not_lt_zero _)⟩, ⟨by rw [h9]; rfl, fun i hi => absurd hi (Nat.not_lt_zero _)⟩⟩
  · rw [h29 c hc, b_0]
    exact ⟨fun q => (by cases q), fun ⟨r, hr, _⟩ => (by cases hr)⟩
  · rw [h30 c hc, b_0]
    exact ⟨fun q => (by cases q), fun ⟨r, hr, _⟩ => (by cases hr)⟩
theorem LXt.has {rs : List Rl} {st : gS} {z : Nat} {x : Int32} (h : LXt rs st z) (hwf : ∀ r ∈ rs, wfR r) (h0 : 0 ≤ x.toInt) (h6 : x.toInt < 6) : 0 < (st 28 z x.toNatClampNeg).toInt ↔ hasT rs x.toInt = true := by
  have c := gs_cl h0
  rw [(h _ (by omega)).1, c, ← exT_pos hwf]
  omega
theorem LXt.fit {rs : List Rl} {sh : List (Int × Int)} {st : gS} {z : Nat} {x : Int32} (h : LXt (rs ++ [(0, x.toInt, 0, 0, 0, sh)]) st z) (hwf : ∀ r ∈ rs, wfR r) (hs : ∀ s ∈ sh, wfS s) (h0 : 0 ≤ x.toInt) (h6 : x.toInt < 6) (hno : ¬ hasT rs x.toInt = true) : (st 28 z x.toNatClampNeg).toInt ≤ 9 * (sh.length : Int) := by
  have c := gs_cl h0
  rw [(h _ (by omega)).1, c, exT_app]
  have e : (if (0 : Int) = 0 ∧ x.toInt = x.toInt then shT sh else []) = shT sh := if_pos ⟨rfl, rfl⟩
  show ((exT rs x.toInt ++ (if (0 : Int) = 0 ∧ x.toInt = x.toInt then shT sh else [])).length : Int) ≤ _
  rw [e, List.length_append]
  have h1 : ¬ 0 < (exT rs x.toInt).length := fun q => hno ((exT_pos hwf).mp q)
  have h2 := (shT_len hs).2
  omega
section PZ5
variable {f : Nat → Int32} {n : Int} {L : Lx} {p q : Int} {k : Nat} {a b : Int × Int} {rs : List Rl}
theorem pSh_id {x : Option (List (Int × Int) × Int)} : (x.bind fun r9 => some ([] ++ r9.1, r9.2)) = x := by
  cases x with
  | none => rfl
  | some r => rfl
theorem pSh_nc (h : gClan f n L p = none) : pSh f n L k p = none := by
  cases k with
  | zero => rfl
  | succ k => unfold pSh; exact obN h
theorem pSh_nn (h : gClan f n L p = some a) (h2 : gNum f n L 1 9 a.2 = none) : pSh f n L k p = none := by
  cases k with
  | zero => rfl
  | succ k => unfold pSh; exact obM h (obN h2)
theorem pSh_ns (h : gClan f n L p = some a) (h2 : gNum f n L 1 9 a.2 = some b) (h3 : gSign f n L 59 b.2 = none) (h4 : gSign f n L 44 b.2 = none) : pSh f n L k p = none := by
  cases k with
  | zero => rfl
  | succ k =>
    unfold pSh
    refine obM h (obM h2 ?_)
    rw [h3]; exact obN h4
theorem pSh_end (h : gClan f n L p = some a) (h2 : gNum f n L 1 9 a.2 = some b) (h3 : gSign f n L 59 b.2 = some q) : pSh f n L (k + 1) p = some ([(a.1, b.1)], q) := by
  unfold pSh
  refine obM h (obM h2 ?_)
  rw [h3]
theorem pSh_go (h : gClan f n L p = some a) (h2 : gNum f n L 1 9 a.2 = some b) (h3 : gSign f n L 59 b.2 = none) (h4 : gSign f n L 44 b.2 = some q) : pSh f n L (k + 1) p = (pSh f n L k q).bind fun r => some ((a.1, b.1) :: r.1, r.2) := by
  conv => lhs; unfold pSh
  refine obM h (obM h2 ?_)
  rw [h3]; exact obM h4 rfl
theorem pSh_fold {x : Option (List (Int × Int) × Int)} {sh : List (Int × Int)} {c : Int × Int} : ((x.bind fun r => some (c :: r.1, r.2)).bind fun r9 => some (sh ++ r9.1, r9.2)) = x.bind fun r9 => some ((sh ++ [c]) ++ r9.1, r9.2) := by
  cases x with
  | none => rfl
  | some r =>
    show some (sh ++ c :: r.1, r.2) = some ((sh ++ [c]) ++ r.1, r.2)
    rw [List.append_assoc]; rfl
theorem pText_end (h : (L p).1 = 0) : pText f n L k rs p = some rs := by
  cases k with
  | zero => unfold pText; rw [if_pos h]
  | succ k => unfold pText; rw [if_pos h]
theorem pText_no (h0 : ¬ (L p).1 = 0) (h : pRule f n L rs p = none) : pText f n L k rs p = none := by
  cases k with
  | zero => unfold pText; rw [if_neg h0]
  | succ k => unfold pText; rw [if_neg h0]; exact obN h
theorem pText_full (h0 : ¬ (L p).1 = 0) : pText f n L 0 rs p = none := by unfold pText; rw [if_neg h0]
theorem pText_go {x : Rl} (h0 : ¬ (L p).1 = 0) (h : pRule f n L rs p = some (x, q)) : pText f n L (k + 1) rs p = pText f n L k (rs ++ [x]) q := by
  conv => lhs; unfold pText
  rw [if_neg h0]; exact obM h rfl
/- which rule it is, by its word -/
theorem pRule_0 {e : Int} (h : gWord f n L wTurns p = some e) : pRule f n L rs p = pTurns f n L rs e := by unfold pRule; rw [h]
theorem pRule_1 {e : Int} (h0 : gWord f n L wTurns p = none) (h : gWord f n L wGuest p = some e) : pRule f n L rs p = pGuest f n L e := by unfold pRule; rw [h0, h]
theorem pRule_2 {e : Int} (h0 : gWord f n L wTurns p = none) (h1 : gWord f n L wGuest p = none) (h : gWord f n L wWed p = some e) : pRule f n L rs p = pWed f n L e := by unfold pRule; rw [h0, h1, h]
theorem pRule_3 {e : Int} (h0 : gWord f n L wTurns p = none) (h1 : gWord f n L wGuest p = none) (h2 : gWord f n L wWed p = none) (h : gWord f n L wDrought p = some e) : pRule f n L rs p = pDrought f n L e := by unfold pRule; rw [h0, h1, h2, h]
theorem pRule_4 {e : Int} (h0 : gWord f n L wTurns p = none) (h1 : gWord f n L wGuest p = none) (h2 : gWord f n L wWed p = none) (h3 : gWord f n L wDrought p = none) (h : gWord f n L wDry p = some e) : pRule f n L rs p = pDry f n L e := by unfold pRule; rw [h0, h1, h2, h3]; exact obM h rfl
theorem pRule_n (h0 : gWord f n L wTurns p = none) (h1 : gWord f n L wGuest p = none) (h2 : gWord f n L wWed p = none) (h3 : gWord f n L wDrought p = none) (h : gWord f n L wDry p = none) : pRule f n L rs p = none := by unfold pRule; rw [h0, h1, h2, h3]; exact obN h
end PZ5
/-- nothing changes in the laws -/
def lA (st u : gS) : Prop := ∀ k i j, 25 ≤ k → k ≤ 37 → (k = 25 → j < 100) → u k i j = st k i j
theorem lA.rf {st : gS} : lA st st := fun _ _ _ _ _ _ => rfl
theorem lA.trans {a b c : gS} (h1 : lA a b) (h2 : lA b c) : lA a c := fun k i j q1 q2 q3 => (h2 k i j q1 q2 q3).trans (h1 k i j q1 q2 q3)
theorem lA.upo {k i j : Nat} {a b : gS} {v : Int32} (h : lA a b) (hk : k < 25 ∨ 37 < k) : lA a (gU b k i j v) := fun k' i' j' q1 q2 q3 => by
  rw [gU_ne (fun e => by omega)]; exact h k' i' j' q1 q2 q3
theorem lA.frame {a b : gS} {fs : List Nat} (h : gF kX fs a b) (hf : ∀ q ∈ fs, q < 2500 ∨ 3799 < q) : lA a b := fun k i j q1 q2 q3 => lO.frame (z := i + 1 + (i / 6)) h hf k i j q1 q2 q3 (by split <;> omega)
theorem LXa.all {rs : List Rl} {st u : gS} {z : Nat} (h : LXa rs st z) (ha : lA st u) : LXa rs u z := h.oth (z := z + 1) (fun k i j q1 q2 q3 _ => ha k i j q1 q2 q3) (by omega)
theorem LXa.put0 {rs : List Rl} {st : gS} {z : Nat} {v : Int32} (h : LXa rs st z) : LXa rs (gU st 25 z 0 v) z := by
  have f : ∀ k, k ≠ 25 → ∀ i j, gU st 25 z 0 v k i j = st k i j := fun k hk i j => by rw [gU_k hk]
  exact ⟨h.1.rows (f 27 (by decide)) (f 28 (by decide)), h.2.1.rows (f 29 (by decide)), h.2.2.1.rows (f 30 (by decide)), h.2.2.2.1.rows (gU_other (by decide)) (f 31 (by decide)) (f 32 (by decide)) (f 33 (by decide)), h.2.2.2.2.rows (gU_other (by decide)) (f 34 (by decide)) (f 35 (by decide)) (f 36 (by decide)) (f 37 (by decide))⟩
theorem guT_le (rs : List Rl) : ((guT rs).length : Int) ≤ rs.length := by unfold guT; have := List.length_filter_le (fun r : Rl => decide (r.1 = 1)) rs; omega
theorem drT_le (rs : List Rl) : ((drT rs).length : Int) ≤ rs.length := by unfold drT; have := List.length_filter_le (fun r : Rl => decide (r.1 = 3)) rs; omega
theorem wf_t {w : Int} {sh : List (Int × Int)} (hw : 0 ≤ w ∧ w ≤ 5) (hl : sh.length ≤ 8) (hs : ∀ s ∈ sh, wfS s) (hne : sh ≠ []) : wfR (0, w, 0, 0, 0, sh) :=
  ⟨⟨Int.le_refl _, by show (0 : Int) ≤ 4; decide⟩, hw, ⟨Int.le_refl _, by show (0 : Int) ≤ 5; decide⟩, ⟨Int.le_refl _, by show (0 : Int) ≤ 5; decide⟩, ⟨Int.le_refl _, by show (0 : Int) ≤ 1000; decide⟩, hl, hs, fun _ => hne⟩
theorem wfS_app {sh : List (Int × Int)} {c : Int × Int} (hs : ∀ s ∈ sh, wfS s) (hc : wfS c) : ∀ s ∈ sh ++ [c], wfS s := fun s h => (List.mem_append.mp h).elim (hs s) (fun q => by rw [List.mem_singleton.mp q]; exact hc)
theorem wfR_app {rs : List Rl} {c : Rl} (hs : ∀ s ∈ rs, wfR s) (hc : wfR c) : ∀ s ∈ rs ++ [c], wfR s := fun s h => (List.mem_append.mp h).elim (hs s) (fun q => by rw [List.mem_singleton.mp q]; exact hc)
