/-! both calendars together -/
theorem getD_ge : ∀ {l : List Int} {i : Nat}, (∀ c ∈ l, 0 ≤ c) → 0 ≤ l.getD i 0
  | [], _, _ => Int.le_refl 0
  | x :: _, 0, h => h x List.mem_cons_self
  | _ :: t, i + 1, h => getD_ge (l := t) (i := i) (fun c hc => h c (List.mem_cons_of_mem _ hc))
theorem ownT_ge {rs : List Rl} (hwf : ∀ r ∈ rs, wfR r) {w d : Int} : -1 ≤ ownT rs w d := by
  have h : ∀ c ∈ exT rs w, 0 ≤ c := fun c hc => by
    obtain ⟨r, hr, h1⟩ := List.mem_flatMap.mp hc
    split at h1
    · obtain ⟨s, hs, h2⟩ := List.mem_flatMap.mp h1
      rw [(List.mem_replicate.mp h2).2]
      exact ((hwf r hr).2.2.2.2.2.2.1 s hs).1.1
    · cases h1
  unfold ownT
  split
  · exact Int.le_refl _
  · have := getD_ge (i := (d % ((exT rs w).length : Int)).toNat) h; omega
theorem dryO_rng {rs : List Rl} (hwf : ∀ r ∈ rs, wfR r) {w m : Int} : dryO rs w m = -1 ∨ 0 ≤ dryO rs w m := by
  unfold dryO
  cases q : rs.find? (fun r => decide (r.1 = 3 ∧ r.2.1 = w ∧ m < r.2.2.2.2.1)) with
  | none => exact Or.inl rfl
  | some r => exact Or.inr (hwf r (List.mem_of_find?_eq_some q)).2.2.1.1
theorem own_dr {rs : List Rl} {mx mm wl o n : Nat → Int32} {ow : Nat → Nat → Int} {ux : gS} {D : Int} (hwf : ∀ r ∈ rs, wfR r) (hs : stC rs mx ow ux D) (hd : drL rs o n wl mm D 6) (h0 : 0 ≤ D) (h9 : D ≤ 199) (ho : ∀ w d : Nat, w < 6 → d < 200 → ow w d = (o (200 * w + d)).toInt) (hm : ∀ w : Nat, w < 6 → (¬ (wl w).toInt = 0 → mx w = mm w ∧ 0 ≤ (mm w).toInt) ∧ ((wl w).toInt = 0 → (mx w).toInt = -1)) : ∀ w d : Nat, w < 6 → d < 200 → (ux 11 w d).toInt = (n (200 * w + d)).toInt := fun w d hw hd9 => by
  rw [(hs w hw).2 d hd9, hd w d hw hd9]
  by_cases q : (d : Int) = D
  · rw [if_pos q]
    unfold sP dryD
    by_cases q2 : (wl w).toInt = 0
    · rw [if_pos ((hm w hw).2 q2), if_pos rfl, if_neg (fun z => z.2.2.1 q2), show D.toNat = d by omega]
      exact ho w d hw hd9
    · obtain ⟨e, e2⟩ := (hm w hw).1 q2
      rw [e, if_neg (show ¬ (mm w).toInt = -1 by omega)]
      rcases dryO_rng (w := w) (m := (mm w).toInt) hwf with h | h
      · rw [if_pos h, if_neg (fun z => by omega), show D.toNat = d by omega]; exact ho w d hw hd9
      · rw [if_neg (by omega), if_pos ⟨by omega, q, q2, h⟩]
  · rw [if_neg q, if_neg (fun z => q z.2.1)]; exact ho w d hw hd9
theorem orn_st {rs : List Rl} {mx : Nat → Int32} {ow : Nat → Nat → Int} {ux : gS} {D : Int} (hwf : ∀ r ∈ rs, wfR r) (hs : stC rs mx ow ux D) (h0 : 0 ≤ D) (h9 : D ≤ 199) (ho : ∀ w d : Nat, w < 6 → d < 200 → -1 ≤ ow w d) : ∀ w d : Nat, w < 6 → d < 200 → -1 ≤ (ux 11 w d).toInt := fun w d hw hd => by
  rw [(hs w hw).2 d hd]
  split
  · unfold sP dryD
    have h1 := ho w D.toNat hw (by omega)
    have h2 := dryO_rng (w := w) (m := (mx w).toInt) hwf
    by_cases q : (mx w).toInt = -1
    · rw [if_pos q, if_pos rfl]; exact h1
    · rw [if_neg q]
      split
      · exact h1
      · omega
  · exact ho w d hw hd
theorem now_st {rs : List Rl} {mx : Nat → Int32} {ow : Nat → Nat → Int} {ux : gS} {D : Int} {z : Int32} (hs : stC rs mx ow ux D) (h0 : 0 ≤ D) (h9 : D ≤ 199) (hz : z.toInt = D) : ∀ w : Nat, w < 6 → (ux 15 15 w).toInt = (ux 11 w z.toNatClampNeg).toInt := fun w hw => by
  have c := gs_cl (x := z) (by omega)
  rw [(hs w hw).1, (hs w hw).2 _ (by omega), if_pos (by omega)]
theorem gwI.same {wl wl2 : Nat → Prop} {l r c o n n2 : Nat → Int32} {k : Int} (h1 : gwI wl l r c o n k) (h2 : gwI wl2 l r c o n2 k) (hw : ∀ w, wl w ↔ wl2 w) : n = n2 := funext fun w => by
  by_cases q : (w : Int) < k ∧ wl w
  · rw [(h1 w).1 q.1 q.2, (h2 w).1 q.1 ((hw w).mp q.2)]
  · rw [(h1 w).2 q, (h2 w).2 (fun z => q ⟨z.1, (hw w).mpr z.2⟩)]
theorem gwF_rng {l r c : Int32} (hc : 0 < c.toInt) (hc2 : c.toInt ≤ 1000) (hr : 0 ≤ r.toInt ∧ r.toInt ≤ 200) (hl : 0 ≤ l.toInt ∧ l.toInt ≤ 1000) : 0 ≤ (gwF l r c).toInt ∧ (gwF l r c).toInt ≤ 1000 := by
  have h : (l + r).toInt = l.toInt + r.toInt := gz_addI rfl rfl (by omega) (by omega)
  unfold gwF
  split
  · omega
  · next q => have := Int.not_lt.mp (fun z => q (Int32.lt_iff_toInt_lt.mpr z)); omega
