/-! the reference's getters, out of its current token -/
theorem mTk_inv {k : Int} (h : k = 0 ∨ k = 1 ∨ k = 2 ∨ k = 3 ∨ k = 4) : (mTk k = 0 ↔ k = 0) ∧ (mTk k = 1 ↔ k = 2) ∧ (mTk k = 2 ↔ k = 3) ∧ (mTk k = 3 ↔ k = 4) ∧ (mTk k = 4 ↔ k = 1) := by
  rcases h with rfl | rfl | rfl | rfl | rfl <;> decide
theorem mCur.rows {f : Nat → Int32} {n p : Int} {st u : gS} (h : mCur f n p st) (h1 : u 0 0 11 = st 0 0 11) (h2 : u 0 0 12 = st 0 0 12) (h3 : u 0 0 14 = st 0 0 14) (h4 : u 0 0 17 = st 0 0 17) (h5 : u 0 0 59 = st 0 0 59) : mCur f n p u := by
  unfold mCur at *
  rw [h1, h2, h3, h4, h5]; exact h
section PZ7
variable {f : Nat → Int32} {n p c lo hi : Int} {st : gS} {w : List Int}
theorem mCur.stop (h : mCur f n p st) : (st 0 0 12).toInt = 0 ↔ (mLex f n p).1 = 0 := by rw [h.1]; exact (mTk_inv (mLex_vals f n p)).1
theorem mCur.s1 (h : mCur f n p st) (h1 : (st 0 0 12).toInt = 3) (h2 : (st 0 0 14).toInt = c) : gSign f n (mLex f n) c p = some (st 0 0 11).toInt := by
  have hk : (mLex f n p).1 = 4 := (mTk_inv (mLex_vals f n p)).2.2.2.1.mp (by rw [← h.1]; exact h1)
  rw [h.2.1]
  exact if_pos ⟨hk, by rw [← h.2.2.2.1 hk]; exact h2⟩
theorem mCur.s0 (h : mCur f n p st) (h1 : ¬ ((st 0 0 12).toInt = 3 ∧ (st 0 0 14).toInt = c)) : gSign f n (mLex f n) c p = none := by
  refine if_neg (fun q => h1 ⟨?_, ?_⟩)
  · rw [h.1]; exact (mTk_inv (mLex_vals f n p)).2.2.2.1.mpr q.1
  · rw [h.2.2.2.1 q.1]; exact q.2
theorem mCur.n1 (h : mCur f n p st) (h1 : (st 0 0 12).toInt = 2) (h2 : lo ≤ (st 0 0 14).toInt) (h3 : (st 0 0 14).toInt ≤ hi) : gNum f n (mLex f n) lo hi p = some ((st 0 0 14).toInt, (st 0 0 11).toInt) := by
  have hk : (mLex f n p).1 = 3 := (mTk_inv (mLex_vals f n p)).2.2.1.mp (by rw [← h.1]; exact h1)
  have hv := h.2.2.1 hk
  rw [h.2.1, hv]
  exact if_pos ⟨hk, by rw [← hv]; exact h2, by rw [← hv]; exact h3⟩
theorem mCur.n0 (h : mCur f n p st) (h1 : ¬ ((st 0 0 12).toInt = 2 ∧ lo ≤ (st 0 0 14).toInt ∧ (st 0 0 14).toInt ≤ hi)) : gNum f n (mLex f n) lo hi p = none := by
  refine if_neg (fun q => h1 ⟨?_, ?_, ?_⟩)
  · rw [h.1]; exact (mTk_inv (mLex_vals f n p)).2.2.1.mpr q.1
  · rw [h.2.2.1 q.1]; exact q.2.1
  · rw [h.2.2.1 q.1]; exact q.2.2
theorem mCur.w1 (hn : n ≤ 800) (h : mCur f n p st) (hw : ∀ c ∈ w, 1 ≤ c ∧ c ≤ 255) (hw8 : w.length ≤ 8) (hne : 0 < pkW w) (h1 : (st 0 0 12).toInt = 1) (h2 : lw (st 0 0 17) (st 0 0 59) = lN (pkW w)) : gWord f n (mLex f n) w p = some (st 0 0 11).toInt := by
  have hk : (mLex f n p).1 = 2 := (mTk_inv (mLex_vals f n p)).2.1.mp (by rw [← h.1]; exact h1)
  have hv := h.2.2.2.2 hk
  have hm := mLex_word hn hk
  rw [h.2.1]
  exact if_pos ⟨hk, (wd_eq rfl hw hw8 hne (Int.le_of_lt hm.1) hm.2).mp (by rw [← hv]; exact h2)⟩
theorem mCur.w0 (hn : n ≤ 800) (h : mCur f n p st) (hw : ∀ c ∈ w, 1 ≤ c ∧ c ≤ 255) (hw8 : w.length ≤ 8) (hne : 0 < pkW w) (h1 : ¬ ((st 0 0 12).toInt = 1 ∧ lw (st 0 0 17) (st 0 0 59) = lN (pkW w))) : gWord f n (mLex f n) w p = none := by
  refine if_neg (fun q => h1 ⟨?_, ?_⟩)
  · rw [h.1]; exact (mTk_inv (mLex_vals f n p)).2.1.mpr q.1
  · have hm := mLex_word hn q.1
    rw [h.2.2.2.2 q.1]
    exact (wd_eq rfl hw hw8 hne (Int.le_of_lt hm.1) hm.2).mpr q.2
end PZ7
theorem pkN_rng {f : Nat → Int32} {n s : Int} : ∀ k : Nat, (∀ i : Nat, i < k + 1 → 97 ≤ bA f n (s + (i : Int)) ∧ bA f n (s + (i : Int)) ≤ 122) → 97 * 256 ^ k ≤ pkN f n s (k + 1) ∧ pkN f n s (k + 1) < 123 * 256 ^ k
  | 0, h => by
    have h1 := h 0 (by omega)
    show 97 * 1 ≤ 0 * 256 + (bA f n (s + ((0 : Nat) : Int))).toNat ∧ 0 * 256 + (bA f n (s + ((0 : Nat) : Int))).toNat < 123 * 1
    omega
  | k + 1, h => by
    have h1 := pkN_rng (f := f) (n := n) (s := s) k (fun i hi => h i (by omega))
    have h2 := h (k + 1) (by omega)
    have e : pkN f n s (k + 1 + 1) = pkN f n s (k + 1) * 256 + (bA f n (s + ((k + 1 : Nat) : Int))).toNat := rfl
    rw [e, Nat.pow_succ]
    omega
theorem wd_clan {f : Nat → Int32} {n s e : Int} (hse : s < e) (hs : ∀ q, s ≤ q → q < e → 97 ≤ bA f n q ∧ bA f n q ≤ 122) : (97 ≤ (wdT f n s e).toInt ∧ (wdT f n s e).toInt ≤ 102 → e - s = 1 ∧ (wdT f n s e).toInt = bA f n s) ∧ (e - s = 1 → (wdT f n s e).toInt = bA f n s) := by
  obtain ⟨k, hk⟩ : ∃ k : Nat, (e - s).toNat = k + 1 := ⟨(e - s).toNat - 1, by omega⟩
  unfold wdT
  by_cases h8 : e - s ≤ 8
  · rw [if_pos h8, hk]
    have hr := pkN_rng (f := f) (n := n) (s := s) k (fun i hi => hs (s + (i : Int)) (by omega) (by omega))
    have hp : 256 ^ k ≤ 2 ^ 56 := by
      have : (256 : Nat) ^ k = 2 ^ (8 * k) := by rw [Nat.pow_mul]
      rw [this]
      exact Nat.pow_le_pow_right (by decide) (by omega)
    have ht : (lN (pkN f n s (k + 1))).toInt = ((pkN f n s (k + 1) : Nat) : Int) := lg_ofNat_toInt (by omega)
    rw [ht]
    have h1 : k = 0 → ((pkN f n s (k + 1) : Nat) : Int) = bA f n s := by
      rintro rfl
      have h2 := hs s (Int.le_refl _) hse
      show ((0 * 256 + (bA f n (s + ((0 : Nat) : Int))).toNat : Nat) : Int) = _
      rw [show s + ((0 : Nat) : Int) = s by omega]
      omega
    refine ⟨fun q => ?_, fun q => h1 (by omega)⟩
    have hk0 : k = 0 := by
      rcases Nat.eq_zero_or_pos k with q2 | q2
      · exact q2
      · have h3 : 256 ≤ 256 ^ k := by
          have := Nat.pow_le_pow_right (show 0 < 256 by decide) q2
          simpa using this
        omega
    exact ⟨by omega, h1 hk0⟩
  · rw [if_neg h8]
    have h0 : (0 : Int64).toInt = 0 := by decide
    exact ⟨fun q => by omega, fun q => by omega⟩
section PZ8
variable {f : Nat → Int32} {n p : Int} {st : gS}
theorem mCur.c1 (hn : n ≤ 800) (h : mCur f n p st) (h1 : (st 0 0 12).toInt = 1) (h2 : 97 ≤ (lw (st 0 0 17) (st 0 0 59)).toInt) (h3 : (lw (st 0 0 17) (st 0 0 59)).toInt ≤ 102) : gClan f n (mLex f n) p = some ((lw (st 0 0 17) (st 0 0 59)).toInt - 97, (st 0 0 11).toInt) := by
  have hk : (mLex f n p).1 = 2 := (mTk_inv (mLex_vals f n p)).2.1.mp (by rw [← h.1]; exact h1)
  have hv := h.2.2.2.2 hk
  have hm := mLex_word hn hk
  rw [hv] at h2 h3 ⊢
  obtain ⟨a1, a2⟩ := (wd_clan hm.1 hm.2).1 ⟨h2, h3⟩
  rw [h.2.1, a2]
  rw [a2] at h2 h3
  exact if_pos ⟨hk, a1, h2, h3⟩
theorem mCur.c0 (hn : n ≤ 800) (h : mCur f n p st) (h1 : ¬ ((st 0 0 12).toInt = 1 ∧ 97 ≤ (lw (st 0 0 17) (st 0 0 59)).toInt ∧ (lw (st 0 0 17) (st 0 0 59)).toInt ≤ 102)) : gClan f n (mLex f n) p = none := by
  refine if_neg (fun q => h1 ?_)
  have hm := mLex_word hn q.1
  have e := (wd_clan hm.1 hm.2).2 q.2.1
  rw [h.1, h.2.2.2.2 q.1, e]
  exact ⟨(mTk_inv (mLex_vals f n p)).2.1.mpr q.1, q.2.2⟩
end PZ8
