/-! what closes the readers' walks -/
theorem dgI (c : Int) : (ctI dgB c = 1 ∧ 48 ≤ c ∧ c ≤ 57) ∨ (ctI dgB c = 0 ∧ (c < 48 ∨ 57 < c)) := by
  unfold ctI dgB
  by_cases h : isDg c
  · rw [if_pos (decide_eq_true h)]; exact Or.inl ⟨rfl, h⟩
  · rw [if_neg (by simpa using h)]; exact Or.inr ⟨rfl, by omega⟩
theorem smI (c : Int) : (ctI smB c = 1 ∧ 97 ≤ c ∧ c ≤ 122) ∨ (ctI smB c = 0 ∧ (c < 97 ∨ 122 < c)) := by
  unfold ctI smB
  by_cases h : isSm c
  · rw [if_pos (decide_eq_true h)]; exact Or.inl ⟨rfl, h⟩
  · rw [if_neg (by simpa using h)]; exact Or.inr ⟨rfl, by omega⟩
theorem blB_t {c : Int} (h : c = 32 ∨ c = 10) : blB c = true := decide_eq_true h
theorem blB_f {c : Int} (h : ¬ (c = 32 ∨ c = 10)) : blB c = false := decide_eq_false h
theorem crB_t {c : Int} (h : (48 ≤ c ∧ c ≤ 57) ∨ (97 ≤ c ∧ c ≤ 122) ∨ (65 ≤ c ∧ c ≤ 90)) : crB c = true := decide_eq_true h
theorem crB_f {c : Int} (h : ¬ ((48 ≤ c ∧ c ≤ 57) ∨ (97 ≤ c ∧ c ≤ 122) ∨ (65 ≤ c ∧ c ≤ 90))) : crB c = false := decide_eq_false h
theorem mrB_t {c : Int} (h : (97 ≤ c ∧ c ≤ 122) ∨ (48 ≤ c ∧ c ≤ 57)) : mrB c = true := decide_eq_true h
theorem mrB_f {c : Int} (h : ¬ ((97 ≤ c ∧ c ≤ 122) ∨ (48 ≤ c ∧ c ≤ 57))) : mrB c = false := decide_eq_false h
section PZ3
variable {f : Nat → Int32} {n p s e k a a' v : Int} {L : Lx} {lo hi c : Int} {w : List Int} {cl : Int → Bool}
theorem ctT_step (h0 : s ≤ a) (h1 : a' = a + 1) : ctT f n cl s (a' - s).toNat = ctT f n cl s (a - s).toNat + ctI cl (bA f n a) := by
  rw [show (a' - s).toNat = (a - s).toNat + 1 by omega]
  show ctT f n cl s (a - s).toNat + ctI cl (bA f n (s + ((a - s).toNat : Int))) = _
  rw [show s + ((a - s).toNat : Int) = a by omega]
theorem vlT_step (h0 : s ≤ a) (h1 : a' = a + 1) : vlT f n s (a' - s).toNat = vlT f n s (a - s).toNat * 10 + (bA f n a - 48) := by
  rw [show (a' - s).toNat = (a - s).toNat + 1 by omega]
  show vlT f n s (a - s).toNat * 10 + (bA f n (s + ((a - s).toNat : Int)) - 48) = _
  rw [show s + ((a - s).toNat : Int) = a by omega]
theorem vlT_rng : ∀ (k : Nat), (∀ q, s ≤ q → q < s + k → 48 ≤ bA f n q ∧ bA f n q ≤ 57) → 0 ≤ vlT f n s k ∧ vlT f n s k < 10 ^ k
  | 0, _ => ⟨Int.le_refl _, by show (0 : Int) < 1; omega⟩
  | k + 1, h => by
    have h1 := vlT_rng k (fun q q1 q2 => h q q1 (by omega))
    have h2 := h (s + k) (by omega) (by omega)
    have e1 : vlT f n s (k + 1) = vlT f n s k * 10 + (bA f n (s + k) - 48) := rfl
    have e2 : (10 : Int) ^ (k + 1) = 10 ^ k * 10 := Int.pow_succ 10 k
    rw [e1, e2]
    omega
theorem kdT_2 (h : ctT f n smB s (e - s).toNat = e - s) : kdT f n s e = 2 := by unfold kdT; rw [if_pos h]
theorem kdT_3 (h : ¬ ctT f n smB s (e - s).toNat = e - s) (h2 : ctT f n dgB s (e - s).toNat = e - s) (h3 : e - s ≤ 4) : kdT f n s e = 3 := by unfold kdT; rw [if_neg h, if_pos ⟨h2, h3⟩]
theorem kdT_1 (h : ¬ ctT f n smB s (e - s).toNat = e - s) (h2 : ¬ (ctT f n dgB s (e - s).toNat = e - s ∧ e - s ≤ 4)) : kdT f n s e = 1 := by unfold kdT; rw [if_neg h, if_neg h2]
theorem cLex_end (hs : tEnd f n blB p = s) (hc : bA f n s = -1) : cLex f n p = (0, s, s) := by
  unfold cLex; simp only; rw [hs, if_pos hc]
theorem cLex_sg (hs : tEnd f n blB p = s) (hc : bA f n s = 58 ∨ bA f n s = 44 ∨ bA f n s = 59) : cLex f n p = (4, s, s + 1) := by
  unfold cLex; simp only; rw [hs, if_neg (by omega), if_pos hc]
theorem cLex_run (hs : tEnd f n blB p = s) (hc : (48 ≤ bA f n s ∧ bA f n s ≤ 57) ∨ (97 ≤ bA f n s ∧ bA f n s ≤ 122) ∨ (65 ≤ bA f n s ∧ bA f n s ≤ 90)) (he : tEnd f n crB s = e) (hk : kdT f n s e = k) : cLex f n p = (k, s, e) := by
  unfold cLex; simp only; rw [hs, if_neg (by omega), if_neg (by omega), if_pos hc, he, hk]
theorem cLex_no (hs : tEnd f n blB p = s) (hc : ¬ bA f n s = -1) (h2 : ¬ (bA f n s = 58 ∨ bA f n s = 44 ∨ bA f n s = 59)) (h3 : ¬ ((48 ≤ bA f n s ∧ bA f n s ≤ 57) ∨ (97 ≤ bA f n s ∧ bA f n s ≤ 122) ∨ (65 ≤ bA f n s ∧ bA f n s ≤ 90))) : cLex f n p = (1, s, s + 1) := by
  unfold cLex; simp only; rw [hs, if_neg hc, if_neg h2, if_neg h3]
theorem cLex_num (h : cLex f n p = (3, s, e)) : s ≤ e ∧ e - s ≤ 4 ∧ ∀ q, s ≤ q → q < e → 48 ≤ bA f n q ∧ bA f n q ≤ 57 := by
  unfold cLex at h
  simp only at h
  split at h
  · have := congrArg Prod.fst h; simp at this
  · split at h
    · have := congrArg Prod.fst h; simp at this
    · split at h
      · have h1 : kdT f n (tEnd f n blB p) (tEnd f n crB (tEnd f n blB p)) = 3 := congrArg Prod.fst h
        have h2 : tEnd f n blB p = s := congrArg (fun x => x.2.1) h
        have h3 : tEnd f n crB (tEnd f n blB p) = e := congrArg (fun x => x.2.2) h
        rw [h3, h2] at h1
        have h4 : s ≤ e := by rw [← h3, h2]; exact tEnd_le
        unfold kdT at h1
        split at h1
        · omega
        · split at h1
          · next q =>
            refine ⟨h4, q.2, fun q2 b1 b2 => ?_⟩
            have e1 : ((e - s).toNat : Int) = e - s := by omega
            have h5 := (ctT_all (cl := dgB) (e - s).toNat).mp (by rw [q.1, e1]) q2 b1 (by omega)
            exact of_decide_eq_true h5
          · omega
      · have := congrArg Prod.fst h; simp at this
theorem gSign_yes (h : L p = (k, s, e)) (hk : k = 4) (hc : bA f n s = c) : gSign f n L c p = some e := by unfold gSign; rw [h]; exact if_pos ⟨hk, hc⟩
theorem gSign_no (h : L p = (k, s, e)) (hk : ¬ (k = 4 ∧ bA f n s = c)) : gSign f n L c p = none := by unfold gSign; rw [h]; exact if_neg hk
theorem gWord_yes (h : L p = (k, s, e)) (hk : k = 2) (hc : isW f n s e w) : gWord f n L w p = some e := by unfold gWord; rw [h]; exact if_pos ⟨hk, hc⟩
theorem gWord_no (h : L p = (k, s, e)) (hk : ¬ (k = 2 ∧ isW f n s e w)) : gWord f n L w p = none := by unfold gWord; rw [h]; exact if_neg hk
theorem gClan_yes (h : L p = (k, s, e)) (hk : k = 2) (h1 : e - s = 1) (h2 : 97 ≤ bA f n s) (h3 : bA f n s ≤ 102) (hv : bA f n s - 97 = v) : gClan f n L p = some (v, e) := by unfold gClan; rw [h, ← hv]; exact if_pos ⟨hk, h1, h2, h3⟩
theorem gClan_no (h : L p = (k, s, e)) (hk : ¬ (k = 2 ∧ e - s = 1 ∧ 97 ≤ bA f n s ∧ bA f n s ≤ 102)) : gClan f n L p = none := by unfold gClan; rw [h]; exact if_neg hk
theorem gNum_yes (h : L p = (k, s, e)) (hk : k = 3) (hv : vlT f n s (e - s).toNat = v) (h1 : lo ≤ v) (h2 : v ≤ hi) : gNum f n L lo hi p = some (v, e) := by unfold gNum tV; rw [h, ← hv]; exact if_pos ⟨hk, by rw [hv]; exact h1, by rw [hv]; exact h2⟩
theorem gNum_no (h : L p = (k, s, e)) (hk : ¬ (k = 3 ∧ lo ≤ vlT f n s (e - s).toNat ∧ vlT f n s (e - s).toNat ≤ hi)) : gNum f n L lo hi p = none := by unfold gNum tV; rw [h]; exact if_neg hk
end PZ3
theorem vlT_999 {f : Nat → Int32} {n s : Int} {k : Nat} (hk : k ≤ 3) (h : ∀ q, s ≤ q → q < s + k → 48 ≤ bA f n q ∧ bA f n q ≤ 57) : 0 ≤ vlT f n s k ∧ vlT f n s k ≤ 999 := by
  have h1 := vlT_rng k h
  rcases (show k = 0 ∨ k = 1 ∨ k = 2 ∨ k = 3 by omega) with rfl | rfl | rfl | rfl
  · have : (10 : Int) ^ 0 = 1 := by decide
    omega
  · have : (10 : Int) ^ 1 = 10 := by decide
    omega
  · have : (10 : Int) ^ 2 = 100 := by decide
    omega
  · have : (10 : Int) ^ 3 = 1000 := by decide
    omega
/-- the Reader's words as lists of ints -/
def wI (i : Nat) : List Int := (sxB.getD i []).map Int32.toInt
theorem wI_lenN : ∀ i, i < 9 → (wI i).length = sxL.getD i 0 := by decide +kernel
theorem wI_len (i : Nat) (hi : i < 9) : ((wI i).length : Int) = ((sxL.getD i 0 : Nat) : Int) := by rw [wI_lenN i hi]
theorem wI_get (i k : Nat) : (wI i).getD k 0 = ((sxB.getD i []).getD k 0).toInt := by
  unfold wI
  generalize sxB.getD i [] = l
  rw [List.getD_eq_getElem?_getD, List.getD_eq_getElem?_getD, List.getElem?_map]
  cases l[k]? with
  | none => show (0 : Int) = (0 : Int32).toInt; decide
  | some v => rfl
theorem wI_all : wI 0 = wTurns ∧ wI 1 = wGuest ∧ wI 2 = wWed ∧ wI 3 = wDrought ∧ wI 4 = wDry ∧ wI 5 = wAt ∧ wI 6 = wOf ∧ wI 7 = wBelow ∧ wI 8 = wTo := by decide +kernel
