/-! the text of rights, read purely: bytes, tokens, rules -/
/-- the byte at p of a tape of n bytes; -1 where there is none -/
def bA (f : Nat → Int32) (n p : Int) : Int := if 0 ≤ p ∧ p < n then (f p.toNat &&& 255).toInt else -1
theorem bA_rng (f : Nat → Int32) (n p : Int) : -1 ≤ bA f n p ∧ bA f n p ≤ 255 := by
  unfold bA
  split
  · obtain ⟨j, hj, e⟩ := pk_andE (f p.toNat) (m := 255) 8 (by decide)
    rw [e, nI_toInt (by omega)]
    omega
  · omega
theorem bA_no {f : Nat → Int32} {n p : Int} (h : p < 0 ∨ n ≤ p) : bA f n p = -1 := by
  unfold bA
  rw [if_neg (by omega)]
theorem bA_yes {f : Nat → Int32} {n p : Int} (h0 : 0 ≤ p) (h1 : p < n) : bA f n p = (f p.toNat &&& 255).toInt := by
  unfold bA
  rw [if_pos ⟨h0, h1⟩]
theorem bA_in {f : Nat → Int32} {n p : Int} (h : bA f n p ≠ -1) : 0 ≤ p ∧ p < n := by
  by_cases q : 0 ≤ p ∧ p < n
  · exact q
  · exact absurd (bA_no (by omega)) h
theorem bA_pos {f : Nat → Int32} {n p : Int} (h0 : 0 ≤ p) (h1 : p < n) : 0 ≤ bA f n p := by
  rw [bA_yes h0 h1]
  obtain ⟨j, hj, e⟩ := pk_andE (f p.toNat) (m := 255) 8 (by decide)
  rw [e, nI_toInt (by omega)]
  omega
abbrev isBl (c : Int) : Prop := c = 32 ∨ c = 10
abbrev isDg (c : Int) : Prop := 48 ≤ c ∧ c ≤ 57
abbrev isSm (c : Int) : Prop := 97 ≤ c ∧ c ≤ 122
abbrev isLt (c : Int) : Prop := (97 ≤ c ∧ c ≤ 122) ∨ (65 ≤ c ∧ c ≤ 90)
abbrev isSg (c : Int) : Prop := c = 58 ∨ c = 44 ∨ c = 59
def blB (c : Int) : Bool := decide (isBl c)
def dgB (c : Int) : Bool := decide (isDg c)
def smB (c : Int) : Bool := decide (isSm c)
def crB (c : Int) : Bool := decide (isDg c ∨ isLt c)
def mrB (c : Int) : Bool := decide (isSm c ∨ isDg c)
/-- from p on, as long as cl holds (below 800) -/
def tGo (f : Nat → Int32) (n : Int) (cl : Int → Bool) : Nat → Int → Int
  | 0, p => p
  | k + 1, p => if cl (bA f n p) = true then tGo f n cl k (p + 1) else p
def tEnd (f : Nat → Int32) (n : Int) (cl : Int → Bool) (p : Int) : Int := tGo f n cl (800 - p).toNat p
theorem tEnd_go {f : Nat → Int32} {n : Int} {cl : Int → Bool} {p : Int} (h : p < 800) (hc : cl (bA f n p) = true) : tEnd f n cl (p + 1) = tEnd f n cl p := by
  unfold tEnd
  obtain ⟨k, hk⟩ : ∃ k, (800 - p).toNat = k + 1 := ⟨(800 - p).toNat - 1, by omega⟩
  rw [hk, show (800 - (p + 1)).toNat = k by omega]
  show _ = if cl (bA f n p) = true then tGo f n cl k (p + 1) else p
  rw [if_pos hc]
theorem tEnd_no {f : Nat → Int32} {n : Int} {cl : Int → Bool} {p : Int} (hc : 800 ≤ p ∨ cl (bA f n p) = false) : tEnd f n cl p = p := by
  unfold tEnd
  cases hk : (800 - p).toNat with
  | zero => rfl
  | succ k =>
    show (if cl (bA f n p) = true then tGo f n cl k (p + 1) else p) = p
    rcases hc with hc | hc
    · omega
    · rw [if_neg (by rw [hc]; decide)]
theorem tGo_all {f : Nat → Int32} {n : Int} {cl : Int → Bool} : ∀ (k : Nat) (p : Int), p ≤ tGo f n cl k p ∧ tGo f n cl k p ≤ p + k ∧ (∀ q, p ≤ q → q < tGo f n cl k p → cl (bA f n q) = true) ∧ (tGo f n cl k p = p + k ∨ cl (bA f n (tGo f n cl k p)) = false)
  | 0, p => ⟨Int.le_refl _, by show p ≤ p + (0 : Nat); omega, fun q h1 h2 => absurd (Int.lt_of_le_of_lt h1 h2) (Int.lt_irrefl _), Or.inl (by show p = p + (0 : Nat); omega)⟩
  | k + 1, p => by
    have e : tGo f n cl (k + 1) p = if cl (bA f n p) = true then tGo f n cl k (p + 1) else p := rfl
    by_cases h : cl (bA f n p) = true
    · rw [if_pos h] at e
      obtain ⟨h1, h2, h3, h4⟩ := tGo_all (f := f) (n := n) (cl := cl) k (p + 1)
      rw [e]
      refine ⟨by omega, by omega, fun q q1 q2 => ?_, ?_⟩
      · by_cases e1 : q = p
        · rw [e1]; exact h
        · exact h3 q (by omega) q2
      · rcases h4 with h4 | h4
        · left; omega
        · right; exact h4
    · rw [if_neg h] at e
      rw [e]
      exact ⟨Int.le_refl _, by omega, fun q h1 h2 => absurd (Int.lt_of_le_of_lt h1 h2) (Int.lt_irrefl _), Or.inr (by simpa using h)⟩
theorem tEnd_le {f : Nat → Int32} {n : Int} {cl : Int → Bool} {p : Int} : p ≤ tEnd f n cl p := (tGo_all _ p).1
theorem tEnd_in {f : Nat → Int32} {n : Int} {cl : Int → Bool} {p q : Int} (h1 : p ≤ q) (h2 : q < tEnd f n cl p) : cl (bA f n q) = true := (tGo_all _ p).2.2.1 q h1 h2
theorem tEnd_out {f : Nat → Int32} {n : Int} {cl : Int → Bool} {p : Int} (hn : n ≤ 800) (hc : cl (-1) = false) : cl (bA f n (tEnd f n cl p)) = false := by
  rcases (tGo_all (f := f) (n := n) (cl := cl) (800 - p).toNat p).2.2.2 with h | h
  · have e : tEnd f n cl p = p + ((800 - p).toNat : Int) := h
    rw [bA_no (by omega)]; exact hc
  · exact h
theorem tEnd_eq {f : Nat → Int32} {n : Int} {cl : Int → Bool} {p e : Int} (hn : n ≤ 800) (hc : cl (-1) = false) (h1 : p ≤ e) (h2 : ∀ q, p ≤ q → q < e → cl (bA f n q) = true) (h3 : cl (bA f n e) = false) : tEnd f n cl p = e := by
  have a1 := tEnd_le (f := f) (n := n) (cl := cl) (p := p)
  have a2 := tEnd_out (f := f) (n := n) (cl := cl) (p := p) hn hc
  rcases Int.lt_trichotomy (tEnd f n cl p) e with h | h | h
  · rw [h2 _ a1 h] at a2; cases a2
  · exact h
  · rw [tEnd_in h1 h] at h3; cases h3
def ctI (cl : Int → Bool) (c : Int) : Int := if cl c = true then 1 else 0
/-- how many of the k bytes from s on are of cl; their value as a number -/
def ctT (f : Nat → Int32) (n : Int) (cl : Int → Bool) (s : Int) : Nat → Int
  | 0 => 0
  | k + 1 => ctT f n cl s k + ctI cl (bA f n (s + k))
def vlT (f : Nat → Int32) (n : Int) (s : Int) : Nat → Int
  | 0 => 0
  | k + 1 => vlT f n s k * 10 + (bA f n (s + k) - 48)
theorem ctT_rng {f : Nat → Int32} {n : Int} {cl : Int → Bool} {s : Int} : ∀ k : Nat, 0 ≤ ctT f n cl s k ∧ ctT f n cl s k ≤ k
  | 0 => ⟨Int.le_refl _, Int.le_refl _⟩
  | k + 1 => by
    have h := ctT_rng (f := f) (n := n) (cl := cl) (s := s) k
    have e : ctT f n cl s (k + 1) = ctT f n cl s k + (if cl (bA f n (s + k)) = true then 1 else 0) := rfl
    rw [e]
    split <;> omega
theorem ctT_all {f : Nat → Int32} {n : Int} {cl : Int → Bool} {s : Int} : ∀ k : Nat, ctT f n cl s k = k ↔ ∀ q, s ≤ q → q < s + k → cl (bA f n q) = true
  | 0 => ⟨fun _ q h1 h2 => absurd (Int.lt_of_le_of_lt h1 (by simpa using h2)) (Int.lt_irrefl _), fun _ => rfl⟩
  | k + 1 => by
    have h := ctT_all (f := f) (n := n) (cl := cl) (s := s) k
    have hr := ctT_rng (f := f) (n := n) (cl := cl) (s := s) k
    have e : ctT f n cl s (k + 1) = ctT f n cl s k + (if cl (bA f n (s + k)) = true then 1 else 0) := rfl
    rw [e]
    by_cases hc : cl (bA f n (s + k)) = true
    · rw [if_pos hc]
      constructor
      · intro h1 q q1 q2
        by_cases e1 : q = s + k
        · rw [e1]; exact hc
        · exact h.mp (by omega) q q1 (by omega)
      · intro h1
        have := h.mpr (fun q q1 q2 => h1 q q1 (by omega))
        omega
    · rw [if_neg hc]
      constructor
      · intro h1; omega
      · intro h1; exact absurd (h1 (s + k) (by omega) (by omega)) hc
/-- a token: its kind (0 the end, 1 no token, 2 a word, 3 a number, 4 a sign), from, to -/
def kdT (f : Nat → Int32) (n s e : Int) : Int := if ctT f n smB s (e - s).toNat = e - s then 2 else if ctT f n dgB s (e - s).toNat = e - s ∧ e - s ≤ 4 then 3 else 1
def cLex (f : Nat → Int32) (n p : Int) : Int × Int × Int :=
  let s := tEnd f n blB p
  let c := bA f n s
  if c = -1 then (0, s, s)
  else if isSg c then (4, s, s + 1)
  else if isDg c ∨ isLt c then (kdT f n s (tEnd f n crB s), s, tEnd f n crB s)
  else (1, s, s + 1)
def mLex (f : Nat → Int32) (n p : Int) : Int × Int × Int :=
  let s := tEnd f n blB p
  let c := bA f n s
  if c = -1 then (0, s, s)
  else if isSm c ∨ isDg c then (kdT f n s (tEnd f n mrB s), s, tEnd f n mrB s)
  else if isSg c then (4, s, s + 1)
  else (1, s, s + 1)
theorem kdT_run {f : Nat → Int32} {n s e : Int} (hse : s ≤ e) (h : kdT f n s e ≠ 1) : (∀ q, s ≤ q → q < e → smB (bA f n q) = true) ∨ (∀ q, s ≤ q → q < e → dgB (bA f n q) = true) := by
  unfold kdT at h
  have e1 : ((e - s).toNat : Int) = e - s := by omega
  by_cases h1 : ctT f n smB s (e - s).toNat = e - s
  · left; intro q q1 q2
    exact (ctT_all _).mp (by rw [h1, e1]) q q1 (by omega)
  · rw [if_neg h1] at h
    by_cases h2 : ctT f n dgB s (e - s).toNat = e - s ∧ e - s ≤ 4
    · right; intro q q1 q2
      exact (ctT_all _).mp (by rw [h2.1, e1]) q q1 (by omega)
    · rw [if_neg h2] at h; exact absurd rfl h
theorem kdT_vals (f : Nat → Int32) (n s e : Int) : kdT f n s e = 1 ∨ kdT f n s e = 2 ∨ kdT f n s e = 3 := by
  unfold kdT
  split
  · exact Or.inr (Or.inl rfl)
  · split
    · exact Or.inr (Or.inr rfl)
    · exact Or.inl rfl
theorem sm_mr {c : Int} (h : smB c = true) : mrB c = true := by unfold smB at h; unfold mrB; simp at h ⊢; omega
theorem dg_mr {c : Int} (h : dgB c = true) : mrB c = true := by unfold dgB at h; unfold mrB; simp at h ⊢; omega
theorem cr_mr {c : Int} (h : crB c = false) : mrB c = false := by unfold crB at h; unfold mrB; simp at h ⊢; omega
theorem mr_cr {c : Int} (h : mrB c = true) : crB c = true := by unfold mrB at h; unfold crB; simp at h ⊢; omega
theorem cLex_m {f : Nat → Int32} {n p : Int} (hn : n ≤ 800) (h : (cLex f n p).1 ≠ 1) : mLex f n p = cLex f n p := by
  unfold cLex at h ⊢
  unfold mLex
  obtain ⟨s, hs⟩ : ∃ s, s = tEnd f n blB p := ⟨_, rfl⟩
  rw [← hs] at h ⊢
  simp only at h ⊢
  by_cases h1 : bA f n s = -1
  · rw [if_pos h1, if_pos h1]
  · rw [if_neg h1] at h ⊢
    rw [if_neg h1]
    by_cases h2 : isSg (bA f n s)
    · rw [if_pos h2, if_neg (by omega), if_pos h2]
    · rw [if_neg h2] at h
      rw [if_neg h2, if_neg h2]
      by_cases h3 : isDg (bA f n s) ∨ isLt (bA f n s)
      · rw [if_pos h3] at h ⊢
        have hle := tEnd_le (f := f) (n := n) (cl := crB) (p := s)
        have hout := tEnd_out (f := f) (n := n) (cl := crB) (p := s) hn (by decide)
        have hrun : ∀ q, s ≤ q → q < tEnd f n crB s → mrB (bA f n q) = true := by
          rcases kdT_run hle h with hr | hr
          · exact fun q q1 q2 => sm_mr (hr q q1 q2)
          · exact fun q q1 q2 => dg_mr (hr q q1 q2)
        have he := tEnd_eq (cl := mrB) hn (by decide) hle hrun (cr_mr hout)
        have h4 : isSm (bA f n s) ∨ isDg (bA f n s) := by
          have h5 : s < tEnd f n crB s := by
            rcases Int.lt_or_le s (tEnd f n crB s) with q | q
            · exact q
            · have e1 : tEnd f n crB s = s := by omega
              rw [e1] at hout
              unfold crB at hout
              simp at hout
              omega
          have h6 := hrun s (Int.le_refl _) h5
          unfold mrB at h6
          simpa using h6
        rw [if_pos h4, he]
      · rw [if_neg h3] at h; exact absurd rfl h
theorem mLex_c {f : Nat → Int32} {n p : Int} (hn : n ≤ 800) (h : (mLex f n p).1 ≠ 1) (h9 : (mLex f n p).1 = 2 ∨ (mLex f n p).1 = 3 → (mLex f n (mLex f n p).2.2).1 ≠ 1) : cLex f n p = mLex f n p := by
  have hcap : ∀ e : Int, (mLex f n e).1 ≠ 1 → ¬ (65 ≤ bA f n e ∧ bA f n e ≤ 90) := by
    intro e h1 h2
    apply h1
    unfold mLex
    have e1 : tEnd f n blB e = e := tEnd_no (Or.inr (by unfold blB; simp; omega))
    rw [e1]
    simp only
    rw [if_neg (by omega), if_neg (by omega), if_neg (by omega)]
  obtain ⟨s, hs⟩ : ∃ s, s = tEnd f n blB p := ⟨_, rfl⟩
  by_cases h1 : bA f n s = -1
  · have e1 : mLex f n p = (0, s, s) := by unfold mLex; simp only; rw [← hs, if_pos h1]
    have e2 : cLex f n p = (0, s, s) := by unfold cLex; simp only; rw [← hs, if_pos h1]
    rw [e1, e2]
  · by_cases h2 : isSm (bA f n s) ∨ isDg (bA f n s)
    · have eM : mLex f n p = (kdT f n s (tEnd f n mrB s), s, tEnd f n mrB s) := by unfold mLex; simp only; rw [← hs, if_neg h1, if_pos h2]
      rw [eM] at h h9
      have hle := tEnd_le (f := f) (n := n) (cl := mrB) (p := s)
      have hout := tEnd_out (f := f) (n := n) (cl := mrB) (p := s) hn (by decide)
      have hk : kdT f n s (tEnd f n mrB s) = 2 ∨ kdT f n s (tEnd f n mrB s) = 3 := by
        rcases kdT_vals f n s (tEnd f n mrB s) with q | q | q
        · exact absurd q h
        · exact Or.inl q
        · exact Or.inr q
      have hc : ¬ (65 ≤ bA f n (tEnd f n mrB s) ∧ bA f n (tEnd f n mrB s) ≤ 90) := hcap _ (h9 hk)
      have he : tEnd f n crB s = tEnd f n mrB s := tEnd_eq hn (by decide) hle (fun q q1 q2 => mr_cr (tEnd_in q1 q2)) (decide_eq_false (by have := of_decide_eq_false hout; omega))
      rw [eM]
      unfold cLex
      simp only
      rw [← hs, if_neg h1, if_neg (by omega), if_pos (by omega), he]
    · by_cases h3 : isSg (bA f n s)
      · have e1 : mLex f n p = (4, s, s + 1) := by unfold mLex; simp only; rw [← hs, if_neg h1, if_neg h2, if_pos h3]
        have e2 : cLex f n p = (4, s, s + 1) := by unfold cLex; simp only; rw [← hs, if_neg h1, if_pos h3]
        rw [e1, e2]
      · have e1 : mLex f n p = (1, s, s + 1) := by unfold mLex; simp only; rw [← hs, if_neg h1, if_neg h2, if_neg h3]
        rw [e1] at h
        exact absurd rfl h
