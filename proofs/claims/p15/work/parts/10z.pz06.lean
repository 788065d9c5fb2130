/-! the reference's reading: packed words, its current token -/
def pkN (f : Nat → Int32) (n s : Int) : Nat → Nat
  | 0 => 0
  | k + 1 => pkN f n s k * 256 + (bA f n (s + (k : Int))).toNat
def pkW (w : List Int) : Nat := w.foldl (fun a c => a * 256 + c.toNat) 0
theorem pkW_app (w : List Int) (c : Int) : pkW (w ++ [c]) = pkW w * 256 + c.toNat := by unfold pkW; rw [List.foldl_append]; rfl
theorem getI_app {l : List Int} {x : Int} {i : Nat} (h : i < (l ++ [x]).length) : (i < l.length ∧ (l ++ [x]).getD i 0 = l.getD i 0) ∨ (i = l.length ∧ (l ++ [x]).getD i 0 = x) := by
  rw [List.length_append, List.length_singleton] at h
  by_cases h1 : i < l.length
  · left; refine ⟨h1, ?_⟩
    rw [List.getD_eq_getElem?_getD, List.getD_eq_getElem?_getD, List.getElem?_append_left h1]
  · right
    have h2 : i = l.length := by omega
    refine ⟨h2, ?_⟩
    rw [List.getD_eq_getElem?_getD, h2, List.getElem?_append_right (Nat.le_refl _), Nat.sub_self]
    rfl
theorem pk_iff {f : Nat → Int32} {n s : Int} : ∀ (k : Nat) (w : List Int), (∀ i : Nat, i < k → 1 ≤ bA f n (s + (i : Int)) ∧ bA f n (s + (i : Int)) ≤ 255) → (∀ c ∈ w, 1 ≤ c ∧ c ≤ 255) → (pkN f n s k = pkW w ↔ (k = w.length ∧ ∀ i : Nat, i < w.length → bA f n (s + (i : Int)) = w.getD i 0))
  | 0, w, _, hw => by
    rcases List.eq_nil_or_concat w with rfl | ⟨l, c, rfl⟩
    · exact ⟨fun _ => ⟨rfl, fun i hi => absurd hi (Nat.not_lt_zero _)⟩, fun _ => rfl⟩
    · rw [List.concat_eq_append] at hw ⊢
      have h1 := hw c (List.mem_append_right _ (List.mem_singleton.mpr rfl))
      rw [pkW_app, List.length_append, List.length_singleton]
      show 0 = _ ↔ _
      constructor
      · intro h; omega
      · intro h; omega
  | k + 1, w, hs, hw => by
    have hk := hs k (by omega)
    have e : pkN f n s (k + 1) = pkN f n s k * 256 + (bA f n (s + (k : Int))).toNat := rfl
    rcases List.eq_nil_or_concat w with rfl | ⟨l, c, rfl⟩
    · rw [e]
      show _ = 0 ↔ k + 1 = 0 ∧ _
      constructor
      · intro h; omega
      · intro h; omega
    · rw [List.concat_eq_append] at hw ⊢
      have h1 := hw c (List.mem_append_right _ (List.mem_singleton.mpr rfl))
      have ih := pk_iff (f := f) (n := n) (s := s) k l (fun i hi => hs i (by omega)) (fun x hx => hw x (List.mem_append_left _ hx))
      rw [e, pkW_app]
      constructor
      · intro h
        have a1 : pkN f n s k = pkW l := by omega
        have a2 : bA f n (s + (k : Int)) = c := by omega
        obtain ⟨b1, b2⟩ := ih.mp a1
        refine ⟨by rw [List.length_append, List.length_singleton]; omega, fun i hi => ?_⟩
        rcases getI_app hi with ⟨q1, q2⟩ | ⟨q1, q2⟩
        · rw [q2]; exact b2 i q1
        · rw [q2, q1, ← b1]; exact a2
      · rintro ⟨h2, h3⟩
        rw [List.length_append, List.length_singleton] at h2
        have b1 : k = l.length := by omega
        have a1 : pkN f n s k = pkW l := ih.mpr ⟨b1, fun i hi => by
          have h4 := h3 i (by rw [List.length_append, List.length_singleton]; omega)
          rcases getI_app (x := c) (show i < (l ++ [c]).length by rw [List.length_append, List.length_singleton]; omega) with ⟨q1, q2⟩ | ⟨q1, q2⟩
          · rw [h4, q2]
          · omega⟩
        have a2 : bA f n (s + (k : Int)) = c := by
          have h4 := h3 k (by rw [List.length_append, List.length_singleton]; omega)
          rcases getI_app (x := c) (show k < (l ++ [c]).length by rw [List.length_append, List.length_singleton]; omega) with ⟨q1, q2⟩ | ⟨q1, q2⟩
          · omega
          · rw [h4, q2]
        rw [a1, a2]
theorem pkN_lt {f : Nat → Int32} {n s : Int} : ∀ k : Nat, pkN f n s k < 256 ^ k
  | 0 => by show 0 < 1; decide
  | k + 1 => by
    have h := pkN_lt (f := f) (n := n) (s := s) k
    have h2 := (bA_rng f n (s + (k : Int))).2
    have e : pkN f n s (k + 1) = pkN f n s k * 256 + (bA f n (s + (k : Int))).toNat := rfl
    rw [e, Nat.pow_succ]
    omega
theorem pkW_lt : ∀ (w : List Int) (a : Nat), (∀ c ∈ w, 1 ≤ c ∧ c ≤ 255) → w.foldl (fun a c => a * 256 + c.toNat) a < (a + 1) * 256 ^ w.length
  | [], a, _ => by show a < (a + 1) * 1; omega
  | c :: t, a, h => by
    have h1 := h c List.mem_cons_self
    have h2 := pkW_lt t (a * 256 + c.toNat) (fun x hx => h x (List.mem_cons_of_mem _ hx))
    show t.foldl (fun a c => a * 256 + c.toNat) (a * 256 + c.toNat) < (a + 1) * 256 ^ (t.length + 1)
    have h3 : (a * 256 + c.toNat + 1) * 256 ^ t.length ≤ ((a + 1) * 256) * 256 ^ t.length := Nat.mul_le_mul_right _ (by omega)
    rw [Nat.pow_succ, Nat.mul_comm (256 ^ t.length) 256, ← Nat.mul_assoc]
    exact Nat.lt_of_lt_of_le h2 h3
theorem pk_256 {k : Nat} (h : k ≤ 8) : 256 ^ k ≤ 2 ^ 64 := by
  have : (256 : Nat) ^ k = 2 ^ (8 * k) := by rw [Nat.pow_mul]
  rw [this]
  exact Nat.pow_le_pow_right (by decide) (by omega)
/-- a byte more behind a packed word -/
theorem pk_step {f : Nat → Int32} {n s : Int} {k : Nat} {r : Int32} (hk : k < 8) (hr : r.toInt = bA f n (s + (k : Int))) (h0 : 0 ≤ r.toInt) : (lN (pkN f n s k) <<< ((8 : Int32).toInt64 &&& 63)) ||| r.toInt64 = lN (pkN f n s (k + 1)) := by
  have hb := (bA_rng f n (s + (k : Int))).2
  obtain ⟨b, hb2, e⟩ : ∃ b : Nat, b < 256 ∧ r = nI b := ⟨r.toNatClampNeg, by have := gs_cl h0; omega, by
    apply Int32.toInt_inj.mp
    have := gs_cl h0
    rw [nI_toInt (by omega), this]⟩
  have e8 : (8 : Int32) = nI 8 := by decide
  have hlt := pkN_lt (f := f) (n := n) (s := s) k
  have h7 : 256 ^ k ≤ 2 ^ 56 := by
    have : (256 : Nat) ^ k = 2 ^ (8 * k) := by rw [Nat.pow_mul]
    rw [this]
    exact Nat.pow_le_pow_right (by decide) (by omega)
  rw [e8, wb_shl _ (by decide), e, nI_l (by omega), wb_or (by omega) (by omega)]
  congr 1
  have h1 : pkN f n s (k + 1) = pkN f n s k * 256 + (bA f n (s + (k : Int))).toNat := rfl
  have h2 : (bA f n (s + (k : Int))).toNat = b := by
    rw [← hr, e, nI_toInt (by omega)]
    omega
  rw [h1, h2]
  have h3 := Nat.shiftLeft_add_eq_or_of_lt (i := 8) (b := b) (by omega) (pkN f n s k)
  rw [Nat.shiftLeft_eq] at h3
  rw [← h3]
/-- the word of a token, packed as the reference packs it -/
def wdT (f : Nat → Int32) (n s e : Int) : Int64 := if e - s ≤ 8 then lN (pkN f n s (e - s).toNat) else 0
theorem wd_eq {f : Nat → Int32} {n s e : Int} {w : List Int} {C : Nat} (hC : C = pkW w) (hw : ∀ c ∈ w, 1 ≤ c ∧ c ≤ 255) (hw8 : w.length ≤ 8) (hne : 0 < C) (hse : s ≤ e) (hs : ∀ q, s ≤ q → q < e → 97 ≤ bA f n q ∧ bA f n q ≤ 122) : wdT f n s e = lN C ↔ isW f n s e w := by
  have hlt : C < 2 ^ 64 := by
    have h1 : ∀ w : List Int, (∀ c ∈ w, 1 ≤ c ∧ c ≤ 255) → pkW w < 256 ^ w.length := fun w h => by
      have := pkW_lt w 0 h
      rw [Nat.zero_add, Nat.one_mul] at this
      exact this
    have h2 := h1 w hw
    have h3 := pk_256 hw8
    omega
  unfold wdT isW
  by_cases h8 : e - s ≤ 8
  · rw [if_pos h8]
    have hl := pkN_lt (f := f) (n := n) (s := s) (e - s).toNat
    have hl2 := pk_256 (k := (e - s).toNat) (by omega)
    have inj : lN (pkN f n s (e - s).toNat) = lN C ↔ pkN f n s (e - s).toNat = C := ⟨fun h => by
      have h1 : (lN (pkN f n s (e - s).toNat)).toBitVec.toNat = (lN C).toBitVec.toNat := congrArg (fun x : Int64 => x.toBitVec.toNat) h
      rw [wb_tn (by omega), wb_tn hlt] at h1
      exact h1, fun h => by rw [h]⟩
    rw [inj, hC, pk_iff _ w (fun i hi => by have := hs (s + (i : Int)) (by omega) (by omega); omega) hw]
    constructor
    · rintro ⟨a1, a2⟩; exact ⟨by omega, a2⟩
    · rintro ⟨a1, a2⟩; exact ⟨by omega, a2⟩
  · rw [if_neg h8]
    constructor
    · intro h
      have h1 : (0 : Int64).toBitVec.toNat = (lN C).toBitVec.toNat := congrArg (fun x : Int64 => x.toBitVec.toNat) h
      rw [wb_tn hlt] at h1
      have h2 : (0 : Int64).toBitVec.toNat = 0 := by decide
      omega
    · rintro ⟨a1, a2⟩; omega
/-- the reference's number for a kind of token -/
def mTk (k : Int) : Int := if k = 0 then 0 else if k = 1 then 4 else if k = 2 then 1 else if k = 3 then 2 else 3
/-- the reference stands at the token that begins at p or behind it -/
def mCur (f : Nat → Int32) (n p : Int) (st : gS) : Prop := (st 0 0 12).toInt = mTk (mLex f n p).1 ∧ (st 0 0 11).toInt = (mLex f n p).2.2 ∧ ((mLex f n p).1 = 3 → (st 0 0 14).toInt = tV f n (mLex f n p)) ∧ ((mLex f n p).1 = 4 → (st 0 0 14).toInt = bA f n (mLex f n p).2.1) ∧ ((mLex f n p).1 = 2 → lw (st 0 0 17) (st 0 0 59) = wdT f n (mLex f n p).2.1 (mLex f n p).2.2)
section PZ6
variable {f : Nat → Int32} {n p s e k : Int}
theorem mLex_end (hs : tEnd f n blB p = s) (hc : bA f n s = -1) : mLex f n p = (0, s, s) := by
  unfold mLex; simp only; rw [hs, if_pos hc]
theorem mLex_run (hs : tEnd f n blB p = s) (hc : (97 ≤ bA f n s ∧ bA f n s ≤ 122) ∨ (48 ≤ bA f n s ∧ bA f n s ≤ 57)) (he : tEnd f n mrB s = e) (hk : kdT f n s e = k) : mLex f n p = (k, s, e) := by
  unfold mLex; simp only; rw [hs, if_neg (by omega), if_pos hc, he, hk]
theorem mLex_sg (hs : tEnd f n blB p = s) (hc : bA f n s = 58 ∨ bA f n s = 44 ∨ bA f n s = 59) : mLex f n p = (4, s, s + 1) := by
  unfold mLex; simp only; rw [hs, if_neg (by omega), if_neg (by omega), if_pos hc]
theorem mLex_no (hs : tEnd f n blB p = s) (hc : ¬ bA f n s = -1) (h2 : ¬ (bA f n s = 58 ∨ bA f n s = 44 ∨ bA f n s = 59)) (h3 : ¬ ((97 ≤ bA f n s ∧ bA f n s ≤ 122) ∨ (48 ≤ bA f n s ∧ bA f n s ≤ 57))) : mLex f n p = (1, s, s + 1) := by
  unfold mLex; simp only; rw [hs, if_neg hc, if_neg h3, if_neg h2]
theorem mLex_vals (f : Nat → Int32) (n p : Int) : (mLex f n p).1 = 0 ∨ (mLex f n p).1 = 1 ∨ (mLex f n p).1 = 2 ∨ (mLex f n p).1 = 3 ∨ (mLex f n p).1 = 4 := by
  unfold mLex
  simp only
  split
  · exact Or.inl rfl
  · split
    · rcases kdT_vals f n (tEnd f n blB p) (tEnd f n mrB (tEnd f n blB p)) with q | q | q
      · exact Or.inr (Or.inl q)
      · exact Or.inr (Or.inr (Or.inl q))
      · exact Or.inr (Or.inr (Or.inr (Or.inl q)))
    · split
      · exact Or.inr (Or.inr (Or.inr (Or.inr rfl)))
      · exact Or.inr (Or.inl rfl)
/-- a word of the reference: small letters, one at least -/
theorem mLex_word (hn : n ≤ 800) (h : (mLex f n p).1 = 2) : (mLex f n p).2.1 < (mLex f n p).2.2 ∧ ∀ q, (mLex f n p).2.1 ≤ q → q < (mLex f n p).2.2 → 97 ≤ bA f n q ∧ bA f n q ≤ 122 := by
  obtain ⟨s, hs⟩ : ∃ s, tEnd f n blB p = s := ⟨_, rfl⟩
  by_cases h1 : bA f n s = -1
  · rw [mLex_end hs h1] at h; exact absurd (show (0 : Int) = 2 from h) (by decide)
  · by_cases h2 : (97 ≤ bA f n s ∧ bA f n s ≤ 122) ∨ (48 ≤ bA f n s ∧ bA f n s ≤ 57)
    · have e := mLex_run (k := kdT f n s (tEnd f n mrB s)) hs h2 rfl rfl
      rw [e] at h ⊢
      have hk : kdT f n s (tEnd f n mrB s) = 2 := h
      have hle := tEnd_le (f := f) (n := n) (cl := mrB) (p := s)
      have hlt : s < tEnd f n mrB s := by
        rcases Int.lt_or_le s (tEnd f n mrB s) with q | q
        · exact q
        · have e1 : tEnd f n mrB s = s := by omega
          have h3 := tEnd_out (f := f) (n := n) (cl := mrB) (p := s) hn (by decide)
          rw [e1] at h3
          exact absurd h2 (of_decide_eq_false h3)
      refine ⟨hlt, fun q q1 q2 => ?_⟩
      have q1 : s ≤ q := q1
      have q2 : q < tEnd f n mrB s := q2
      unfold kdT at hk
      have e1 : ((tEnd f n mrB s - s).toNat : Int) = tEnd f n mrB s - s := by omega
      split at hk
      · next h4 =>
        have h5 := (ctT_all (cl := smB) (tEnd f n mrB s - s).toNat).mp (by rw [h4, e1]) q q1 (by omega)
        exact of_decide_eq_true h5
      · split at hk
        · omega
        · omega
    · by_cases h3 : bA f n s = 58 ∨ bA f n s = 44 ∨ bA f n s = 59
      · rw [mLex_sg hs h3] at h; exact absurd (show (4 : Int) = 2 from h) (by decide)
      · rw [mLex_no hs h1 h3 h2] at h; exact absurd (show (1 : Int) = 2 from h) (by decide)
theorem ctT_dis : ∀ k : Nat, ctT f n smB s k + ctT f n dgB s k ≤ k
  | 0 => Int.le_refl _
  | k + 1 => by
    have h := ctT_dis k
    have a := smI (bA f n (s + (k : Int)))
    have b := dgI (bA f n (s + (k : Int)))
    have e1 : ctT f n smB s (k + 1) = ctT f n smB s k + ctI smB (bA f n (s + (k : Int))) := rfl
    have e2 : ctT f n dgB s (k + 1) = ctT f n dgB s k + ctI dgB (bA f n (s + (k : Int))) := rfl
    rw [e1, e2]
    omega
theorem vlT_b {k : Nat} (hk : k ≤ 3) (h : ∀ q, s ≤ q → q < s + k → 48 ≤ bA f n q ∧ bA f n q ≤ 122) : 0 ≤ vlT f n s k ∧ vlT f n s k ≤ 9000 := by
  rcases (show k = 0 ∨ k = 1 ∨ k = 2 ∨ k = 3 by omega) with rfl | rfl | rfl | rfl
  · exact ⟨Int.le_refl _, by show (0 : Int) ≤ 9000; decide⟩
  · have a := h (s + (0 : Nat)) (by omega) (by omega)
    show 0 ≤ (0 : Int) * 10 + (bA f n (s + (0 : Nat)) - 48) ∧ (0 : Int) * 10 + (bA f n (s + (0 : Nat)) - 48) ≤ 9000
    omega
  · have a := h (s + (0 : Nat)) (by omega) (by omega)
    have b := h (s + (1 : Nat)) (by omega) (by omega)
    show 0 ≤ ((0 : Int) * 10 + (bA f n (s + (0 : Nat)) - 48)) * 10 + (bA f n (s + (1 : Nat)) - 48) ∧ ((0 : Int) * 10 + (bA f n (s + (0 : Nat)) - 48)) * 10 + (bA f n (s + (1 : Nat)) - 48) ≤ 9000
    omega
  · have a := h (s + (0 : Nat)) (by omega) (by omega)
    have b := h (s + (1 : Nat)) (by omega) (by omega)
    have c := h (s + (2 : Nat)) (by omega) (by omega)
    show 0 ≤ (((0 : Int) * 10 + (bA f n (s + (0 : Nat)) - 48)) * 10 + (bA f n (s + (1 : Nat)) - 48)) * 10 + (bA f n (s + (2 : Nat)) - 48) ∧ (((0 : Int) * 10 + (bA f n (s + (0 : Nat)) - 48)) * 10 + (bA f n (s + (1 : Nat)) - 48)) * 10 + (bA f n (s + (2 : Nat)) - 48) ≤ 9000
    omega
end PZ6
theorem mCur_mk {f : Nat → Int32} {n p s e k : Int} {st : gS} (h : mLex f n p = (k, s, e)) (h1 : (st 0 0 12).toInt = mTk k) (h2 : (st 0 0 11).toInt = e) (h3 : k = 3 → (st 0 0 14).toInt = vlT f n s (e - s).toNat) (h4 : k = 4 → (st 0 0 14).toInt = bA f n s) (h5 : k = 2 → lw (st 0 0 17) (st 0 0 59) = wdT f n s e) : mCur f n p st := by
  unfold mCur tV
  rw [h]
  exact ⟨h1, h2, h3, h4, h5⟩
theorem ctT_n {f : Nat → Int32} {n s k : Int} {cl : Int → Bool} (h : 0 ≤ k) : ctT f n cl s (k + 1).toNat = ctT f n cl s k.toNat + ctI cl (bA f n (s + k)) := by
  rw [show (k + 1).toNat = k.toNat + 1 by omega]
  show ctT f n cl s k.toNat + ctI cl (bA f n (s + (k.toNat : Int))) = _
  rw [show (k.toNat : Int) = k by omega]
theorem vlT_n {f : Nat → Int32} {n s k : Int} (h : 0 ≤ k) : vlT f n s (k + 1).toNat = vlT f n s k.toNat * 10 + (bA f n (s + k) - 48) := by
  rw [show (k + 1).toNat = k.toNat + 1 by omega]
  show vlT f n s k.toNat * 10 + (bA f n (s + (k.toNat : Int)) - 48) = _
  rw [show (k.toNat : Int) = k by omega]
/-- the first byte of a run; whether the run is of one kind so far -/
def SMp (f : Nat → Int32) (n s sm : Int) : Prop := (sm = 1 ∧ 97 ≤ bA f n s ∧ bA f n s ≤ 122) ∨ (sm = 0 ∧ 48 ≤ bA f n s ∧ bA f n s ≤ 57)
def ISp (f : Nat → Int32) (n s is sm k : Int) : Prop := (is = 1 ∧ ((sm = 1 ∧ ctT f n smB s k.toNat = k) ∨ (sm = 0 ∧ ctT f n dgB s k.toNat = k))) ∨ (is = 0 ∧ ¬ ctT f n smB s k.toNat = k ∧ ¬ ctT f n dgB s k.toNat = k)
section PZ6b
variable {f : Nat → Int32} {n s sm is k c e : Int}
theorem SMp.two (h : SMp f n s sm) : sm = 0 ∨ sm = 1 := by unfold SMp at h; omega
theorem SMp.mr (h : SMp f n s sm) : (97 ≤ bA f n s ∧ bA f n s ≤ 122) ∨ (48 ≤ bA f n s ∧ bA f n s ≤ 57) := by unfold SMp at h; omega
theorem SMp.pos (h : SMp f n s sm) (h0 : 0 ≤ k) (ho : ¬ ((97 ≤ bA f n (s + k) ∧ bA f n (s + k) ≤ 122) ∨ (48 ≤ bA f n (s + k) ∧ bA f n (s + k) ≤ 57))) : 1 ≤ k := by
  rcases Int.lt_or_le 0 k with q | q
  · omega
  · have e : s + k = s := by omega
    rw [e] at ho
    exact absurd h.mr ho
theorem ISp.new (h : SMp f n s sm) : ISp f n s 1 sm 0 := by
  rcases h with h | h
  · exact Or.inl ⟨rfl, Or.inl ⟨h.1, rfl⟩⟩
  · exact Or.inl ⟨rfl, Or.inr ⟨h.1, rfl⟩⟩
theorem ISp.one (h0 : 0 ≤ k) (h : ISp f n s is sm k) (his : ¬ is = 0) (hP : bA f n (s + k) = c) (hc : (sm = 1 ∧ 97 ≤ c ∧ c ≤ 122) ∨ (sm = 0 ∧ 48 ≤ c ∧ c ≤ 57)) : ISp f n s 1 sm (k + 1) := by
  have a1 := ctT_n (f := f) (n := n) (s := s) (cl := smB) h0
  have a2 := ctT_n (f := f) (n := n) (s := s) (cl := dgB) h0
  rw [hP] at a1 a2
  have b1 := smI c
  have b2 := dgI c
  unfold ISp at h ⊢
  rw [a1, a2]
  omega
theorem ISp.zero (h0 : 0 ≤ k) (h : ISp f n s is sm k) (hS : SMp f n s sm) (hP : bA f n (s + k) = c) (hm : (97 ≤ c ∧ c ≤ 122) ∨ (48 ≤ c ∧ c ≤ 57)) (hb : is = 0 ∨ (sm = 1 ∧ ¬ (97 ≤ c ∧ c ≤ 122)) ∨ (sm = 0 ∧ 97 ≤ c ∧ c ≤ 122)) : ISp f n s 0 sm (k + 1) := by
  have a1 := ctT_n (f := f) (n := n) (s := s) (cl := smB) h0
  have a2 := ctT_n (f := f) (n := n) (s := s) (cl := dgB) h0
  have d := ctT_dis (f := f) (n := n) (s := s) k.toNat
  have r1 := ctT_rng (f := f) (n := n) (cl := smB) (s := s) k.toNat
  have r2 := ctT_rng (f := f) (n := n) (cl := dgB) (s := s) k.toNat
  have e0 : k = 0 → c = bA f n s := fun q => by rw [← hP, q, Int.add_zero]
  rw [hP] at a1 a2
  have b1 := smI c
  have b2 := dgI c
  refine Or.inr ⟨rfl, ?_⟩
  rw [a1, a2]
  unfold SMp at hS
  unfold ISp at h
  by_cases k0 : k = 0
  · have := e0 k0
    subst k0
    rw [← this] at hS
    omega
  · omega
theorem kdI_2 (h : ISp f n s is sm k) (his : ¬ is = 0) (hsm : ¬ sm = 0) (he : e - s = k) : kdT f n s e = 2 := kdT_2 (by rw [he]; unfold ISp at h; omega)
theorem kdI_3 (h : ISp f n s is sm k) (his : ¬ is = 0) (hsm : sm = 0) (hk : k ≤ 4) (h1 : 1 ≤ k) (he : e - s = k) : kdT f n s e = 3 := by
  have d := ctT_dis (f := f) (n := n) (s := s) k.toNat
  have r1 := ctT_rng (f := f) (n := n) (cl := smB) (s := s) k.toNat
  unfold ISp at h
  exact kdT_3 (by rw [he]; omega) (by rw [he]; omega) (by omega)
theorem kdI_1a (h : ISp f n s is sm k) (his : is = 0) (he : e - s = k) : kdT f n s e = 1 := by
  unfold ISp at h
  exact kdT_1 (by rw [he]; omega) (by rw [he]; omega)
theorem kdI_1b (h : ISp f n s is sm k) (his : ¬ is = 0) (hsm : sm = 0) (hk : 4 < k) (he : e - s = k) : kdT f n s e = 1 := by
  have d := ctT_dis (f := f) (n := n) (s := s) k.toNat
  have r1 := ctT_rng (f := f) (n := n) (cl := smB) (s := s) k.toNat
  unfold ISp at h
  exact kdT_1 (by rw [he]; omega) (by rw [he]; omega)
end PZ6b
