/-! the class's planner, by its cells -/
/-- the next thing: free or not, what can be done, the latest tried -/
def nxI (fr : Prop) (can : Int → Prop) (t r : Int) : Prop := (¬ fr ∧ t = -1 ∧ r = 9) ∨ (¬ fr ∧ ¬ t = -1 ∧ r = -1) ∨ (fr ∧ t < r ∧ (0 ≤ r ∧ r ≤ 7) ∧ can r ∧ ∀ a, t < a → a < r → ¬ can a) ∨ (fr ∧ r = -1 ∧ ∀ a, t < a → a ≤ 7 → ¬ can a)
theorem nxI.eq {fr fr2 : Prop} {can can2 : Int → Prop} {t r s : Int} (h1 : nxI fr can t r) (h2 : nxI fr2 can2 t s) (e : fr ↔ fr2) (ec : fr → ∀ a, t < a → a ≤ 7 → (can a ↔ can2 a)) : r = s := by
  rcases h1 with ⟨a, b, c⟩ | ⟨a, b, c⟩ | ⟨a, b, c, d, f⟩ | ⟨a, b, c⟩ <;> rcases h2 with ⟨a', b', c'⟩ | ⟨a', b', c'⟩ | ⟨a', b', c', d', f'⟩ | ⟨a', b', c'⟩
  all_goals first
    | omega
    | exact absurd (e.mp a) a'
    | exact absurd (e.mpr a') a
    | skip
  · by_cases q : r < s
    · exact absurd ((ec a r b (by omega)).mp d) (f' r b q)
    · by_cases q2 : s < r
      · exact absurd ((ec a s b' (by omega)).mpr d') (f s b' q2)
      · omega
  · exact absurd ((ec a r b (by omega)).mp d) (c' r b (by omega))
  · exact absurd ((ec a s b' (by omega)).mpr d') (c s b' (by omega))
/-- none of the things behind t and before k can be done -/
def noA (can : Int → Prop) (t k : Int) : Prop := ∀ a, t < a → a < k → ¬ can a
theorem noA.nil {can : Int → Prop} {t k : Int} (h : k ≤ t + 1) : noA can t k := fun a h1 h2 => by omega
theorem noA.step {can : Int → Prop} {t k k1 : Int} (h : noA can t k) (e : k1 = k + 1) (hn : ¬ can k) : noA can t k1 := fun a h1 h2 => by
  by_cases q : a < k
  · exact h a h1 q
  · rw [show a = k by omega]; exact hn
/-- what a herd can do on the day of the row r -/
def cdX (rs : List Rl) (st : gS) (r h : Nat) (a : Int) : Prop := (a = 0 ∧ (st 21 0 h).toInt ≤ (st 13 r (st 41 (r - 1) h).toNatClampNeg).toInt ∧ rtC rs st r (st 41 (r - 1) h).toNatClampNeg (st 20 0 h).toInt) ∨ a = 1 ∨ (2 ≤ a ∧ 0 < (st 8 (st 41 (r - 1) h).toNatClampNeg (a - 2).toNat).toInt)
/-- it is there and not under way -/
def frX (st : gS) (r h : Nat) : Prop := ¬ (st 20 0 h).toInt = -1 ∧ (st 43 (r - 1) h).toInt ≤ (r : Int)
/-- rows of other days stay -/
def fO (R : Nat) (st u : gS) : Prop := ∀ k i, k = 13 ∨ k = 41 ∨ k = 43 ∨ k = 45 → i ≠ R → u k i = st k i
theorem fO.rf {R : Nat} {st : gS} : fO R st st := fun _ _ _ _ => rfl
theorem fO.up {R k j : Nat} {st m u : gS} {v : Int32} (h : fO R st m) (e : u = gU m k R j v) : fO R st u := fun k' i h9 h8 => by
  rw [e, gU_ne (fun q => h8 q.2)]; exact h k' i h9 h8
theorem fO.upk {R k i j : Nat} {st m u : gS} {v : Int32} (h : fO R st m) (e : u = gU m k i j v) (hk : k ≠ 13 ∧ k ≠ 41 ∧ k ≠ 43 ∧ k ≠ 45) : fO R st u := fun k' i' h9 h8 => by
  rw [e, congrFun (gU_k (by omega)) i']; exact h k' i' h9 h8
/-- herds whose numbers are below k are not thirsty -/
def gdX (st : gS) (r : Nat) (D : Int32) (k : Int) : Prop := ∀ h : Nat, (h : Int) < k → ¬ (st 20 0 h).toInt = -1 → (D - st 45 r h).toInt ≤ (st 22 0 h).toInt
theorem gdX.nil {st : gS} {r : Nat} {D : Int32} {k : Int} (h : k ≤ 0) : gdX st r D k := fun h1 h2 => by omega
theorem gdX.step {st : gS} {r : Nat} {D y : Int32} {k1 : Int} (h : gdX st r D y.toInt) (h0 : 0 ≤ y.toInt) (e : k1 = y.toInt + 1) (hn : ¬ (st 20 0 y.toNatClampNeg).toInt = -1 → (D - st 45 r y.toNatClampNeg).toInt ≤ (st 22 0 y.toNatClampNeg).toInt) : gdX st r D k1 := fun h1 h2 => by
  by_cases q : (h1 : Int) < y.toInt
  · exact h h1 q
  · rw [show h1 = y.toNatClampNeg by (have := gs_cl h0; omega)]; exact hn
/-- the acts before k are kept, -1 for a herd that is not there -/
def kfX (st u : gS) (k : Int) : Prop := ∀ j : Nat, (j : Int) < k → (u 47 0 j).toInt = if (st 20 0 (j % 4)).toInt = -1 then -1 else (st 46 0 j).toInt
/-- what perform does: the turn x (row R, herd H), the act y -/
def pfX (st u : gS) (x y : Int32) (R H : Nat) : Prop := u 46 0 = upd (st 46 0) x.toNatClampNeg y ∧ fO R st u ∧ (∀ j, j ≠ H → u 41 R j = st 41 R j ∧ u 43 R j = st 43 R j ∧ u 45 R j = st 45 R j) ∧ ∃ rv : Int32, rv.toInt = (R : Int) ∧ ((y.toInt = 0 ∧ u 41 R H = st 41 (R - 1) H ∧ u 43 R H = st 43 (R - 1) H ∧ u 45 R H = st 38 0 4 + rv ∧ u 13 R = upd (st 13 R) (st 41 (R - 1) H).toNatClampNeg (st 13 R (st 41 (R - 1) H).toNatClampNeg - st 21 0 H)) ∨ ((y.toInt = 1 ∨ y.toInt = 9) ∧ u 41 R H = st 41 (R - 1) H ∧ u 43 R H = st 43 (R - 1) H ∧ u 45 R H = st 45 (R - 1) H ∧ u 13 R = st 13 R) ∨ ((2 ≤ y.toInt ∧ y.toInt ≤ 7) ∧ (u 41 R H).toInt = y.toInt - 2 ∧ u 43 R H = rv + st 8 (st 41 (R - 1) H).toNatClampNeg (y.toInt - 2).toNat ∧ u 45 R H = st 45 (R - 1) H ∧ u 13 R = st 13 R))
/-- what undo does -/
def udX (st u : gS) (x : Int32) (R H : Nat) : Prop := ((st 46 0 x.toNatClampNeg).toInt = 0 ∧ u = gU st 13 R (st 41 R H).toNatClampNeg (st 13 R (st 41 R H).toNatClampNeg + st 21 0 H)) ∨ (¬ (st 46 0 x.toNatClampNeg).toInt = 0 ∧ u = st)
/-- a planned day begins -/
def opX (rs : List Rl) (st u : gS) (R : Nat) : Prop := gwI (fun a9 => 0 < (st 5 0 a9).toInt) (st 13 (R - 1)) (st 6 0) (st 5 0) (st 13 R) (u 13 R) 6 ∧ gwI (fun a9 => 0 < (st 5 0 a9).toInt) (st 13 (R - 1)) (st 6 0) (st 5 0) (st 14 R) (u 14 R) 6 ∧ (∀ w : Nat, w < 6 → (u 15 R w).toInt = sP rs (u 14 R) (fun w9 d9 => (st 11 w9 d9).toInt) w ((st 38 0 4).toInt + (R : Int))) ∧ dyO R st u
theorem kfX.nil {st u : gS} {k : Int} (h : k ≤ 0) : kfX st u k := fun j h1 => by omega
theorem kfX.step {st m u : gS} {y v : Int32} {k1 : Int} (h : kfX st m y.toInt) (e : u 47 0 = upd (m 47 0) y.toNatClampNeg v) (h0 : 0 ≤ y.toInt) (hk : k1 = y.toInt + 1) (hv : v.toInt = if (st 20 0 (y.toNatClampNeg % 4)).toInt = -1 then -1 else (st 46 0 y.toNatClampNeg).toInt) : kfX st u k1 := fun j h1 => by
  have c := gs_cl h0
  rw [e]
  by_cases q : j = y.toNatClampNeg
  · rw [q, pk_us]; exact hv
  · rw [pk_un q]; exact h j (by omega)
/-- the herds before k stand at the plan's start -/
def stX (st u : gS) (k : Int) : Prop := ∀ h : Nat, (h : Int) < k → u 41 0 h = st 23 0 h ∧ (u 43 0 h).toInt = 0 ∧ u 45 0 h = st 24 0 h
theorem stX.nil {st u : gS} {k : Int} (h : k ≤ 0) : stX st u k := fun j h1 => by omega
theorem stX.step {st m u : gS} {y a b c : Int32} {k1 : Int} (h : stX st m y.toInt) (e1 : u 41 0 = upd (m 41 0) y.toNatClampNeg a) (e2 : u 43 0 = upd (m 43 0) y.toNatClampNeg b) (e3 : u 45 0 = upd (m 45 0) y.toNatClampNeg c) (h0 : 0 ≤ y.toInt) (hk : k1 = y.toInt + 1) (ha : a = st 23 0 y.toNatClampNeg) (hb : b.toInt = 0) (hc : c = st 24 0 y.toNatClampNeg) : stX st u k1 := fun j h1 => by
  have cy := gs_cl h0
  rw [e1, e2, e3]
  by_cases q : j = y.toNatClampNeg
  · rw [q, pk_us, pk_us, pk_us]; exact ⟨ha, hb, hc⟩
  · rw [pk_un q, pk_un q, pk_un q]; exact h j (by omega)
