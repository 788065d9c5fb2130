/-! what a law of the class holds of a list of rules -/
def shT (sh : List (Int × Int)) : List Int := sh.flatMap (fun s => List.replicate s.2.toNat s.1)
/-- the days of the round at the well w: whose they are -/
def exT (rs : List Rl) (w : Int) : List Int := rs.flatMap (fun r => if r.1 = 0 ∧ r.2.1 = w then shT r.2.2.2.2.2 else [])
def wedT (rs : List Rl) (c d : Int) : Prop := ∃ r ∈ rs, r.1 = 2 ∧ ((r.2.1 = c ∧ r.2.2.1 = d) ∨ (r.2.1 = d ∧ r.2.2.1 = c))
def dryT (rs : List Rl) (a w : Int) : Prop := ∃ r ∈ rs, r.1 = 4 ∧ r.2.1 = a ∧ r.2.2.1 = w
def drT (rs : List Rl) : List Rl := rs.filter (fun r => decide (r.1 = 3))
def guT (rs : List Rl) : List Rl := rs.filter (fun r => decide (r.1 = 1))
def r0 : Rl := (0, 0, 0, 0, 0, [])
def LXt (rs : List Rl) (st : gS) (z : Nat) : Prop := ∀ w : Nat, w < 6 → (st 28 z w).toInt = ((exT rs w).length : Int) ∧ ∀ i : Nat, i < (exT rs w).length → (st 27 (6 * z + w) i).toInt = (exT rs w).getD i 0
def LXk (rs : List Rl) (st : gS) (z : Nat) : Prop := ∀ c : Nat, c < 6 → ∀ d : Nat, d < 6 → (bt (st 29 z c) d = true ↔ wedT rs c d)
def LXf (rs : List Rl) (st : gS) (z : Nat) : Prop := ∀ w : Nat, w < 6 → ∀ a : Nat, a < 6 → (bt (st 30 z w) a = true ↔ dryT rs a w)
def LXd (rs : List Rl) (st : gS) (z : Nat) : Prop := (st 25 z 5).toInt = ((drT rs).length : Int) ∧ ∀ i : Nat, i < (drT rs).length → (st 31 z i).toInt = ((drT rs).getD i r0).2.1 ∧ (st 32 z i).toInt = ((drT rs).getD i r0).2.2.2.2.1 ∧ (st 33 z i).toInt = ((drT rs).getD i r0).2.2.1
def LXg (rs : List Rl) (st : gS) (z : Nat) : Prop := (st 25 z 9).toInt = ((guT rs).length : Int) ∧ ∀ i : Nat, i < (guT rs).length → (st 34 z i).toInt = ((guT rs).getD i r0).2.1 ∧ (st 35 z i).toInt = ((guT rs).getD i r0).2.2.1 ∧ (st 36 z i).toInt = ((guT rs).getD i r0).2.2.2.1 ∧ (st 37 z i).toInt = ((guT rs).getD i r0).2.2.2.2.1
/-- a share and a rule as the reader lets them through -/
def wfS (s : Int × Int) : Prop := (0 ≤ s.1 ∧ s.1 ≤ 5) ∧ 1 ≤ s.2 ∧ s.2 ≤ 9
def wfR (r : Rl) : Prop := (0 ≤ r.1 ∧ r.1 ≤ 4) ∧ (0 ≤ r.2.1 ∧ r.2.1 ≤ 5) ∧ (0 ≤ r.2.2.1 ∧ r.2.2.1 ≤ 5) ∧ (0 ≤ r.2.2.2.1 ∧ r.2.2.2.1 ≤ 5) ∧ (0 ≤ r.2.2.2.2.1 ∧ r.2.2.2.2.1 ≤ 1000) ∧ r.2.2.2.2.2.length ≤ 8 ∧ (∀ s ∈ r.2.2.2.2.2, wfS s) ∧ (r.1 = 0 → r.2.2.2.2.2 ≠ [])
section PZ4
variable {rs : List Rl} {r : Rl} {st u : gS} {z : Nat} {fs : List Nat}
theorem exT_app (w : Int) : exT (rs ++ [r]) w = exT rs w ++ (if r.1 = 0 ∧ r.2.1 = w then shT r.2.2.2.2.2 else []) := by
  unfold exT
  rw [List.flatMap_append]
  simp
theorem exT_ne (w : Int) (h : ¬ (r.1 = 0 ∧ r.2.1 = w)) : exT (rs ++ [r]) w = exT rs w := by rw [exT_app, if_neg h, List.append_nil]
theorem drT_app : drT (rs ++ [r]) = drT rs ++ (if r.1 = 3 then [r] else []) := by
  unfold drT
  rw [List.filter_append]
  by_cases h : r.1 = 3
  · simp [h]
  · simp [h]
theorem guT_app : guT (rs ++ [r]) = guT rs ++ (if r.1 = 1 then [r] else []) := by
  unfold guT
  rw [List.filter_append]
  by_cases h : r.1 = 1
  · simp [h]
  · simp [h]
theorem wedT_app (c d : Int) : wedT (rs ++ [r]) c d ↔ wedT rs c d ∨ (r.1 = 2 ∧ ((r.2.1 = c ∧ r.2.2.1 = d) ∨ (r.2.1 = d ∧ r.2.2.1 = c))) := by
  unfold wedT
  constructor
  · rintro ⟨x, hx, h⟩
    rcases List.mem_append.mp hx with h1 | h1
    · exact Or.inl ⟨x, h1, h⟩
    · rw [List.mem_singleton.mp h1] at h; exact Or.inr h
  · rintro (⟨x, hx, h⟩ | h)
    · exact ⟨x, List.mem_append_left _ hx, h⟩
    · exact ⟨r, List.mem_append_right _ (List.mem_singleton.mpr rfl), h⟩
theorem dryT_app (a w : Int) : dryT (rs ++ [r]) a w ↔ dryT rs a w ∨ (r.1 = 4 ∧ r.2.1 = a ∧ r.2.2.1 = w) := by
  unfold dryT
  constructor
  · rintro ⟨x, hx, h⟩
    rcases List.mem_append.mp hx with h1 | h1
    · exact Or.inl ⟨x, h1, h⟩
    · rw [List.mem_singleton.mp h1] at h; exact Or.inr h
  · rintro (⟨x, hx, h⟩ | h)
    · exact ⟨x, List.mem_append_left _ hx, h⟩
    · exact ⟨r, List.mem_append_right _ (List.mem_singleton.mpr rfl), h⟩
/- what another sort of rule leaves, what frames leave -/
theorem LXt.other (h : LXt rs st z) (hr : r.1 ≠ 0) : LXt (rs ++ [r]) st z := fun w hw => by
  rw [exT_ne w (fun q => hr q.1)]; exact h w hw
theorem LXk.other (h : LXk rs st z) (hr : r.1 ≠ 2) : LXk (rs ++ [r]) st z := fun c hc d hd => by
  rw [wedT_app]
  exact ⟨fun q => Or.inl ((h c hc d hd).mp q), fun q => q.elim (fun q => (h c hc d hd).mpr q) (fun q => absurd q.1 hr)⟩
theorem LXf.other (h : LXf rs st z) (hr : r.1 ≠ 4) : LXf (rs ++ [r]) st z := fun c hc d hd => by
  rw [dryT_app]
  exact ⟨fun q => Or.inl ((h c hc d hd).mp q), fun q => q.elim (fun q => (h c hc d hd).mpr q) (fun q => absurd q.1 hr)⟩
theorem LXd.other (h : LXd rs st z) (hr : r.1 ≠ 3) : LXd (rs ++ [r]) st z := by
  unfold LXd
  rw [drT_app, if_neg hr, List.append_nil]; exact h
theorem LXg.other (h : LXg rs st z) (hr : r.1 ≠ 1) : LXg (rs ++ [r]) st z := by
  unfold LXg
  rw [guT_app, if_neg hr, List.append_nil]; exact h
theorem LXt.keep (h : LXt rs st z) (hf : gF kX fs st u) (h1 : (2700 : Nat) ∉ fs) (h2 : (2800 : Nat) ∉ fs) : LXt rs u z := fun w hw => by
  rw [hf 28 z w h2]
  exact ⟨(h w hw).1, fun i hi => by rw [hf 27 (6 * z + w) i h1]; exact (h w hw).2 i hi⟩
theorem LXk.keep (h : LXk rs st z) (hf : gF kX fs st u) (h1 : (2900 : Nat) ∉ fs) : LXk rs u z := fun c hc d hd => by
  rw [hf 29 z c h1]; exact h c hc d hd
theorem LXf.keep (h : LXf rs st z) (hf : gF kX fs st u) (h1 : (3000 : Nat) ∉ fs) : LXf rs u z := fun c hc d hd => by
  rw [hf 30 z c h1]; exact h c hc d hd
theorem LXd.keep (h : LXd rs st z) (hf : gF kX fs st u) (h0 : (2505 : Nat) ∉ fs) (h1 : (3100 : Nat) ∉ fs) (h2 : (3200 : Nat) ∉ fs) (h3 : (3300 : Nat) ∉ fs) : LXd rs u z := by
  refine ⟨by rw [hf 25 z 5 h0]; exact h.1, fun i hi => ?_⟩
  rw [hf 31 z i h1, hf 32 z i h2, hf 33 z i h3]; exact h.2 i hi
theorem LXg.keep (h : LXg rs st z) (hf : gF kX fs st u) (h0 : (2509 : Nat) ∉ fs) (h1 : (3400 : Nat) ∉ fs) (h2 : (3500 : Nat) ∉ fs) (h3 : (3600 : Nat) ∉ fs) (h4 : (3700 : Nat) ∉ fs) : LXg rs u z := by
  refine ⟨by rw [hf 25 z 9 h0]; exact h.1, fun i hi => ?_⟩
  rw [hf 34 z i h1, hf 35 z i h2, hf 36 z i h3, hf 37 z i h4]; exact h.2 i hi
/- one rule more -/
theorem getD_app {l : List Rl} {x d : Rl} {i : Nat} (h : i < (l ++ [x]).length) : (i < l.length ∧ (l ++ [x]).getD i d = l.getD i d) ∨ (i = l.length ∧ (l ++ [x]).getD i d = x) := by
  rw [List.length_append, List.length_singleton] at h
  by_cases h1 : i < l.length
  · left; refine ⟨h1, ?_⟩
    rw [List.getD_eq_getElem?_getD, List.getD_eq_getElem?_getD, List.getElem?_append_left h1]
  · right
    have h2 : i = l.length := by omega
    refine ⟨h2, ?_⟩
    rw [List.getD_eq_getElem?_getD, h2, List.getElem?_append_right (Nat.le_refl _), Nat.sub_self]
    rfl
theorem LXd.add {a b c : Int32} (h : LXd rs st z) (h5 : (u 25 z 5).toInt = (st 25 z 5).toInt + 1) (h1 : u 31 z = upd (st 31 z) (st 25 z 5).toNatClampNeg a) (h2 : u 32 z = upd (st 32 z) (st 25 z 5).toNatClampNeg b) (h3 : u 33 z = upd (st 33 z) (st 25 z 5).toNatClampNeg c) : LXd (rs ++ [(3, a.toInt, c.toInt, 0, b.toInt, [])]) u z := by
  have e0 : (st 25 z 5).toNatClampNeg = (drT rs).length := by
    have := h.1
    show (st 25 z 5).toInt.toNat = _
    omega
  unfold LXd
  rw [drT_app, if_pos rfl, h1, h2, h3, e0]
  refine ⟨by rw [h5, h.1, List.length_append, List.length_singleton]; omega, fun i hi => ?_⟩
  rcases getD_app (d := r0) hi with ⟨q1, q2⟩ | ⟨q1, q2⟩
  · rw [q2, pk_un (by omega), pk_un (by omega), pk_un (by omega)]; exact h.2 i q1
  · rw [q2, q1, pk_us, pk_us, pk_us]; exact ⟨rfl, rfl, rfl⟩
theorem LXg.add {a b c d : Int32} (h : LXg rs st z) (h5 : (u 25 z 9).toInt = (st 25 z 9).toInt + 1) (h1 : u 34 z = upd (st 34 z) (st 25 z 9).toNatClampNeg a) (h2 : u 35 z = upd (st 35 z) (st 25 z 9).toNatClampNeg b) (h3 : u 36 z = upd (st 36 z) (st 25 z 9).toNatClampNeg c) (h4 : u 37 z = upd (st 37 z) (st 25 z 9).toNatClampNeg d) : LXg (rs ++ [(1, a.toInt, b.toInt, c.toInt, d.toInt, [])]) u z := by
  have e0 : (st 25 z 9).toNatClampNeg = (guT rs).length := by
    have := h.1
    show (st 25 z 9).toInt.toNat = _
    omega
  unfold LXg
  rw [guT_app, if_pos rfl, h1, h2, h3, h4, e0]
  refine ⟨by rw [h5, h.1, List.length_append, List.length_singleton]; omega, fun i hi => ?_⟩
  rcases getD_app (d := r0) hi with ⟨q1, q2⟩ | ⟨q1, q2⟩
  · rw [q2, pk_un (by omega), pk_un (by omega), pk_un (by omega), pk_un (by omega)]; exact h.2 i q1
  · rw [q2, q1, pk_us, pk_us, pk_us, pk_us]; exact ⟨rfl, rfl, rfl, rfl⟩
theorem LXt.rows (h : LXt rs st z) (h1 : ∀ i j, u 27 i j = st 27 i j) (h2 : ∀ i j, u 28 i j = st 28 i j) : LXt rs u z := fun w hw => by
  rw [h2 z w]
  exact ⟨(h w hw).1, fun i hi => by rw [h1]; exact (h w hw).2 i hi⟩
theorem LXk.rows (h : LXk rs st z) (h1 : ∀ i j, u 29 i j = st 29 i j) : LXk rs u z := fun c hc d hd => by rw [h1]; exact h c hc d hd
theorem LXf.rows (h : LXf rs st z) (h1 : ∀ i j, u 30 i j = st 30 i j) : LXf rs u z := fun c hc d hd => by rw [h1]; exact h c hc d hd
theorem LXd.rows (h : LXd rs st z) (h0 : u 25 z 5 = st 25 z 5) (h1 : ∀ i j, u 31 i j = st 31 i j) (h2 : ∀ i j, u 32 i j = st 32 i j) (h3 : ∀ i j, u 33 i j = st 33 i j) : LXd rs u z := by
  refine ⟨by rw [h0]; exact h.1, fun i hi => ?_⟩
  rw [h1, h2, h3]; exact h.2 i hi
theorem LXg.rows (h : LXg rs st z) (h0 : u 25 z 9 = st 25 z 9) (h1 : ∀ i j, u 34 i j = st 34 i j) (h2 : ∀ i j, u 35 i j = st 35 i j) (h3 : ∀ i j, u 36 i j = st 36 i j) (h4 : ∀ i j, u 37 i j = st 37 i j) : LXg rs u z := by
  refine ⟨by rw [h0]; exact h.1, fun i hi => ?_⟩
  rw [h1, h2, h3, h4]; exact h.2 i hi
end PZ4
/-- a bit more -/
theorem bt_set {x y : Int32} (h0 : 0 ≤ y.toInt) (h1 : y.toInt < 6) {i : Nat} (hi : i < 6) : bt (x ||| ((1 : Int32) <<< (y &&& 31))) i = true ↔ bt x i = true ∨ (i : Int) = y.toInt := by
  obtain ⟨m, hm, e⟩ : ∃ m : Nat, m < 6 ∧ y = nI m := ⟨y.toNatClampNeg, by have := gs_cl h0; omega, by
    apply Int32.toInt_inj.mp
    have := gs_cl h0
    rw [nI_toInt (by omega), this]⟩
  subst e
  rw [b_or, b_shl _ (by omega) _ (by omega), nI_toInt (by omega)]
  have b1 : ∀ k : Nat, k < 6 → (bt (1 : Int32) k = true ↔ k = 0) := by decide +kernel
  simp only [Bool.or_eq_true, Bool.and_eq_true, decide_eq_true_eq]
  constructor
  · rintro (q | ⟨q1, q2⟩)
    · exact Or.inl q
    · right
      have := (b1 _ (by omega)).mp q2
      omega
  · rintro (q | q)
    · exact Or.inl q
    · right
      exact ⟨by omega, (b1 _ (by omega)).mpr (by omega)⟩
theorem LXk.add {rs : List Rl} {st u : gS} {z : Nat} {a b k1 k2 : Int32} (h : LXk rs st z) (ha : 0 ≤ a.toInt) (ha6 : a.toInt < 6) (hb : 0 ≤ b.toInt) (hb6 : b.toInt < 6) (hne : ¬ b.toInt = a.toInt) (hk1 : k1 = st 29 z a.toNatClampNeg ||| ((1 : Int32) <<< (b &&& 31))) (hk2 : k2 = st 29 z b.toNatClampNeg ||| ((1 : Int32) <<< (a &&& 31))) (hu : u 29 z = upd (upd (st 29 z) a.toNatClampNeg k1) b.toNatClampNeg k2) : LXk (rs ++ [(2, a.toInt, b.toInt, 0, 0, [])]) u z := fun c hc d hd => by
  have ca := gs_cl ha
  have cb := gs_cl hb
  rw [wedT_app, hu]
  have base := h c hc d hd
  show _ ↔ wedT rs c d ∨ ((2 : Int) = 2 ∧ ((a.toInt = c ∧ b.toInt = d) ∨ (a.toInt = d ∧ b.toInt = c)))
  by_cases e2 : c = b.toNatClampNeg
  · rw [e2] at base ⊢
    rw [pk_us, hk2, bt_set ha ha6 hd, base]
    exact or_congr Iff.rfl (by omega)
  · rw [pk_un e2]
    by_cases e1 : c = a.toNatClampNeg
    · rw [e1] at base ⊢
      rw [pk_us, hk1, bt_set hb hb6 hd, base]
      exact or_congr Iff.rfl (by omega)
    · rw [pk_un e1, base]
      exact (or_iff_left (by omega)).symm
theorem LXf.add {rs : List Rl} {st u : gS} {z : Nat} {a b k1 : Int32} (h : LXf rs st z) (ha : 0 ≤ a.toInt) (ha6 : a.toInt < 6) (hb : 0 ≤ b.toInt) (hb6 : b.toInt < 6) (hk1 : k1 = st 30 z b.toNatClampNeg ||| ((1 : Int32) <<< (a &&& 31))) (hu : u 30 z = upd (st 30 z) b.toNatClampNeg k1) : LXf (rs ++ [(4, a.toInt, b.toInt, 0, 0, [])]) u z := fun w hw d hd => by
  have cb := gs_cl hb
  rw [dryT_app, hu]
  have base := h w hw d hd
  show _ ↔ dryT rs d w ∨ ((4 : Int) = 4 ∧ a.toInt = d ∧ b.toInt = w)
  by_cases e1 : w = b.toNatClampNeg
  · rw [e1] at base ⊢
    rw [pk_us, hk1, bt_set ha ha6 hd, base]
    exact or_congr Iff.rfl (by omega)
  · rw [pk_un e1, base]
    exact (or_iff_left (by omega)).symm
/-- turns: a share more (the rule being read is the last one) -/
theorem shT_app (sh : List (Int × Int)) (c d : Int) : shT (sh ++ [(c, d)]) = shT sh ++ List.replicate d.toNat c := by
  unfold shT
  rw [List.flatMap_append]
  simp
theorem LXt.add {rs : List Rl} {st u : gS} {z : Nat} {w c d : Int32} {sh : List (Int × Int)} (h : LXt (rs ++ [(0, w.toInt, 0, 0, 0, sh)]) st z) (hw : 0 ≤ w.toInt) (hd : 0 ≤ d.toInt) (h28 : ∀ j : Nat, (u 28 z j).toInt = (st 28 z j).toInt + (if j = w.toNatClampNeg then d.toInt else 0)) (h27 : ∀ (j i : Nat), j < 6 → u 27 (6 * z + j) i = if j = w.toNatClampNeg ∧ (st 28 z w.toNatClampNeg).toInt ≤ (i : Int) ∧ (i : Int) < (st 28 z w.toNatClampNeg).toInt + d.toInt then c else st 27 (6 * z + j) i) : LXt (rs ++ [(0, w.toInt, 0, 0, 0, sh ++ [(c.toInt, d.toInt)])]) u z := fun j hj => by
  have cw := gs_cl hw
  obtain ⟨q1, q2⟩ := h j hj
  rw [exT_app] at q1 q2 ⊢
  by_cases e : j = w.toNatClampNeg
  · have e1 : (0 : Int) = 0 ∧ w.toInt = (j : Int) := ⟨rfl, by omega⟩
    rw [if_pos e1] at q1 q2 ⊢
    show _ = (((exT rs j) ++ shT (sh ++ [(c.toInt, d.toInt)])).length : Int) ∧ ∀ i : Nat, i < ((exT rs j) ++ shT (sh ++ [(c.toInt, d.toInt)])).length → _ = ((exT rs j) ++ shT (sh ++ [(c.toInt, d.toInt)])).getD i 0
    have q1 : (st 28 z j).toInt = (((exT rs j) ++ shT sh).length : Int) := q1
    have q2 : ∀ i : Nat, i < ((exT rs j) ++ shT sh).length → (st 27 (6 * z + j) i).toInt = ((exT rs j) ++ shT sh).getD i 0 := q2
    rw [shT_app, ← List.append_assoc]
    obtain ⟨l, hl⟩ : ∃ l, l = (exT rs j) ++ shT sh := ⟨_, rfl⟩
    rw [← hl] at q1 q2 ⊢
    have hlen : (l ++ List.replicate d.toInt.toNat c.toInt).length = l.length + d.toInt.toNat := by rw [List.length_append, List.length_replicate]
    refine ⟨by rw [h28, if_pos e, q1, hlen]; omega, fun i hi => ?_⟩
    rw [hlen] at hi
    rw [h27 j i hj]
    rw [← e, q1]
    by_cases hil : i < l.length
    · rw [if_neg (by omega), q2 i hil, List.getD_eq_getElem?_getD, List.getD_eq_getElem?_getD, List.getElem?_append_left hil]
    · rw [if_pos ⟨rfl, by omega, by omega⟩, List.getD_eq_getElem?_getD, List.getElem?_append_right (by omega), List.getElem?_replicate, if_pos (by omega)]
      rfl
  · have e1 : ¬ ((0 : Int) = 0 ∧ w.toInt = (j : Int)) := fun q => e (by omega)
    rw [if_neg e1] at q1 q2 ⊢
    refine ⟨by rw [h28, if_neg e]; omega, fun i hi => ?_⟩
    rw [h27 j i hj, if_neg (fun q => e q.1)]
    exact q2 i hi
theorem LXt.begin {rs : List Rl} {st : gS} {z : Nat} {w : Int} (h : LXt rs st z) : LXt (rs ++ [(0, w, 0, 0, 0, [])]) st z := fun j hj => by
  rw [exT_app]
  have e : (if (0 : Int) = 0 ∧ w = (j : Int) then shT [] else []) = [] := by split <;> rfl
  show _ = ((exT rs j ++ (if (0 : Int) = 0 ∧ w = (j : Int) then shT [] else [])).length : Int) ∧ ∀ i : Nat, i < (exT rs j ++ (if (0 : Int) = 0 ∧ w = (j : Int) then shT [] else [])).length → _ = (exT rs j ++ (if (0 : Int) = 0 ∧ w = (j : Int) then shT [] else [])).getD i 0
  rw [e, List.append_nil]; exact h j hj
theorem wf_mk {k a b c d : Int} (hk : 1 ≤ k ∧ k ≤ 4) (ha : 0 ≤ a ∧ a ≤ 5) (hb : 0 ≤ b ∧ b ≤ 5) (hc : 0 ≤ c ∧ c ≤ 5) (hd : 0 ≤ d ∧ d ≤ 1000) : wfR (k, a, b, c, d, []) :=
  ⟨⟨by show 0 ≤ k; omega, hk.2⟩, ha, hb, hc, hd, Nat.zero_le _, fun s hs => (by cases hs), fun h => absurd (show k = 0 from h) (by omega)⟩
theorem wI_e0 : wI 0 = wTurns := by decide +kernel
theorem wI_e1 : wI 1 = wGuest := by decide +kernel
theorem wI_e2 : wI 2 = wWed := by decide +kernel
theorem wI_e3 : wI 3 = wDrought := by decide +kernel
theorem wI_e4 : wI 4 = wDry := by decide +kernel
theorem wI_e5 : wI 5 = wAt := by decide +kernel
theorem wI_e6 : wI 6 = wOf := by decide +kernel
theorem wI_e7 : wI 7 = wBelow := by decide +kernel
theorem wI_e8 : wI 8 = wTo := by decide +kernel
/-- a well has turns where its round has days -/
theorem shT_len {sh : List (Int × Int)} (h : ∀ s ∈ sh, wfS s) : (sh.length : Int) ≤ (shT sh).length ∧ ((shT sh).length : Int) ≤ 9 * sh.length := by
  induction sh with
  | nil => exact ⟨Int.le_refl _, Int.le_refl _⟩
  | cons a t ih =>
    have h1 := ih (fun s hs => h s (List.mem_cons_of_mem _ hs))
    have h2 := h a List.mem_cons_self
    have e : (shT (a :: t)).length = a.2.toNat + (shT t).length := by
      unfold shT
      rw [List.flatMap_cons, List.length_append, List.length_replicate]
    rw [e, List.length_cons]
    have := h2.2
    omega
theorem exT_pos {rs : List Rl} {w : Int} (h : ∀ r ∈ rs, wfR r) : 0 < (exT rs w).length ↔ hasT rs w = true := by
  induction rs with
  | nil => exact ⟨fun q => absurd (show 0 < 0 from q) (by decide), fun q => absurd (show false = true from q) (by decide)⟩
  | cons a t ih =>
    have h1 := ih (fun s hs => h s (List.mem_cons_of_mem _ hs))
    have e : (exT (a :: t) w).length = (if a.1 = 0 ∧ a.2.1 = w then shT a.2.2.2.2.2 else []).length + (exT t w).length := by
      unfold exT
      rw [List.flatMap_cons, List.length_append]
    have e2 : hasT (a :: t) w = (decide (a.1 = 0 ∧ a.2.1 = w) || hasT t w) := rfl
    rw [e, e2, Bool.or_eq_true, decide_eq_true_eq, ← h1]
    by_cases q : a.1 = 0 ∧ a.2.1 = w
    · rw [if_pos q]
      have h2 := h a List.mem_cons_self
      have h3 := shT_len h2.2.2.2.2.2.2.1
      have h4 : 0 < a.2.2.2.2.2.length := List.length_pos_iff.mpr (h2.2.2.2.2.2.2.2 q.1)
      exact ⟨fun _ => Or.inl q, fun _ => by omega⟩
    · rw [if_neg q]
      exact ⟨fun x => Or.inr (by simpa using x), fun x => x.elim (fun y => absurd y q) (fun y => by simpa using y)⟩
