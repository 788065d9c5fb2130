/-! what a draw does, who stands how; the judge's draws -/
/-- nothing changes but the reference's mark of a throw -/
def frM (st u : gS) : Prop := ∀ k i j, ¬ (k = 0 ∧ j = 0) → u k i j = st k i j
theorem frM.rf {st : gS} : frM st st := fun _ _ _ _ => rfl
theorem frM.up {st u : gS} {i : Nat} {v : Int32} (e : u = gU st 0 i 0 v) : frM st u := fun k i' j h => by
  rw [e]
  by_cases q : k = 0
  · subst q
    by_cases q1 : i' = i
    · rw [q1]; exact gU_other (fun h9 => h ⟨rfl, h9⟩)
    · exact congrFun (gU_ne (fun h9 => q1 h9.2)) j
  · exact congrFun (congrFun (gU_k q) i') j
theorem frM.row {st u : gS} (h : frM st u) {k i : Nat} (hk : k ≠ 0) : u k i = st k i := funext fun j => h k i j (fun q => hk q.1)
/-- 1: by right; 2: as a guest of g; 0: neither -/
def standI (R : Prop) (g r : Int) : Prop := (R ∧ r = 1) ∨ (¬ R ∧ ((0 ≤ g ∧ r = 2) ∨ (g = -1 ∧ r = 0)))
theorem standI.eq {R S : Prop} {g h r s : Int} (h1 : standI R g r) (h2 : standI S h s) (e : R ↔ S) (eg : g = h) : r = s := by
  subst eg
  rcases h1 with ⟨a, b⟩ | ⟨a, b⟩ <;> rcases h2 with ⟨c, d⟩ | ⟨c, d⟩
  · omega
  · exact absurd (e.mp a) c
  · exact absurd (e.mpr c) a
  · omega
/-- a guest's draws of the day -/
def pGd (d w c r : Nat → Int32) (dy x y : Int) (k : Nat) : Bool := decide ((d k).toInt = dy ∧ (w k).toInt = x ∧ (c k).toInt = y ∧ (r k).toInt = 1)
theorem pGd_t {d w c r : Nat → Int32} {dy x y : Int} {k : Nat} (h1 : (d k).toInt = dy) (h2 : (w k).toInt = x) (h3 : (c k).toInt = y) (h4 : (r k).toInt = 1) : pGd d w c r dy x y k = true := decide_eq_true ⟨h1, h2, h3, h4⟩
theorem pGd_f {d w c r : Nat → Int32} {dy x y : Int} {k : Nat} (h : ¬ ((d k).toInt = dy ∧ (w k).toInt = x ∧ (c k).toInt = y ∧ (r k).toInt = 1)) : ¬ pGd d w c r dy x y k = true := fun q => h (of_decide_eq_true q)
/-- a clan's draws of some days; those of one kind; of them the known -/
def pJa (d c : Nat → Int32) (x f t : Int) (k : Nat) : Bool := decide ((c k).toInt = x ∧ f ≤ (d k).toInt ∧ (d k).toInt ≤ t)
def pJr (d c r : Nat → Int32) (x f t v : Int) (k : Nat) : Bool := decide ((c k).toInt = x ∧ f ≤ (d k).toInt ∧ (d k).toInt ≤ t ∧ (r k).toInt = v)
def pJk (d c r n : Nat → Int32) (x f t v o : Int) (k : Nat) : Bool := decide ((c k).toInt = x ∧ f ≤ (d k).toInt ∧ (d k).toInt ≤ t ∧ (r k).toInt = v ∧ (-1 < (n k).toInt ∧ (n k).toInt ≤ o))
def pJn (d c r n : Nat → Int32) (x f t v o : Int) (k : Nat) : Bool := decide ((c k).toInt = x ∧ f ≤ (d k).toInt ∧ (d k).toInt ≤ t ∧ (r k).toInt = v ∧ (¬ (n k).toInt = -1 ∧ (n k).toInt ≤ o))
section PZ13
variable {d c r n : Nat → Int32} {x f t v o : Int} {k : Nat}
theorem pJa_t (h : (c k).toInt = x ∧ f ≤ (d k).toInt ∧ (d k).toInt ≤ t) : pJa d c x f t k = true := decide_eq_true h
theorem pJa_f (h : ¬ ((c k).toInt = x ∧ f ≤ (d k).toInt ∧ (d k).toInt ≤ t)) : ¬ pJa d c x f t k = true := fun q => h (of_decide_eq_true q)
theorem pJr_t (h : (c k).toInt = x ∧ f ≤ (d k).toInt ∧ (d k).toInt ≤ t ∧ (r k).toInt = v) : pJr d c r x f t v k = true := decide_eq_true h
theorem pJr_f (h : ¬ ((c k).toInt = x ∧ f ≤ (d k).toInt ∧ (d k).toInt ≤ t ∧ (r k).toInt = v)) : ¬ pJr d c r x f t v k = true := fun q => h (of_decide_eq_true q)
theorem pJk_t (h : (c k).toInt = x ∧ f ≤ (d k).toInt ∧ (d k).toInt ≤ t ∧ (r k).toInt = v ∧ (-1 < (n k).toInt ∧ (n k).toInt ≤ o)) : pJk d c r n x f t v o k = true := decide_eq_true h
theorem pJk_f (h : ¬ ((c k).toInt = x ∧ f ≤ (d k).toInt ∧ (d k).toInt ≤ t ∧ (r k).toInt = v ∧ (-1 < (n k).toInt ∧ (n k).toInt ≤ o))) : ¬ pJk d c r n x f t v o k = true := fun q => h (of_decide_eq_true q)
theorem pJn_t (h : (c k).toInt = x ∧ f ≤ (d k).toInt ∧ (d k).toInt ≤ t ∧ (r k).toInt = v ∧ (¬ (n k).toInt = -1 ∧ (n k).toInt ≤ o)) : pJn d c r n x f t v o k = true := decide_eq_true h
theorem pJn_f (h : ¬ ((c k).toInt = x ∧ f ≤ (d k).toInt ∧ (d k).toInt ≤ t ∧ (r k).toInt = v ∧ (¬ (n k).toInt = -1 ∧ (n k).toInt ≤ o))) : ¬ pJn d c r n x f t v o k = true := fun q => h (of_decide_eq_true q)
end PZ13
/-- what the reference enters -/
def enM (st u : gS) (x y w rt kn : Int32) : Prop := u 4 0 = upd (st 4 0) x.toNatClampNeg (st 4 0 x.toNatClampNeg - w) ∧ u 16 0 = upd (st 16 0) (st 0 0 37).toNatClampNeg (st 0 0 7) ∧ u 17 0 = upd (st 17 0) (st 0 0 37).toNatClampNeg x ∧ u 18 0 = upd (st 18 0) (st 0 0 37).toNatClampNeg y ∧ u 19 0 = upd (st 19 0) (st 0 0 37).toNatClampNeg w ∧ u 20 0 = upd (st 20 0) (st 0 0 37).toNatClampNeg rt ∧ u 21 0 = upd (st 21 0) (st 0 0 37).toNatClampNeg kn ∧ (u 0 0 37).toInt = (st 0 0 37).toInt + 1
theorem enM.fr {s st u : gS} {x y w rt kn : Int32} (h : enM st u x y w rt kn) (hf : frM s st) : enM s u x y w rt kn := by
  unfold enM at *
  rw [hf.row (show (4 : Nat) ≠ 0 by decide), hf.row (show (16 : Nat) ≠ 0 by decide), hf.row (show (17 : Nat) ≠ 0 by decide), hf.row (show (18 : Nat) ≠ 0 by decide), hf.row (show (19 : Nat) ≠ 0 by decide), hf.row (show (20 : Nat) ≠ 0 by decide), hf.row (show (21 : Nat) ≠ 0 by decide), hf 0 0 37 (by decide), hf 0 0 7 (by decide)] at h
  exact h
/-- what the class enters -/
def enX (st u : gS) (x y w rt kn : Int32) : Prop := u 13 15 = upd (st 13 15) x.toNatClampNeg (st 13 15 x.toNatClampNeg - w) ∧ u 18 0 = upd (st 18 0) (st 16 0 1).toNatClampNeg (st 0 0 10) ∧ u 18 1 = upd (st 18 1) (st 16 0 1).toNatClampNeg x ∧ u 18 2 = upd (st 18 2) (st 16 0 1).toNatClampNeg y ∧ u 18 3 = upd (st 18 3) (st 16 0 1).toNatClampNeg w ∧ u 18 4 = upd (st 18 4) (st 16 0 1).toNatClampNeg rt ∧ u 18 5 = upd (st 18 5) (st 16 0 1).toNatClampNeg kn ∧ (u 16 0 1).toInt = (st 16 0 1).toInt + 1
/-- a well's water of the next morning -/
def gwF (l r c : Int32) : Int32 := if c < l + r then c else l + r
theorem gw_hi {l r c s v : Int32} (hs : s = l + r) (h : c.toInt < s.toInt) (hv : v = c) : v = gwF l r c := by
  unfold gwF; rw [if_pos (by rw [← hs]; exact Int32.lt_iff_toInt_lt.mpr h)]; exact hv
theorem gw_lo {l r c s v : Int32} (hs : s = l + r) (h : s.toInt ≤ c.toInt) (hv : v = l + r) : v = gwF l r c := by
  unfold gwF; rw [if_neg (by rw [← hs]; exact fun q => absurd (Int32.lt_iff_toInt_lt.mp q) (by omega))]; exact hv
/-- the wells before k have grown -/
def gwI (wl : Nat → Prop) (l r c o n : Nat → Int32) (k : Int) : Prop := ∀ w : Nat, ((w : Int) < k → wl w → n w = gwF (l w) (r w) (c w)) ∧ (¬ ((w : Int) < k ∧ wl w) → n w = o w)
section PZ13b
variable {wl : Nat → Prop} {l r c o n : Nat → Int32} {k k1 : Int} {y v : Int32}
theorem gwI.new (h : k ≤ 0) : gwI wl l r c o o k := fun w => ⟨fun h1 _ => absurd h1 (by omega), fun _ => rfl⟩
theorem gwI.old (h : gwI wl l r c o n y.toInt) (h0 : 0 ≤ y.toInt) : n y.toNatClampNeg = o y.toNatClampNeg := (h _).2 (fun q => by have := gs_cl h0; omega)
theorem gwI.skip (h : gwI wl l r c o n y.toInt) (h0 : 0 ≤ y.toInt) (e : k1 = y.toInt + 1) (hn : ¬ wl y.toNatClampNeg) : gwI wl l r c o n k1 := fun w => by
  have cy := gs_cl h0
  by_cases q : w = y.toNatClampNeg
  · exact ⟨fun _ h2 => absurd (q ▸ h2) hn, fun _ => (h w).2 (fun q2 => hn (q ▸ q2.2))⟩
  · exact ⟨fun h1 h2 => (h w).1 (by omega) h2, fun h1 => (h w).2 (fun q2 => h1 ⟨by omega, q2.2⟩)⟩
theorem gwI.put (h : gwI wl l r c o n y.toInt) (h0 : 0 ≤ y.toInt) (e : k1 = y.toInt + 1) (hw : wl y.toNatClampNeg) (hv : v = gwF (l y.toNatClampNeg) (r y.toNatClampNeg) (c y.toNatClampNeg)) : gwI wl l r c o (upd n y.toNatClampNeg v) k1 := fun w => by
  have cy := gs_cl h0
  by_cases q : w = y.toNatClampNeg
  · rw [q, pk_us]; exact ⟨fun _ _ => hv, fun h1 => absurd ⟨by omega, hw⟩ h1⟩
  · rw [pk_un q]; exact ⟨fun h1 h2 => (h w).1 (by omega) h2, fun h1 => (h w).2 (fun q2 => h1 ⟨by omega, q2.2⟩)⟩
end PZ13b
