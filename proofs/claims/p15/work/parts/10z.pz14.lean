/-! bytes that are fed; days that are lent -/
def bq (v k : Int32) : Int32 := vp_nar .byte ((v >>> (k &&& 31)).toInt8.toInt32)
def fd4 (f : Nat → Int32) (n : Nat) (v : Int32) : Nat → Int32 := upd (upd (upd (upd f n (bq v 24)) (n + 1) (bq v 16)) (n + 2) (bq v 8)) (n + 3) (bq v 0)
def fd20 (f : Nat → Int32) (n : Nat) (x y w v t : Int32) : Nat → Int32 := fd4 (fd4 (fd4 (fd4 (fd4 f n x) (n + 4) y) (n + 8) w) (n + 12) v) (n + 16) t
/-- no day between lo and hi is the clan's -/
def noBk (o : Nat → Int32) (c lo hi : Int) : Prop := ∀ d : Nat, lo < (d : Int) → (d : Int) < hi → ¬ (o d).toInt = c
theorem noBk.nil {o : Nat → Int32} {c lo hi : Int} (h : hi ≤ lo + 1) : noBk o c lo hi := fun d h1 h2 => by omega
theorem noBk.step {o : Nat → Int32} {c lo k1 : Int} {y : Int32} (h : noBk o c lo y.toInt) (h0 : 0 ≤ y.toInt) (e : k1 = y.toInt + 1) (hn : ¬ (o y.toNatClampNeg).toInt = c) : noBk o c lo k1 := fun d h1 h2 => by
  by_cases q : (d : Int) < y.toInt
  · exact h d h1 q
  · rw [show d = y.toNatClampNeg by (have := gs_cl h0; omega)]; exact hn
theorem noBk.one {o p : Nat → Int32} {c lo a b : Int} (h : noBk o c lo a) (g : noBk p c lo b) (e : ∀ d : Nat, lo < (d : Int) → (d : Int) < 200 → (o d).toInt = (p d).toInt) (ha : lo < a) (hb : lo < b) (ha9 : a ≤ 199) (hb9 : b ≤ 199) (h1 : (o a.toNat).toInt = c) (h2 : (p b.toNat).toInt = c) (h0 : 0 ≤ lo) : a = b := by
  by_cases q : a < b
  · exact absurd ((e a.toNat (by omega) (by omega)).symm.trans h1) (g a.toNat (by omega) (by omega))
  · by_cases q2 : b < a
    · exact absurd ((e b.toNat (by omega) (by omega)).trans h2) (h b.toNat (by omega) (by omega))
    · omega
