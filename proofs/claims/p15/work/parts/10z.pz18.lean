/-- today's rows stay -/
def tdX (st u : gS) : Prop := ∀ k, k = 13 ∨ k = 14 ∨ k = 15 → u k 15 = st k 15
theorem tdX.rf {st : gS} : tdX st st := fun _ _ => rfl
theorem tdX.trans {a b c : gS} (h1 : tdX a b) (h2 : tdX b c) : tdX a c := fun k h => (h2 k h).trans (h1 k h)
theorem tdX.upk {k i j : Nat} {a b : gS} {v : Int32} (e : b = gU a k i j v) (hk : k < 13 ∨ 15 < k) : tdX a b := fun k' h => by rw [e, congrFun (gU_k (by omega)) 15]
theorem tdX.up {k i j : Nat} {a b : gS} {v : Int32} (e : b = gU a k i j v) (hi : i ≠ 15) : tdX a b := fun k' h => by rw [e, gU_ne (fun q => hi q.2.symm)]
theorem tdX.frame {a b : gS} {fs : List Nat} (h : gF kX fs a b) (hf : ∀ x ∈ fs, x < 1300 ∨ 1599 < x) : tdX a b := fun k hk => funext fun j => h k 15 j (fun hm => by
  have := hf _ hm
  rcases hk with rfl | rfl | rfl
  · have e : kX 13 j = 1300 := rfl
    omega
  · have e : kX 14 j = 1400 := rfl
    omega
  · have e : kX 15 j = 1500 := rfl
    omega)
theorem tdX.day {i : Nat} {a b : gS} (h : dyO i a b) (hi : i ≠ 15) : tdX a b := fun k hk => h k 15 hk (fun e => hi e.symm)
