theorem opX.of {rs : List Rl} {st v u : gS} {R : Nat} (h : opX rs v u R) (o : ∀ k, k ≠ 46 → v k = st k) : opX rs st u R := by
  obtain ⟨h1, h2, h3, h4⟩ := h
  rw [o 13 (by decide), o 6 (by decide), o 5 (by decide)] at h1
  rw [o 13 (by decide), o 6 (by decide), o 5 (by decide), o 14 (by decide)] at h2
  rw [o 11 (by decide), o 38 (by decide)] at h3
  exact ⟨h1, h2, h3, fun k a h9 h8 => (h4 k a h9 h8).trans (by rw [o k (by omega)])⟩
theorem jX.acts {rs : List Rl} {s0 st : gS} {as : List Int} {a : Int} (h : jX rs s0 st as a) : ∀ j, j < as.length + 1 → (st 46 0 j).toInt = (a :: as).getD (as.length - j) 0 := fun j hj => by
  by_cases q : j = as.length
  · rw [q, Nat.sub_self]; exact h.2.1
  · rw [show as.length - j = (as.length - 1 - j) + 1 by omega]
    exact cX.acts h.1 j (by omega)
/-- the plan that was found: its acts, its day, its days -/
def fdX (st u : gS) (as : List Int) (n : Int32) : Prop := (∀ j : Nat, (j : Int) < 4 * n.toInt → (u 47 0 j).toInt = if (st 20 0 (j % 4)).toInt = -1 then -1 else as.getD (as.length - 1 - j) 0) ∧ u 38 0 13 = st 38 0 4 ∧ u 38 0 14 = n ∧ (as.length : Int) = 4 * n.toInt
theorem jX.fd {rs : List Rl} {s0 st v u : gS} {as : List Int} {a : Int} {n : Int32} (h : jX rs s0 st as a) (o : ∀ k, k ≠ 38 → v k = st k) (e4 : v 38 0 4 = st 38 0 4) (hk : kfX v u (4 * n.toInt)) (e13 : u 38 0 13 = v 38 0 4) (e14 : u 38 0 14 = n) (hl : (as.length : Int) + 1 = 4 * n.toInt) : fdX s0 u (a :: as) n := by
  have k9 := h.2.2.2.2.2.2.1
  refine ⟨fun j hj => ?_, ?_, e14, ?_⟩
  · rw [hk j hj, o 20 (by decide), o 46 (by decide), k9.1, h.acts j (by omega)]
    rfl
  · rw [e13, e4]; exact k9.2.2.2.2.2.2.2.1
  · show ((as.length + 1 : Nat) : Int) = _; omega
