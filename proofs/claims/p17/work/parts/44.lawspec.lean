
def rWell (sx sm : gS) : Prop := ∀ w : Nat, 0 < (sx 5 0 w).toInt ↔ ¬ (sm 1 0 w).toInt = 0
theorem rWell.new : rWell st0X st0M := fun w => ⟨fun h => absurd h (by show ¬ (0 < (0 : Int32).toInt); decide), fun h => absurd (show (0 : Int32).toInt = 0 from by decide) h⟩
theorem rWell.rows {sx sm ux um : gS} (h : rWell sx sm) (h1 : ux 5 0 = sx 5 0) (h2 : um 1 0 = sm 1 0) : rWell ux um := by
  intro w; rw [h1, h2]; exact h w
theorem rWell.keep {fs gs : List Nat} {sx sm ux um : gS} (h1 : gBN bX kX fs sx ux) (h2 : gBN bM kM gs sm um) (h : rWell sx sm) (hf : (500 : Nat) ∉ fs) (hg : (100 : Nat) ∉ gs) : rWell ux um := h.rows (funext fun j => h1.2 5 0 j hf) (funext fun j => h2.2 1 0 j hg)
theorem rWell.up {sx sm ux um : gS} {j : Nat} {y : Int32} (h : rWell sx sm) (h1 : ux 5 0 = upd (sx 5 0) j y) (h2 : um 1 0 = upd (sm 1 0) j (vp_nar .boolean 1)) (hy : 1 ≤ y.toInt) : rWell ux um := by
  intro w
  rw [h1, h2]
  by_cases e : w = j
  · rw [e, pk_us, pk_us]
    exact ⟨fun _ => by decide, fun _ => by omega⟩
  · rw [pk_un e, pk_un e]; exact h w
/-- what the loop keeps of both states together -/
def lRel (sx sm : gS) : Prop := rWell sx sm
theorem lRel.new : lRel st0X st0M := rWell.new