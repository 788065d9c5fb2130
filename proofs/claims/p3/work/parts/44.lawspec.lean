
def rSize (sx sm : gS) : Prop := (sx 1 0 1).toInt = (sm 0 0 9).toInt
theorem rSize.new : rSize st0X st0M := rfl
theorem rSize.keep {fs gs : List Nat} {sx sm ux um : gS} (h1 : gBN bX kX fs sx ux) (h2 : gBN bM kM gs sm um) (h : rSize sx sm) (hf : (101 : Nat) ∉ fs) (hg : (9 : Nat) ∉ gs) : rSize ux um := by
  unfold rSize at *
  rw [h1.2 1 0 1 hf, h2.2 0 0 9 hg]; exact h
/-- what the loop keeps of both states together -/
def lRel (sx sm : gS) : Prop := rSize sx sm
theorem lRel.new : lRel st0X st0M := rSize.new