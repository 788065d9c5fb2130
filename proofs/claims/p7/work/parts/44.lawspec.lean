
def rDate (sx sm : gS) : Prop := (sx 0 0 10).toInt = (sm 0 0 7).toInt
theorem rDate.new : rDate st0X st0M := rfl
theorem rDate.keep {fs gs : List Nat} {sx sm ux um : gS} (h1 : gBN bX kX fs sx ux) (h2 : gBN bM kM gs sm um) (h : rDate sx sm) (hf : (10 : Nat) ∉ fs) (hg : (7 : Nat) ∉ gs) : rDate ux um := by
  unfold rDate at *
  rw [h1.2 0 0 10 hf, h2.2 0 0 7 hg]; exact h
/-- what the loop keeps of both states together -/
def lRel (sx sm : gS) : Prop := rDate sx sm
theorem lRel.new : lRel st0X st0M := rDate.new