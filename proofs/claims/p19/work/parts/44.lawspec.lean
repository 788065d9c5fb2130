
/-- what the loop keeps of both states together: for the answers of way nothing -/
def lRel (_ _ : gS) : Prop := True
theorem lRel.new : lRel st0X st0M := trivial