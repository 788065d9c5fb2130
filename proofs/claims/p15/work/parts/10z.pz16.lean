theorem standI.right {R : Prop} {g r : Int} (h : standI R g r) (h0 : ¬ r = 0) (h2 : ¬ r = 2) : R := by
  rcases h with ⟨a, _⟩ | ⟨_, ⟨_, b⟩ | ⟨_, b⟩⟩
  · exact a
  · exact absurd b h2
  · exact absurd b h0
theorem standI.none {R : Prop} {g r : Int} (h : standI R g r) (h0 : r = 0) : ¬ R ∧ g = -1 := by
  rcases h with ⟨_, b⟩ | ⟨a, ⟨_, b⟩ | ⟨b, _⟩⟩
  · omega
  · omega
  · exact ⟨a, b⟩
theorem standI.guest {R : Prop} {g r : Int} (h : standI R g r) (h0 : r = 2) : ¬ R ∧ 0 ≤ g := by
  rcases h with ⟨_, b⟩ | ⟨a, ⟨b, _⟩ | ⟨_, b⟩⟩
  · omega
  · exact ⟨a, b⟩
  · omega
theorem standI.not {R : Prop} {g r : Int} (h : standI R g r) (h0 : ¬ r = 1) : ¬ R := by
  rcases h with ⟨_, b⟩ | ⟨a, _⟩
  · exact absurd b h0
  · exact a
theorem standI.yes {R : Prop} {g r : Int} (h : standI R g r) (h0 : r = 1) : R := by
  rcases h with ⟨a, _⟩ | ⟨_, ⟨_, b⟩ | ⟨_, b⟩⟩
  · exact a
  · omega
  · omega
