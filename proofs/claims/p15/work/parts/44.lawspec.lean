
abbrev lRel (sx sm : gS) : Prop := rAll sx sm
theorem lRel.new : lRel st0X st0M := ⟨rfl, rfl, rfl, rfl, rfl, rfl, fun w => ⟨fun h => absurd h (by show ¬ (0 < (0 : Int32).toInt); decide), fun h => absurd (show (0 : Int32).toInt = 0 from by decide) h⟩, fun w _ => ⟨fun h => absurd h (by show ¬ (0 < (0 : Int32).toInt); decide), fun _ => by show ((-1 : Int32)).toInt = -1; decide⟩, fun w _ h => absurd h (by show ¬ (0 < (0 : Int32).toInt); decide), fun w d _ _ => rfl, fun w _ => rfl, fun w d _ _ => by show -1 ≤ ((-1 : Int32)).toInt; decide, rfl, fun f hf => by
  match f, hf with
  | 0, _ => rfl
  | 1, _ => rfl
  | 2, _ => rfl
  | 3, _ => rfl
  | 4, _ => rfl
  | 5, _ => rfl
  | k + 6, h => exact absurd h (by omega), fun k h => absurd h (by show ¬ ((k : Int) < (0 : Int32).toInt); have : (0 : Int32).toInt = 0 := (by decide); omega), by show (0 : Int32).toInt + (1 : Int32).toInt = 1; decide, ⟨[], LXa.nil (fun _ _ => rfl) (fun _ _ => rfl) (fun _ _ => rfl) (by show (0 : Int32).toInt = 0; decide) (by show (0 : Int32).toInt = 0; decide), LM.nil, by show (0 : Int32).toInt = 0; decide, fun r hr => (by cases hr), trivial⟩⟩