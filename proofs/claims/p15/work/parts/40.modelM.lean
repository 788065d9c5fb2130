
/-- the cells of a new reference -/
def wModel (cy : Nat → ClassId) (h0 : Nat) (u : Nat → Nat → Nat) : va_W := [(h0, .inr (10, [.int 0, .ref (u 0 0), .ref (u 0 1), .ref (u 0 2), .ref (u 0 3), .ref (u 0 4), .ref (u 0 5), .int 0, .ref (u 0 6), .int 0, .int 0, .int 0, .int 0, .int 0, .int 0, .int 0, .int 0, .long 0, .int 0, .int 0, .ref (u 0 7), .ref (u 0 8), .ref (u 0 9), .ref (u 0 10), .ref (u 0 11), .ref (u 0 12), .ref (u 0 13), .ref (u 0 14), .int 0, .int 0, .int 0, .ref (u 0 15), .ref (u 0 16), .ref (u 0 17), .ref (u 0 18), .ref (u 0 19), .ref (u 0 20), .int 0, .ref (u 0 21), .ref (u 0 22), .ref (u 0 23), .ref (u 0 24), .ref (u 0 25), .ref (u 0 26), .ref (u 0 27), .ref (u 0 28), .ref (u 0 29), .ref (u 0 30), .ref (u 0 31), .ref (u 0 32), .ref (u 0 33), .ref (u 0 34), .ref (u 0 35), .ref (u 0 36), .ref (u 0 37), .int (-1), .int 0, .int 0, .int 0])), ((u 0 0), .inl (cy 2, 6, .inl (fun _ => 0))), ((u 0 1), .inl (cy 0, 6, .inl (fun _ => 0))), ((u 0 2), .inl (cy 0, 6, .inl (fun _ => 0))), ((u 0 3), .inl (cy 0, 6, .inl (fun _ => 0))), ((u 0 4), .inl (cy 0, 6, .inl (fun _ => 0))), ((u 0 5), .inl (cy 0, 1200, .inl (fun _ => (-1)))), ((u 0 6), .inl (cy 1, 800, .inl (fun _ => 0))), ((u 0 7), .inl (cy 0, 48, .inl (fun _ => 0))), ((u 0 8), .inl (cy 0, 48, .inl (fun _ => 0))), ((u 0 9), .inl (cy 0, 48, .inl (fun _ => 0))), ((u 0 10), .inl (cy 0, 48, .inl (fun _ => 0))), ((u 0 11), .inl (cy 0, 48, .inl (fun _ => 0))), ((u 0 12), .inl (cy 0, 48, .inl (fun _ => 0))), ((u 0 13), .inl (cy 0, 384, .inl (fun _ => 0))), ((u 0 14), .inl (cy 0, 384, .inl (fun _ => 0))), ((u 0 15), .inl (cy 0, 300, .inl (fun _ => 0))), ((u 0 16), .inl (cy 0, 300, .inl (fun _ => 0))), ((u 0 17), .inl (cy 0, 300, .inl (fun _ => 0))), ((u 0 18), .inl (cy 0, 300, .inl (fun _ => 0))), ((u 0 19), .inl (cy 0, 300, .inl (fun _ => 0))), ((u 0 20), .inl (cy 0, 300, .inl (fun _ => 0))), ((u 0 21), .inl (cy 2, 4, .inl (fun _ => 0))), ((u 0 22), .inl (cy 0, 4, .inl (fun _ => 0))), ((u 0 23), .inl (cy 0, 4, .inl (fun _ => 0))), ((u 0 24), .inl (cy 0, 4, .inl (fun _ => 0))), ((u 0 25), .inl (cy 0, 4, .inl (fun _ => 0))), ((u 0 26), .inl (cy 0, 4, .inl (fun _ => 0))), ((u 0 27), .inl (cy 0, 36, .inl (fun _ => 0))), ((u 0 28), .inl (cy 0, 342, .inl (fun _ => 0))), ((u 0 29), .inl (cy 0, 228, .inl (fun _ => 0))), ((u 0 30), .inl (cy 0, 228, .inl (fun _ => 0))), ((u 0 31), .inl (cy 0, 228, .inl (fun _ => 0))), ((u 0 32), .inl (cy 0, 57, .inl (fun _ => 0))), ((u 0 33), .inl (cy 0, 57, .inl (fun _ => 0))), ((u 0 34), .inl (cy 0, 342, .inl (fun _ => 0))), ((u 0 35), .inl (cy 0, 342, .inl (fun _ => 0))), ((u 0 36), .inl (cy 0, 56, .inl (fun _ => 0))), ((u 0 37), .inl (cy 2, 4, .inl (fun _ => 0)))]
def adM (h0 : Nat) (u : Nat → Nat → Nat) : Nat → Nat → Nat := fun k _ => match k with
  | 0 => h0
  | k + 1 => u 0 k
set_option maxHeartbeats 8000000 in
set_option maxRecDepth 100000 in
theorem model_key (cy : Nat → ClassId) (h0 : Nat) (u : Nat → Nat → Nat) : ∀ k i, i < cnM k → (wModel cy h0 u)[k]? = some (adM h0 u k i, shM cy (adM h0 u) k i (st0M k i)) := by
  intro k i hi
  match k, hi with
  | 0, hi =>
    match i, hi with
    | 0, _ => exact rfl
    | n + 1, hi => exact absurd hi (by show ¬ (n + 1 < 1); omega)
  | 1, hi =>
    match i, hi with
    | 0, _ => exact rfl
    | n + 1, hi => exact absurd hi (by show ¬ (n + 1 < 1); omega)
  | 2, hi =>
    match i, hi with
    | 0, _ => exact rfl
    | n + 1, hi => exact absurd hi (by show ¬ (n + 1 < 1); omega)
  | 3, hi =>
    match i, hi with
    | 0, _ => exact rfl
    | n + 1, hi => exact absurd hi (by show ¬ (n + 1 < 1); omega)
  | 4, hi =>
    match i, hi with
    | 0, _ => exact rfl
    | n + 1, hi => exact absurd hi (by show ¬ (n + 1 < 1); omega)
  | 5, hi =>
    match i, hi with
    | 0, _ => exact rfl
    | n + 1, hi => exact absurd hi (by show ¬ (n + 1 < 1); omega)
  | 6, hi =>
    match i, hi with
    | 0, _ => exact rfl
    | n + 1, hi => exact absurd hi (by show ¬ (n + 1 < 1); omega)
  | 7, hi =>
    match i, hi with
    | 0, _ => exact rfl
    | n + 1, hi => exact absurd hi (by show ¬ (n + 1 < 1); omega)
  | 8, hi =>
    match i, hi with
    | 0, _ => exact rfl
    | n + 1, hi => exact absurd hi (by show ¬ (n + 1 < 1); omega)
  | 9, hi =>
    match i, hi with
    | 0, _ => exact rfl
    | n + 1, hi => exact absurd hi (by show ¬ (n + 1 < 1); omega)
  | 10, hi =>
    match i, hi with
    | 0, _ => exact rfl
    | n + 1, hi => exact absurd hi (by show ¬ (n + 1 < 1); omega)
  | 11, hi =>
    match i, hi with
    | 0, _ => exact rfl
    | n + 1, hi => exact absurd hi (by show ¬ (n + 1 < 1); omega)
  | 12, hi =>
    match i, hi with
    | 0, _ => exact rfl
    | n + 1, hi => exact absurd hi (by show ¬ (n + 1 < 1); omega)
  | 13, hi =>
    match i, hi with
    | 0, _ => exact rfl
    | n + 1, hi => exact absurd hi (by show ¬ (n + 1 < 1); omega)
  | 14, hi =>
    match i, hi with
    | 0, _ => exact rfl
    | n + 1, hi => exact absurd hi (by show ¬ (n + 1 < 1); omega)
  | 15, hi =>
    match i, hi with
    | 0, _ => exact rfl
    | n + 1, hi => exact absurd hi (by show ¬ (n + 1 < 1); omega)
  | 16, hi =>
    match i, hi with
    | 0, _ => exact rfl
    | n + 1, hi => exact absurd hi (by show ¬ (n + 1 < 1); omega)
  | 17, hi =>
    match i, hi with
    | 0, _ => exact rfl
    | n + 1, hi => exact absurd hi (by show ¬ (n + 1 < 1); omega)
  | 18, hi =>
    match i, hi with
    | 0, _ => exact rfl
    | n + 1, hi => exact absurd hi (by show ¬ (n + 1 < 1); omega)
  | 19, hi =>
    match i, hi with
    | 0, _ => exact rfl
    | n + 1, hi => exact absurd hi (by show ¬ (n + 1 < 1); omega)
  | 20, hi =>
    match i, hi with
    | 0, _ => exact rfl
    | n + 1, hi => exact absurd hi (by show ¬ (n + 1 < 1); omega)
  | 21, hi =>
    match i, hi with
    | 0, _ => exact rfl
    | n + 1, hi => exact absurd hi (by show ¬ (n + 1 < 1); omega)
  | 22, hi =>
    match i, hi with
    | 0, _ => exact rfl
    | n + 1, hi => exact absurd hi (by show ¬ (n + 1 < 1); omega)
  | 23, hi =>
    match i, hi with
    | 0, _ => exact rfl
    | n + 1, hi => exact absurd hi (by show ¬ (n + 1 < 1); omega)
  | 24, hi =>
    match i, hi with
    | 0, _ => exact rfl
    | n + 1, hi => exact absurd hi (by show ¬ (n + 1 < 1); omega)
  | 25, hi =>
    match i, hi with
    | 0, _ => exact rfl
    | n + 1, hi => exact absurd hi (by show ¬ (n + 1 < 1); omega)
  | 26, hi =>
    match i, hi with
    | 0, _ => exact rfl
    | n + 1, hi => exact absurd hi (by show ¬ (n + 1 < 1); omega)
  | 27, hi =>
    match i, hi with
    | 0, _ => exact rfl
    | n + 1, hi => exact absurd hi (by show ¬ (n + 1 < 1); omega)
  | 28, hi =>
    match i, hi with
    | 0, _ => exact rfl
    | n + 1, hi => exact absurd hi (by show ¬ (n + 1 < 1); omega)
  | 29, hi =>
    match i, hi with
    | 0, _ => exact rfl
    | n + 1, hi => exact absurd hi (by show ¬ (n + 1 < 1); omega)
  | 30, hi =>
    match i, hi with
    | 0, _ => exact rfl
    | n + 1, hi => exact absurd hi (by show ¬ (n + 1 < 1); omega)
  | 31, hi =>
    match i, hi with
    | 0, _ => exact rfl
    | n + 1, hi => exact absurd hi (by show ¬ (n + 1 < 1); omega)
  | 32, hi =>
    match i, hi with
    | 0, _ => exact rfl
    | n + 1, hi => exact absurd hi (by show ¬ (n + 1 < 1); omega)
  | 33, hi =>
    match i, hi with
    | 0, _ => exact rfl
    | n + 1, hi => exact absurd hi (by show ¬ (n + 1 < 1); omega)
  | 34, hi =>
    match i, hi with
    | 0, _ => exact rfl
    | n + 1, hi => exact absurd hi (by show ¬ (n + 1 < 1); omega)
  | 35, hi =>
    match i, hi with
    | 0, _ => exact rfl
    | n + 1, hi => exact absurd hi (by show ¬ (n + 1 < 1); omega)
  | 36, hi =>
    match i, hi with
    | 0, _ => exact rfl
    | n + 1, hi => exact absurd hi (by show ¬ (n + 1 < 1); omega)
  | 37, hi =>
    match i, hi with
    | 0, _ => exact rfl
    | n + 1, hi => exact absurd hi (by show ¬ (n + 1 < 1); omega)
  | 38, hi =>
    match i, hi with
    | 0, _ => exact rfl
    | n + 1, hi => exact absurd hi (by show ¬ (n + 1 < 1); omega)
  | k + 39, hi => exact absurd hi (by show ¬ (i < 0); omega)
theorem cnM_one {k i : Nat} (h : i < cnM k) : i = 0 := by
  by_cases hk : k < 39
  · have h1 : ∀ k, k < 39 → cnM k = 1 := by decide +kernel
    rw [h1 k hk] at h
    omega
  · obtain ⟨n, rfl⟩ : ∃ n, k = n + 39 := ⟨k - 39, by omega⟩
    exact absurd h (by show ¬ (i < 0); omega)
theorem model_gM {G : va_G} {cy : Nat → ClassId} {A : Nat → Prop} {h0 : Nat} {u : Nat → Nat → Nat} {ws : va_W} {H : Heap} (hP : va_P G vwCl (wModel cy h0 u ++ ws) H) (hD : va_D A (wModel cy h0 u ++ ws)) : gM G (shM cy (adM h0 u)) cnM (adM h0 u) st0M H ∧ gI cnM (adM h0 u) ∧ (∀ k i, i < cnM k → A (adM h0 u k i)) ∧ (∀ k i, i < cnM k → ∀ q ∈ ws, q.1 ≠ adM h0 u k i) ∧ ∀ k i, i < cnM k → (adM h0 u k i, shM cy (adM h0 u) k i (st0M k i)) ∈ wModel cy h0 u := by
  have key : ∀ k i, i < cnM k → (wModel cy h0 u ++ ws)[k]? = some (adM h0 u k i, shM cy (adM h0 u) k i (st0M k i)) ∧ k < (wModel cy h0 u).length := fun k i hi => by
    have h1 := model_key cy h0 u k i hi
    have h2 := (List.getElem?_eq_some_iff.mp h1).1
    rw [List.getElem?_append_left h2]
    exact ⟨h1, h2⟩
  refine ⟨fun k i hi => hP _ _ (key k i hi).1, fun k i k' i' hi hi' e => ?_, fun k i hi => hD.2 _ _ (key k i hi).1, fun k i hi q hq e => ?_, fun k i hi => List.mem_of_getElem? (model_key cy h0 u k i hi)⟩
  · have h1 := hD.1 _ _ _ _ (key k i hi).1 (key k' i' hi').1 e
    exact ⟨h1, by rw [cnM_one hi, cnM_one hi']⟩
  · obtain ⟨n, hn⟩ := List.getElem?_of_mem hq
    have h4 : (wModel cy h0 u ++ ws)[(wModel cy h0 u).length + n]? = some q := by rw [List.getElem?_append_right (by omega), Nat.add_sub_cancel_left]; exact hn
    have h5 := hD.1 _ _ _ _ (key k i hi).1 h4 e.symm
    have := (key k i hi).2
    omega