theorem LXa.upk {rs : List Rl} {st u : gS} {z k i j : Nat} {v : Int32} (h : LXa rs st z) (e : u = gU st k i j v) (hk : k < 25 ∨ 37 < k) : LXa rs u z := h.all (by rw [e]; exact lA.upo lA.rf hk)
