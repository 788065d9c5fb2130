/-- behind goes: what the rest of the turn needs -/
def gzW (rs : List Rl) (s0 sv u : gS) (m : Int) (as : List Int) (t k f x : Int) : Prop := nxI (wFree (evM rs s0) (as.length / 4 + 1) (as.length % 4) (wdA (evM rs s0) as)) (wCan (evM rs s0) (as.length % 4) (wdA (evM rs s0) as)) t x ∧ ¬ x = -1 ∧ (x = 9 ∨ ¬ (sv 0 0 57).toInt = m) ∧ jM rs s0 u as x ∧ (u 0 0 57).toInt = (if x = 9 then k else k + 1) ∧ (u 0 0 58).toInt = f ∧ (u 37 0 = sv 37 0 ∧ u 38 0 = sv 38 0 ∧ u 0 0 55 = sv 0 0 55 ∧ u 0 0 56 = sv 0 0 56 ∧ u 0 0 0 = sv 0 0 0) ∧ ∃ v9 : Int32, u 33 0 = upd (sv 33 0) as.length v9 ∧ (sv 33 0 as.length).toInt + 1 ≤ v9.toInt ∧ v9.toInt ≤ 8
def gzM (rs : List Rl) (s0 sv u : gS) (m : Int) (as : List Int) (t k f : Int) : Prop := ∃ x : Int, gzW rs s0 sv u m as t k f x
section GZN
variable {rs : List Rl} {s0 sv u : gS} {m t k f x : Int} {as : List Int}
theorem gzW.nx (h : gzW rs s0 sv u m as t k f x) : nxI (wFree (evM rs s0) (as.length / 4 + 1) (as.length % 4) (wdA (evM rs s0) as)) (wCan (evM rs s0) (as.length % 4) (wdA (evM rs s0) as)) t x := h.1
theorem gzW.ne (h : gzW rs s0 sv u m as t k f x) : ¬ x = -1 := h.2.1
theorem gzW.mx (h : gzW rs s0 sv u m as t k f x) : x = 9 ∨ ¬ (sv 0 0 57).toInt = m := h.2.2.1
theorem gzW.jm (h : gzW rs s0 sv u m as t k f x) : jM rs s0 u as x := h.2.2.2.1
theorem gzW.e57 (h : gzW rs s0 sv u m as t k f x) : (u 0 0 57).toInt = (if x = 9 then k else k + 1) := h.2.2.2.2.1
theorem gzW.e58 (h : gzW rs s0 sv u m as t k f x) : (u 0 0 58).toInt = f := h.2.2.2.2.2.1
theorem gzW.rows (h : gzW rs s0 sv u m as t k f x) : u 37 0 = sv 37 0 ∧ u 38 0 = sv 38 0 ∧ u 0 0 55 = sv 0 0 55 ∧ u 0 0 56 = sv 0 0 56 ∧ u 0 0 0 = sv 0 0 0 := h.2.2.2.2.2.2.1
theorem gzW.e33 (h : gzW rs s0 sv u m as t k f x) : ∃ v9 : Int32, u 33 0 = upd (sv 33 0) as.length v9 ∧ (sv 33 0 as.length).toInt + 1 ≤ v9.toInt ∧ v9.toInt ≤ 8 := h.2.2.2.2.2.2.2
end GZN
