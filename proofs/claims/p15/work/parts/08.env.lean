/-! calls that may throw: what the throw needs of the start, and the rows for it -/
def gBadK : Cond → Bool
  | .castable .. => true
  | .declares .. => true
  | _ => false
def gzB : List Cond := tables_1.filter gBadK
theorem gz_bad {w : Cond} (i : Nat) (h : tables_1[i]? = some w) (g : gBadK w = true) : w ∈ gzB := List.mem_filter.mpr ⟨List.mem_of_getElem? h, g⟩
/-- the statics that a Throwable's constructor reads lie outside A; the two messages are there; the words that aren't good ones -/
def gTh (A : Nat → Prop) (U : State) (H : Heap) : Prop := vx_Zq Bundle.tN "UNASSIGNED_STACK" Bundle.steD A U H ∧ vx_Zq Bundle.tN "SUPPRESSED_SENTINEL" Bundle.listD A U H ∧ (∃ sa, vk_R RX9 184 "there is no such draw" sa U) ∧ (∃ sa, vk_R RX9 226 "looks are 1 to 50000" sa U) ∧ (∃ sa, vk_R RX9 189 "a draw has no such fact" sa U) ∧ ∀ w ∈ gzB, va_Nw w U
theorem gTh.same {A : Nat → Prop} {u U : State} {H : Heap} (hvm : u.vm = U.vm) (h : gTh A u H) : gTh A U H := by
  obtain ⟨h1, h2, ⟨a, h3⟩, ⟨b, h4⟩, ⟨d, h6⟩, h5⟩ := h
  refine ⟨h1.moved (by rw [hvm]; exact Vm.Alike.refl U.vm), h2.moved (by rw [hvm]; exact Vm.Alike.refl U.vm), ⟨a, vk_R.same hvm.symm h3⟩, ⟨b, vk_R.same hvm.symm h4⟩, ⟨d, vk_R.same hvm.symm h6⟩, fun w hw => ?_⟩
  have hg : gBadK w = true := (List.mem_filter.mp hw).2
  refine va_Nw.same ?_ hvm (h5 w hw)
  cases w <;> first | rfl | (simp [gBadK] at hg; done)
theorem gTh.warm {A B : Nat → Prop} {u U : State} {H0 H : Heap} {locs : List Loc} (hW : u.WarmedH U.vm) (hS : va_S A H0 H locs) (hBA : ∀ q, B q → A q) (h : gTh A u H0) : gTh B U H := by
  obtain ⟨h1, h2, ⟨a, h3⟩, ⟨b, h4⟩, ⟨d, h6⟩, h5⟩ := h
  refine ⟨((h1.kept hS.2.1).moved hW.alike).narrow hBA, ((h2.kept hS.2.1).moved hW.alike).narrow hBA, ⟨a, h3.warm hW⟩, ⟨b, h4.warm hW⟩, ⟨d, h6.warm hW⟩, fun w hw => ?_⟩
  have hg : gBadK w = true := (List.mem_filter.mp hw).2
  have h0 := h5 w hw
  cases w <;> first | (simp [gBadK] at hg; done) | exact va_Nw.warmC hW h0 | exact va_Nw.warmD hW h0
/-! the words of a text of rights, as constants of the Reader -/
def sxI : List Nat := [50, 60, 65, 70, 78, 102, 107, 117, 122]
def sxT : List String := ["turns", "guest", "wed", "drought", "dry", "at", "of", "below", "to"]
def sxL : List Nat := [5, 5, 3, 7, 3, 2, 2, 5, 2]
def sxB : List (List Int32) := [[116, 117, 114, 110, 115], [103, 117, 101, 115, 116], [119, 101, 100], [100, 114, 111, 117, 103, 104, 116], [100, 114, 121], [97, 116], [111, 102], [98, 101, 108, 111, 119], [116, 111]]
def gStr (sK sV : Nat → Nat) (A : Nat → Prop) (U : State) (H : Heap) : Prop := vk_S 9 sxL sxB sK sV A U H ∧ (∀ i, i < 9 → vk_R RX7 (sxI.getD i 0) (sxT.getD i "") (sK i) U) ∧ va_Z "java/lang/String" "COMPACT_STRINGS" "Z" (.int 1) A U H ∧ va_Zq "jdk/internal/util/Preconditions" "SIOOBE_FORMATTER" "Ljava/util/function/BiFunction;" A U H
theorem gStr.same {sK sV : Nat → Nat} {A : Nat → Prop} {u U : State} {H : Heap} (hvm : u.vm = U.vm) (h : gStr sK sV A u H) : gStr sK sV A U H := ⟨h.1.moved (by rw [hvm]; exact Vm.Alike.refl U.vm), fun i hi => vk_R.same hvm.symm (h.2.1 i hi), h.2.2.1.moved (by rw [hvm]; exact Vm.Alike.refl U.vm), h.2.2.2.moved (by rw [hvm]; exact Vm.Alike.refl U.vm)⟩
theorem gStr.warm {sK sV : Nat → Nat} {A B : Nat → Prop} {u U : State} {H0 H : Heap} {locs : List Loc} (hW : u.WarmedH U.vm) (hS : va_S A H0 H locs) (hBA : ∀ q, B q → A q) (h : gStr sK sV A u H0) : gStr sK sV B U H := ⟨((h.1.kept hS.2.1).moved hW.alike).narrow hBA, fun i hi => (h.2.1 i hi).warm hW, ((h.2.2.1.kept hS.2.1).moved hW.alike).narrow hBA, ((h.2.2.2.kept hS.2.1).moved hW.alike).narrow hBA⟩
def gE (sK sV : Nat → Nat) (A : Nat → Prop) (U : State) (H : Heap) : Prop := gTh A U H ∧ gStr sK sV A U H
theorem gE.same {sK sV : Nat → Nat} {A : Nat → Prop} {u U : State} {H : Heap} (hvm : u.vm = U.vm) (h : gE sK sV A u H) : gE sK sV A U H := ⟨h.1.same hvm, h.2.same hvm⟩
theorem gE.warm {sK sV : Nat → Nat} {A B : Nat → Prop} {u U : State} {H0 H : Heap} {locs : List Loc} (hW : u.WarmedH U.vm) (hS : va_S A H0 H locs) (hBA : ∀ q, B q → A q) (h : gE sK sV A u H0) : gE sK sV B U H := ⟨h.1.warm hW hS hBA, h.2.warm hW hS hBA⟩
