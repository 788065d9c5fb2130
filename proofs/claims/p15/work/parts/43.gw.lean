
/-- what the law's loop keeps of the reference -/
def mInv (st : gS) : Prop := gBd bM st
theorem mInv.keep {fs : List Nat} {st u : gS} (h : gBN bM kM fs st u) (_ : mInv st) : mInv u := h.1
theorem mInv.new : mInv st0M := st0M_bd
def gWd (G : va_G) (cy : Nat → ClassId) (aX aM : Nat → Nat → Nat) (o : Nat) (sx sm : gS) (f : Nat → Int64) (H : Heap) : Prop := gM G (shX cy aX) cnX aX sx H ∧ gM G (shM cy aM) cnM aM sm H ∧ va_at G vwCl (o, gO cy f) H
def gAp (aX aM : Nat → Nat → Nat) (o : Nat) : Prop := gI cnX aX ∧ gI cnM aM ∧ (∀ k i k' i', i < cnX k → i' < cnM k' → aX k i ≠ aM k' i') ∧ (∀ k i, i < cnX k → aX k i ≠ o) ∧ (∀ k i, i < cnM k → aM k i ≠ o)
section GW
variable {p : Program} {l : Launch} {e : Env} {R : Room} {s : State} {m : MethodId} {args : Array Value} {below : List Frame} {meth : Method} {c : Code} {H H0 : Heap} {locs : List Loc} {cells slots : Nat} {Q : State → Prop}
variable {G : va_G} {cy : Nat → ClassId} {sK sV : Nat → Nat} {A : Nat → Prop} {aX aM : Nat → Nat → Nat} {o : Nat} {sx sm : gS} {f : Nat → Int64} {cc : ByteArray} {pc : Nat} {ls : Array Slot} {rest st0 : List Value} {mc ms : Nat}
theorem gw_callX {post : Int32 → gS → Prop} {a : Array Value} (hr : va_Run p l e R s m args below meth c H locs cells slots mc ms (F0 m pc ls st0) rest (gsQi G (shX cy aX) cnX aX post (gA cnX aX H.size) a) (gA cnX aX H.size)) (hAp : gAp aX aM o) (hm : ∀ k i, i < cnX k → A (aX k i)) (hW : gWd G cy aX aM o sx sm f H) (hS : va_S A H0 H locs) (hA : ∀ q, H0.size ≤ q → A q)
    (kk : ∀ (r : Int32) (sx1 : gS) (H1 : Heap) (locs1 : List Loc), post r sx1 → gWd G cy aX aM o sx1 sm f H1 → va_S A H0 H1 locs1 → W p l e R s m args below meth c H1 locs1 (cells + mc) (slots + ms) Q (F0 m (pc + 3) ls (.int r :: rest))) : W p l e R s m args below meth c H locs cells slots Q (F0 m pc ls st0) := by
  have hF := gs_sub hm hS hA
  refine va_calli hr hS (fun q _ h => hF q h) hF (fun r u t H1 locs1 ht hvm hw hB hz1 hk1 hS1 => ?_)
  refine kk r u H1 locs1 hw ⟨by rw [← ht]; exact hB, hW.2.1.kept (fun k i hi => hk1 _ (hW.2.1 k i hi).lt (fun h => h.elim (fun ⟨k', i', hi', e9⟩ => hAp.2.2.1 k' i' k i hi' hi e9.symm) (fun h => Nat.not_le.mpr (hW.2.1 k i hi).lt h))), hW.2.2.kept (hk1 _ hW.2.2.lt (fun h => h.elim (fun ⟨k', i', hi', e9⟩ => hAp.2.2.2.1 k' i' hi' e9.symm) (fun h => Nat.not_le.mpr hW.2.2.lt h)))⟩ hS1
theorem gw_callM {post : Int32 → gS → Prop} {a : Array Value} (hr : va_Run p l e R s m args below meth c H locs cells slots mc ms (F0 m pc ls st0) rest (gsQi G (shM cy aM) cnM aM post (gA cnM aM H.size) a) (gA cnM aM H.size)) (hAp : gAp aX aM o) (hm : ∀ k i, i < cnM k → A (aM k i)) (hW : gWd G cy aX aM o sx sm f H) (hS : va_S A H0 H locs) (hA : ∀ q, H0.size ≤ q → A q)
    (kk : ∀ (r : Int32) (sm1 : gS) (H1 : Heap) (locs1 : List Loc), post r sm1 → gWd G cy aX aM o sx sm1 f H1 → va_S A H0 H1 locs1 → W p l e R s m args below meth c H1 locs1 (cells + mc) (slots + ms) Q (F0 m (pc + 3) ls (.int r :: rest))) : W p l e R s m args below meth c H locs cells slots Q (F0 m pc ls st0) := by
  have hF := gs_sub hm hS hA
  refine va_calli hr hS (fun q _ h => hF q h) hF (fun r u t H1 locs1 ht hvm hw hB hz1 hk1 hS1 => ?_)
  refine kk r u H1 locs1 hw ⟨hW.1.kept (fun k i hi => hk1 _ (hW.1 k i hi).lt (fun h => h.elim (fun ⟨k', i', hi', e9⟩ => hAp.2.2.1 k i k' i' hi hi' e9) (fun h => Nat.not_le.mpr (hW.1 k i hi).lt h))), by rw [← ht]; exact hB, hW.2.2.kept (hk1 _ hW.2.2.lt (fun h => h.elim (fun ⟨k', i', hi', e9⟩ => hAp.2.2.2.2 k' i' hi' e9.symm) (fun h => Nat.not_le.mpr hW.2.2.lt h)))⟩ hS1
theorem gw_subO (hm : ∀ k i, i < cnX k → A (aX k i)) (hAo : A o) (hS : va_S A H0 H locs) (hA : ∀ q, H0.size ≤ q → A q) : ∀ q, gAo cnX aX o H.size q → A q := fun q h => h.elim (fun h => gs_sub hm hS hA q h) (fun e9 => e9 ▸ hAo)
theorem gw_callO {post : Int32 → gS → (Nat → Int64) → Prop} {a : Array Value} (hr : va_Run p l e R s m args below meth c H locs cells slots mc ms (F0 m pc ls st0) rest (gsQo G cy (shX cy aX) cnX aX o post (gAo cnX aX o H.size) a) (gAo cnX aX o H.size)) (hAp : gAp aX aM o) (hm : ∀ k i, i < cnX k → A (aX k i)) (hAo : A o) (hW : gWd G cy aX aM o sx sm f H) (hS : va_S A H0 H locs) (hA : ∀ q, H0.size ≤ q → A q)
    (kk : ∀ (r : Int32) (sx1 : gS) (f1 : Nat → Int64) (H1 : Heap) (locs1 : List Loc), post r sx1 f1 → gWd G cy aX aM o sx1 sm f1 H1 → va_S A H0 H1 locs1 → W p l e R s m args below meth c H1 locs1 (cells + mc) (slots + ms) Q (F0 m (pc + 3) ls (.int r :: rest))) : W p l e R s m args below meth c H locs cells slots Q (F0 m pc ls st0) := by
  have hF := gw_subO (o := o) hm hAo hS hA
  refine va_calli hr hS (fun q _ h => hF q h) hF (fun r u t H1 locs1 ht hvm hw hB hz1 hk1 hS1 => ?_)
  refine kk r u.1 u.2 H1 locs1 hw ⟨by rw [← ht]; exact hB.1, hW.2.1.kept (fun k i hi => hk1 _ (hW.2.1 k i hi).lt (fun h => h.elim (fun h => h.elim (fun ⟨k', i', hi', e9⟩ => hAp.2.2.1 k' i' k i hi' hi e9.symm) (fun h => Nat.not_le.mpr (hW.2.1 k i hi).lt h)) (fun h => hAp.2.2.2.2 k i hi h))), by rw [← ht]; exact hB.2⟩ hS1
theorem gw_preO (hK : va_K G vwCl (gzK cy) s) (hov : gOv s) (hE : gE sK sV A s H0) (hAp : gAp aX aM o) (hm : ∀ k i, i < cnX k → A (aX k i)) (hAo : A o) (hW : gWd G cy aX aM o sx sm f H) (hS : va_S A H0 H locs) (hA : ∀ q, H0.size ≤ q → A q) {As : List Value} : PreS s H (va_Pc As (gsPo G cy sK sV (shX cy aX) cnX aX o H.size sx f)) As :=
  ⟨gs_blindO, fun U hU hW9 => ⟨rfl, by rw [hU], by rw [hU]; exact hW.1, by rw [hU]; exact hW.2.2, ⟨va_K.moved hW9.alike hK, hov.warm hW9⟩, hAp.1, hAp.2.2.2.1, by rw [hU]; exact hE.warm hW9 hS (gw_subO hm hAo hS hA)⟩⟩
/-- out[0] -/
theorem gw_lald (hx : p.tables.exec = Jvm.exec) (hb : c.code = cc) (hK : va_K G vwCl (gzK cy) s) (hW : gWd G cy aX aM o sx sm f H) (hdg : decode cc pc = .ok (.laload, 1)) (kk : W p l e R s m args below meth c H locs cells slots Q (F0 m (pc + 1) ls (.long (f (0 : Int32).toNatClampNeg) :: rest))) : W p l e R s m args below meth c H locs cells slots Q (F0 m pc ls (.int 0 :: .ref o :: rest)) := by
  have hP : va_P G vwCl [(o, gO cy f)] H := fun k q hq => by
    match k, hq with
    | 0, hq => cases hq; exact hW.2.2
    | k + 1, hq => simp at hq
  exact va_lald hx hb hK hP 0 5 rfl rfl (vp_in_iff.mpr (by decide)) hdg kk
theorem gz_cwSW {R : Room} {s : State} {args : Array Value} {own : String} {index maxL n : Nat} {y : MethodName} {bytes : ByteArray} {ret : Option FieldType} {hh : List (Nat × Nat × Nat × Nat)} {rm : Room} (hts : ∀ w ∈ gz_T, w.before args s = true) (m1 : Cond.methodLink own index y ∈ gz_T) (m2 : Cond.static y ∈ gz_T) (m3 : Cond.initialized y.cls ∈ gz_T) (m5 : Cond.codeWith y bytes maxL ret hh ∈ gz_T)
    (hd : y.cls ≠ "java/lang/invoke/MethodHandle" ∧ y.cls ≠ "java/lang/invoke/VarHandle" ∧ (parseMethodDescriptor y.desc).map (fun d => d.parameters.length) = some n) (hR : rm.frames + 1 ≤ R.frames ∧ 8 + (maxL + 11) + rm.locals ≤ R.locals) :
    vx_CSW R s args own index y bytes maxL ret hh (Cond.codeWith y bytes maxL ret hh :: gz_T) rm rm.cells rm.slots n := by
  refine vx_cwSW n hts (fun w hw => ?_) rfl rfl rfl hd hR
  have hm : w ∈ gz_T := by
    unfold va_wsS at hw
    rcases List.mem_append.mp hw with h | h
    · simp only [List.mem_cons, List.not_mem_nil, or_false] at h
      rcases h with rfl | rfl | rfl <;> assumption
    · rcases List.mem_cons.mp h with rfl | h
      · exact m5
      · exact h
  exact ⟨hm, good_of_word (List.mem_filter.mp hm).2⟩
end GW