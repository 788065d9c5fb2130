/-! contracts over the whole system -/
abbrev gsP (G : va_G) (cy : Nat → ClassId) (sK sV : Nat → Nat) (sh : gSh) (cnt : Nat → Nat) (ad : Nat → Nat → Nat) (sz : Nat) (st : gS) : State → Prop := fun U => U.heap.size = sz ∧ gM G sh cnt ad st U.heap ∧ (va_K G vwCl (gzK cy) U ∧ gOv U) ∧ gI cnt ad ∧ gE sK sV (gA cnt ad sz) U U.heap
abbrev gsB (G : va_G) (sh : gSh) (cnt : Nat → Nat) (ad : Nat → Nat → Nat) : gS → State → Prop := fun u t => gM G sh cnt ad u t.heap
abbrev gsQi (G : va_G) (sh : gSh) (cnt : Nat → Nat) (ad : Nat → Nat → Nat) (post : Int32 → gS → Prop) (A : Nat → Prop) := va_Qi post (gsB G sh cnt ad) A
abbrev gsQv (G : va_G) (sh : gSh) (cnt : Nat → Nat) (ad : Nat → Nat → Nat) (post : gS → Prop) (A : Nat → Prop) := va_Qv post (gsB G sh cnt ad) A
abbrev gsMi (l : Launch) (y : MethodName) (bytes : ByteArray) (maxL : Nat) (ret : Option FieldType) (rm : Room) (G : va_G) (cy : Nat → ClassId) (sK sV : Nat → Nat) (sh : gSh) (cnt : Nat → Nat) (ad : Nat → Nat → Nat) (sz : Nat) (av : List Value) (st : gS) (post : Int32 → gS → Prop) : Prop :=
  Met l y (Cond.code y bytes maxL ret :: gz_T) rm (va_Pc av (gsP G cy sK sV sh cnt ad sz st)) (gsQi G sh cnt ad post (gA cnt ad sz)) rm.cells rm.slots (gA cnt ad sz)
abbrev gsMv (l : Launch) (y : MethodName) (bytes : ByteArray) (maxL : Nat) (rm : Room) (G : va_G) (cy : Nat → ClassId) (sK sV : Nat → Nat) (sh : gSh) (cnt : Nat → Nat) (ad : Nat → Nat → Nat) (sz : Nat) (av : List Value) (st : gS) (post : gS → Prop) : Prop :=
  Met l y (Cond.code y bytes maxL none :: gz_T) rm (va_Pc av (gsP G cy sK sV sh cnt ad sz st)) (gsQv G sh cnt ad post (gA cnt ad sz)) rm.cells rm.slots (gA cnt ad sz)
theorem gs_blind {G : va_G} {cy : Nat → ClassId} {sK sV : Nat → Nat} {sh : gSh} {cnt : Nat → Nat} {ad : Nat → Nat → Nat} {sz : Nat} {av : List Value} {st : gS} : FrameBlind (va_Pc av (gsP G cy sK sV sh cnt ad sz st)) := fun a U g mk q => by
  obtain ⟨q0, q1, qP, qK, qI, qE⟩ := q
  exact ⟨q0, q1, qP, ⟨va_K.moved (u := U) (U := U.calling g mk a) (Vm.Alike.refl U.vm) qK.1, gOv.same (u := U) (U := U.calling g mk a) rfl qK.2⟩, qI, gE.same (u := U) (U := U.calling g mk a) rfl qE⟩
theorem gs_start {l : Launch} {y : MethodName} {cc : ByteArray} {maxL : Nat} {ret : Option FieldType} {rm : Room} {G : va_G} {cy : Nat → ClassId} {sK sV : Nat → Nat} {sh : gSh} {cnt : Nat → Nat} {ad : Nat → Nat → Nat} {sz : Nat} {av : List Value} {st : gS} (Qf : (Nat → Prop) → Array Value → State → Outcome → State → Prop)
    (hy : plainName y.cls = true) (hn : (lg_sl av).length ≤ maxL)
    (body : ∀ (p : Program) (e : Env) (s : State) (m : MethodId) (below : List Frame) (meth : Method) (c : Code) (A : Nat → Prop) (ls : Array Slot) (H : Heap), p.tables.exec = Jvm.exec → c.code = cc → meth.sig.returnType = ret → c.maxLocals = maxL → meth.locks = false → s.vm.findClass y.cls = some m.cls → (∀ w ∈ gz_T, w.before av.toArray s = true) →
      va_K G vwCl (gzK cy) s → gOv s → gE sK sV A s s.heap → gI cnt ad → gM G sh cnt ad st H → (∀ k i, i < cnt k → A (ad k i)) → va_S A s.heap H [] → (∀ q, s.heap.size ≤ q → A q) → lv_has ls maxL (lv_args 0 av) →
      W p l e rm s m av.toArray below meth c H [] 0 0 (MQ below (Qf A) av.toArray s rm.cells rm.slots A) (F0 m 0 ls [])) :
    Met l y (Cond.code y cc maxL ret :: gz_T) rm (va_Pc av (gsP G cy sK sV sh cnt ad sz st)) (Qf (gA cnt ad sz)) rm.cells rm.slots (gA cnt ad sz) := by
  refine Met.ofW (cc := cc) (maxL := maxL) (ret := ret) hy rfl ?_
  intro p e s m args below meth c s₁ B hml hv
  obtain ⟨rfl, hsz, hM, ⟨hK, hov⟩, hI, hE⟩ := hv
  subst hsz
  have hl := lv_entry av (n := maxL) hn
  rw [lg_entry_eq]
  exact body p e s m below meth c _ _ s.heap B.exec B.bytes B.returns hml B.notSynchronized (findClass_of_methodNamed B.named) (fun w h => atoms_spec (ws := Cond.code y cc maxL ret :: gz_T) B.pre w (List.mem_cons_of_mem _ h)) hK hov hE hI hM (fun k i hi => Or.inl ⟨k, i, hi, rfl⟩) va_S.rf (fun q h => Or.inr h) hl
section GSC
variable {p : Program} {l : Launch} {e : Env} {R : Room} {s : State} {m : MethodId} {args : Array Value} {below : List Frame} {meth : Method} {c : Code} {H H0 : Heap} {locs : List Loc} {cells slots : Nat} {Q : State → Prop}
variable {G : va_G} {cy : Nat → ClassId} {sK sV : Nat → Nat} {A : Nat → Prop} {sh : gSh} {cnt : Nat → Nat} {ad : Nat → Nat → Nat} {st : gS} {cc : ByteArray} {pc : Nat} {ls : Array Slot} {rest st0 : List Value} {mc ms : Nat} {C : String}
theorem gs_iret {post : Int32 → gS → Prop} {ty : FieldType} (hx : p.tables.exec = Jvm.exec) (hb : c.code = cc) (hr : meth.sig.returnType = some ty) (hlocks : meth.locks = false) (hM : gM G sh cnt ad st H) (hS : va_S A s.heap H locs) {r : Int32} (hn : narrow ty (.int r) = .int r) (hpost : post r st) (hc : cells ≤ mc) (hs : slots ≤ ms) (hdg : decode cc pc = .ok (.ireturn, 1)) :
    W p l e R s m args below meth c H locs cells slots (MQ below (gsQi G sh cnt ad post A) args s mc ms A) (F0 m pc ls [.int r]) := by
  refine W.widen (k := mc) (n := ms) hc hs ?_
  exact W.zret hx hb hr hn (fun t ht hW => ⟨⟨r, st, rfl, hpost, by show gM G sh cnt ad st t.heap; rw [ht]; exact hM⟩, hS.F ht⟩) hS.2.2 hdg hlocks
theorem gs_vret {post : gS → Prop} (hx : p.tables.exec = Jvm.exec) (hb : c.code = cc) (hr : meth.sig.returnType = none) (hlocks : meth.locks = false) (hM : gM G sh cnt ad st H) (hS : va_S A s.heap H locs) (hpost : post st) (hc : cells ≤ mc) (hs : slots ≤ ms) (hdg : decode cc pc = .ok (.return_, 1)) :
    W p l e R s m args below meth c H locs cells slots (MQ below (gsQv G sh cnt ad post A) args s mc ms A) (F0 m pc ls []) := by
  refine W.widen (k := mc) (n := ms) hc hs ?_
  exact W.vret hx hb hr (fun t ht hW => ⟨⟨st, rfl, hpost, by show gM G sh cnt ad st t.heap; rw [ht]; exact hM⟩, hS.F ht⟩) hS.2.2 hdg hlocks
theorem gs_sub (hm : ∀ k i, i < cnt k → A (ad k i)) (hS : va_S A H0 H locs) (hA : ∀ q, H0.size ≤ q → A q) : ∀ q, gA cnt ad H.size q → A q := fun q h => h.elim (fun ⟨k, i, hi, e9⟩ => e9 ▸ hm k i hi) (fun h => hA q (Nat.le_trans hS.1 h))
theorem gs_preS (hK : va_K G vwCl (gzK cy) s) (hov : gOv s) (hE : gE sK sV A s H0) (hI : gI cnt ad) (hM : gM G sh cnt ad st H) (hm : ∀ k i, i < cnt k → A (ad k i)) (hS : va_S A H0 H locs) (hA : ∀ q, H0.size ≤ q → A q) {As : List Value} : PreS s H (va_Pc As (gsP G cy sK sV sh cnt ad H.size st)) As :=
  ⟨gs_blind, fun U hU hW => ⟨rfl, by rw [hU], by rw [hU]; exact hM, ⟨va_K.moved hW.alike hK, hov.warm hW⟩, hI, by rw [hU]; exact hE.warm hW hS (gs_sub hm hS hA)⟩⟩
theorem gs_preV {T : u_T} {N ci : Nat} {fs As : List Value} (hK : va_K G vwCl (gzK cy) s) (hov : gOv s) (hE : gE sK sV A s H0) (hI : gI cnt ad) (hM : gM G sh cnt ad st H) (hm : ∀ k i, i < cnt k → A (ad k i)) (hS : va_S A H0 H locs) (hA : ∀ q, H0.size ≤ q → A q) (k i : Nat) (hi : i < cnt k) (hs : sh k i (st k i) = .inr (ci, fs)) (hc : vwCl[ci]? = some (C, T, N)) : PreV s H C (ad k i) (va_Pc (.ref (ad k i) :: As) (gsP G cy sK sV sh cnt ad H.size st)) As :=
  ⟨gs_blind, va_recv hK (hM.one hi hs) hc (q0 := 0) rfl, (gs_preS hK hov hE hI hM hm hS hA).2⟩
theorem gs_calli {post : Int32 → gS → Prop} {a : Array Value} (hr : va_Run p l e R s m args below meth c H locs cells slots mc ms (F0 m pc ls st0) rest (gsQi G sh cnt ad post (gA cnt ad H.size) a) (gA cnt ad H.size)) (hm : ∀ k i, i < cnt k → A (ad k i)) (hS : va_S A H0 H locs) (hA : ∀ q, H0.size ≤ q → A q)
    (kk : ∀ (r : Int32) (st1 : gS) (H1 : Heap) (locs1 : List Loc), post r st1 → gM G sh cnt ad st1 H1 → va_S A H0 H1 locs1 → W p l e R s m args below meth c H1 locs1 (cells + mc) (slots + ms) Q (F0 m (pc + 3) ls (.int r :: rest))) : W p l e R s m args below meth c H locs cells slots Q (F0 m pc ls st0) := by
  have hF := gs_sub hm hS hA
  refine va_calli hr hS (fun q _ h => hF q h) hF (fun r u t H1 locs1 ht hvm hw hB hz1 hk1 hS1 => ?_)
  exact kk r u H1 locs1 hw (by rw [← ht]; exact hB) hS1
theorem gs_callv {post : gS → Prop} {a : Array Value} (hr : va_Run p l e R s m args below meth c H locs cells slots mc ms (F0 m pc ls st0) rest (gsQv G sh cnt ad post (gA cnt ad H.size) a) (gA cnt ad H.size)) (hm : ∀ k i, i < cnt k → A (ad k i)) (hS : va_S A H0 H locs) (hA : ∀ q, H0.size ≤ q → A q)
    (kk : ∀ (st1 : gS) (H1 : Heap) (locs1 : List Loc), post st1 → gM G sh cnt ad st1 H1 → va_S A H0 H1 locs1 → W p l e R s m args below meth c H1 locs1 (cells + mc) (slots + ms) Q (F0 m (pc + 3) ls rest)) : W p l e R s m args below meth c H locs cells slots Q (F0 m pc ls st0) := by
  have hF := gs_sub hm hS hA
  refine va_callv hr hS (fun q _ h => hF q h) hF (fun u t H1 locs1 ht hvm hw hB hz1 hk1 hS1 => ?_)
  exact kk u H1 locs1 hw (by rw [← ht]; exact hB) hS1
end GSC
