
/-! calls that may throw, over whole states; the law's helpers, with the cell that they write -/
abbrev gsX (G : va_G) (sh : gSh) (cnt : Nat → Nat) (ad : Nat → Nat → Nat) (px : gS → Prop) (E0 : String) (A : Nat → Prop) := vx_X px (fun (E : String) (u : gS) (t : State) => E = E0 ∧ gM G sh cnt ad u t.heap) A
theorem gs_startX {l : Launch} {y : MethodName} {cc : ByteArray} {maxL : Nat} {ret : Option FieldType} {rm : Room} {G : va_G} {cy : Nat → ClassId} {sK sV : Nat → Nat} {sh : gSh} {cnt : Nat → Nat} {ad : Nat → Nat → Nat} {sz : Nat} {av : List Value} {st : gS} (Qf : (Nat → Prop) → Array Value → State → Outcome → State → Prop) (Xf : (Nat → Prop) → String → State → State → Prop)
    (hy : plainName y.cls = true) (hn : (lg_sl av).length ≤ maxL)
    (body : ∀ (p : Program) (e : Env) (s : State) (m : MethodId) (below : List Frame) (meth : Method) (c : Code) (A : Nat → Prop) (ls : Array Slot) (H : Heap), (∀ x ∈ c.exceptionTable.toList, False) → p.tables.exec = Jvm.exec → c.code = cc → meth.sig.returnType = ret → c.maxLocals = maxL → meth.locks = false → s.vm.findClass y.cls = some m.cls → (∀ w ∈ gz_T, w.before av.toArray s = true) →
      va_K G vwCl (gzK cy) s → gOv s → gE sK sV A s s.heap → gI cnt ad → gM G sh cnt ad st H → (∀ k i, i < cnt k → A (ad k i)) → va_S A s.heap H [] → (∀ q, s.heap.size ≤ q → A q) → lv_has ls maxL (lv_args 0 av) →
      W p l e rm s m av.toArray below meth c H [] 0 0 (vx_MQ below (Qf A) (Xf A) av.toArray s rm.cells rm.slots A) (F0 m 0 ls [])) :
    vx_Met l y (Cond.code y cc maxL ret :: gz_T) rm (va_Pc av (gsP G cy sK sV sh cnt ad sz st)) (Qf (gA cnt ad sz)) (Xf (gA cnt ad sz)) rm.cells rm.slots (gA cnt ad sz) := by
  refine vx_ofW (cc := cc) (maxL := maxL) (ret := ret) hy rfl ?_
  intro p e s m args below meth c s₁ B hml htab hv
  obtain ⟨rfl, hsz, hM, ⟨hK, hov⟩, hI, hE⟩ := hv
  subst hsz
  have hl := lv_entry av (n := maxL) hn
  rw [lg_entry_eq]
  exact body p e s m below meth c _ _ s.heap htab B.exec B.bytes B.returns hml B.notSynchronized (findClass_of_methodNamed B.named) (fun w h => atoms_spec (ws := Cond.code y cc maxL ret :: gz_T) B.pre w (List.mem_cons_of_mem _ h)) hK hov hE hI hM (fun k i hi => Or.inl ⟨k, i, hi, rfl⟩) va_S.rf (fun q h => Or.inr h) hl
/-- the cell of longs that a helper of the law writes -/
abbrev gO (cy : Nat → ClassId) (f : Nat → Int64) : va_E := .inl (cy 5, 1, .inr (.inl f))
def gAo (cnt : Nat → Nat) (ad : Nat → Nat → Nat) (o sz : Nat) : Nat → Prop := fun q => gA cnt ad sz q ∨ q = o
abbrev gsPo (G : va_G) (cy : Nat → ClassId) (sK sV : Nat → Nat) (sh : gSh) (cnt : Nat → Nat) (ad : Nat → Nat → Nat) (o sz : Nat) (st : gS) (f : Nat → Int64) : State → Prop := fun U => U.heap.size = sz ∧ gM G sh cnt ad st U.heap ∧ va_at G vwCl (o, gO cy f) U.heap ∧ (va_K G vwCl (gzK cy) U ∧ gOv U) ∧ gI cnt ad ∧ (∀ k i, i < cnt k → ad k i ≠ o) ∧ gE sK sV (gAo cnt ad o sz) U U.heap
abbrev gsBo (G : va_G) (cy : Nat → ClassId) (sh : gSh) (cnt : Nat → Nat) (ad : Nat → Nat → Nat) (o : Nat) : gS × (Nat → Int64) → State → Prop := fun u t => gM G sh cnt ad u.1 t.heap ∧ va_at G vwCl (o, gO cy u.2) t.heap
abbrev gsQo (G : va_G) (cy : Nat → ClassId) (sh : gSh) (cnt : Nat → Nat) (ad : Nat → Nat → Nat) (o : Nat) (post : Int32 → gS → (Nat → Int64) → Prop) (A : Nat → Prop) := va_Qi (fun r (u : gS × (Nat → Int64)) => post r u.1 u.2) (gsBo G cy sh cnt ad o) A
theorem gs_blindO {G : va_G} {cy : Nat → ClassId} {sK sV : Nat → Nat} {sh : gSh} {cnt : Nat → Nat} {ad : Nat → Nat → Nat} {o sz : Nat} {av : List Value} {st : gS} {f : Nat → Int64} : FrameBlind (va_Pc av (gsPo G cy sK sV sh cnt ad o sz st f)) := fun a U g mk q => by
  obtain ⟨q0, q1, qP, qo, qK, qI, qn, qE⟩ := q
  exact ⟨q0, q1, qP, qo, ⟨va_K.moved (u := U) (U := U.calling g mk a) (Vm.Alike.refl U.vm) qK.1, gOv.same (u := U) (U := U.calling g mk a) rfl qK.2⟩, qI, qn, gE.same (u := U) (U := U.calling g mk a) rfl qE⟩
theorem gs_startO {l : Launch} {y : MethodName} {cc : ByteArray} {maxL : Nat} {ret : Option FieldType} {hh : List (Nat × Nat × Nat × Nat)} {rm : Room} {G : va_G} {cy : Nat → ClassId} {sK sV : Nat → Nat} {sh : gSh} {cnt : Nat → Nat} {ad : Nat → Nat → Nat} {o sz : Nat} {av : List Value} {st : gS} {f : Nat → Int64} (Qf : (Nat → Prop) → Array Value → State → Outcome → State → Prop)
    (hy : plainName y.cls = true) (hn : (lg_sl av).length ≤ maxL)
    (body : ∀ (p : Program) (e : Env) (s : State) (m : MethodId) (below : List Frame) (meth : Method) (c : Code) (A : Nat → Prop) (ls : Array Slot) (H : Heap), c.exceptionTable.toList = tableOf hh → p.tables.exec = Jvm.exec → c.code = cc → meth.sig.returnType = ret → c.maxLocals = maxL → meth.locks = false → s.vm.findClass y.cls = some m.cls → (∀ w ∈ gz_T, w.before av.toArray s = true) →
      va_K G vwCl (gzK cy) s → gOv s → gE sK sV A s s.heap → gI cnt ad → gM G sh cnt ad st H → va_at G vwCl (o, gO cy f) H → (∀ k i, i < cnt k → ad k i ≠ o) → (∀ k i, i < cnt k → A (ad k i)) → A o → va_S A s.heap H [] → (∀ q, s.heap.size ≤ q → A q) → lv_has ls maxL (lv_args 0 av) →
      W p l e rm s m av.toArray below meth c H [] 0 0 (MQ below (Qf A) av.toArray s rm.cells rm.slots A) (F0 m 0 ls [])) :
    Met l y (Cond.codeWith y cc maxL ret hh :: gz_T) rm (va_Pc av (gsPo G cy sK sV sh cnt ad o sz st f)) (Qf (gAo cnt ad o sz)) rm.cells rm.slots (gAo cnt ad o sz) := by
  refine va_MetW (cc := cc) (maxL := maxL) (ret := ret) (hh := hh) hy rfl ?_
  intro p e s m args below meth c s₁ B hml hv
  obtain ⟨rfl, hsz, hM, hO, ⟨hK, hov⟩, hI, hn9, hE⟩ := hv
  subst hsz
  have hl := lv_entry av (n := maxL) hn
  rw [lg_entry_eq]
  have hpre := atoms_spec (ws := Cond.codeWith y cc maxL ret hh :: gz_T) B.pre
  exact body p e s m below meth c _ _ s.heap (vx_table (x := y) B (hpre _ List.mem_cons_self)) B.exec B.bytes B.returns hml B.notSynchronized (findClass_of_methodNamed B.named) (fun w h => hpre w (List.mem_cons_of_mem _ h)) hK hov hE hI hM hO hn9 (fun k i hi => Or.inl (Or.inl ⟨k, i, hi, rfl⟩)) (Or.inr rfl) va_S.rf (fun q h => Or.inl (Or.inr h)) hl
section GSX
variable {p : Program} {l : Launch} {e : Env} {R : Room} {s : State} {m : MethodId} {args : Array Value} {below : List Frame} {meth : Method} {c : Code} {H H0 : Heap} {locs : List Loc} {cells slots : Nat} {Q : State → Prop}
variable {G : va_G} {cy : Nat → ClassId} {sK sV : Nat → Nat} {A : Nat → Prop} {sh : gSh} {cnt : Nat → Nat} {ad : Nat → Nat → Nat} {st : gS} {cc : ByteArray} {pc : Nat} {ls : Array Slot} {rest st0 : List Value} {mc ms : Nat} {C : String} {o : Nat} {f : Nat → Int64}
theorem gs_xF (hM : gM G sh cnt ad st H) (hS : va_S A s.heap H locs) {E0 : String} {px : gS → Prop} (hp : px st) {t : State} (hsz : H.size ≤ t.heap.size) (hold : ∀ q : Nat, q < H.size → t.heap[q]? = H[q]?) : gsX G sh cnt ad px E0 A E0 s t :=
  ⟨st, hp, ⟨rfl, hM.kept (fun k i hi => hold _ (hM k i hi).lt)⟩, Nat.le_trans hS.1 hsz, fun q h1 h2 => (hold q (Nat.lt_of_lt_of_le h1 hS.1)).trans (hS.2.1 q h1 h2)⟩
/-- behind a call that may throw, from a helper of the law -/
theorem gs_callx {post : Int32 → gS → Prop} {px : gS → Prop} {E0 : String} {a : Array Value} (hr : vx_Run p l e R s m args below meth c H locs cells slots mc ms (F0 m pc ls st0) rest (gsQi G sh cnt ad post (gA cnt ad H.size) a) (gsX G sh cnt ad px E0 (gA cnt ad H.size)) (gA cnt ad H.size)) (hm : ∀ k i, i < cnt k → A (ad k i)) (hO : va_at G vwCl (o, gO cy f) H) (hne : ∀ k i, i < cnt k → ad k i ≠ o) (hS : va_S A H0 H locs) (hA : ∀ q, H0.size ≤ q → A q)
    (kx : ∀ (ce : Cell) (q9 : Addr) (st1 : gS) (H1 : Heap) (locs1 : List Loc), px st1 → gM G sh cnt ad st1 H1 → va_at G vwCl (o, gO cy f) H1 → va_S A H0 H1 locs1 → H1[q9]? = some ce → ce.vm = .none → s.vm.findClass E0 = some ce.cls → vx_W p l e R s m args below meth c H1 locs1 (cells + mc) (slots + ms) Q (F0 m pc ls rest) q9)
    (kk : ∀ (r : Int32) (st1 : gS) (H1 : Heap) (locs1 : List Loc), post r st1 → gM G sh cnt ad st1 H1 → va_at G vwCl (o, gO cy f) H1 → va_S A H0 H1 locs1 → W p l e R s m args below meth c H1 locs1 (cells + mc) (slots + ms) Q (F0 m (pc + 3) ls (.int r :: rest))) : W p l e R s m args below meth c H locs cells slots Q (F0 m pc ls st0) := by
  have hF := gs_sub hm hS hA
  have hno : ¬ gA cnt ad H.size o := fun h => h.elim (fun ⟨k, i, hi, e9⟩ => hne k i hi e9.symm) (fun h => Nat.not_le.mpr hO.lt h)
  refine vx_calli hr hS (fun q _ h => hF q h) hF (fun q _ h => hF q h) (fun E ce q9 u t H1 locs1 ht hvm hw hB hz1 hk1 hS1 hce hcv hcl => ?_) (fun r u t H1 locs1 ht hvm hw hB hz1 hk1 hS1 => ?_)
  · obtain ⟨rfl, hM1⟩ := hB
    exact kx ce q9 u H1 locs1 hw (by rw [← ht]; exact hM1) (hO.kept (hk1 _ hO.lt hno)) hS1 hce hcv hcl
  · exact kk r u H1 locs1 hw (by rw [← ht]; exact hB) (hO.kept (hk1 _ hO.lt hno)) hS1
theorem gs_oret {post : Int32 → gS → (Nat → Int64) → Prop} (hx : p.tables.exec = Jvm.exec) (hb : c.code = cc) (hr : meth.sig.returnType = some .int) (hlocks : meth.locks = false) (hM : gM G sh cnt ad st H) (hO : va_at G vwCl (o, gO cy f) H) (hS : va_S A s.heap H locs) {r : Int32} (hpost : post r st f) (hc : cells ≤ mc) (hs : slots ≤ ms) (hdg : decode cc pc = .ok (.ireturn, 1)) :
    W p l e R s m args below meth c H locs cells slots (MQ below (gsQo G cy sh cnt ad o post A) args s mc ms A) (F0 m pc ls [.int r]) := by
  refine W.widen (k := mc) (n := ms) hc hs ?_
  exact W.zret hx hb hr rfl (fun t ht hW => ⟨⟨r, (st, f), rfl, hpost, by show gM G sh cnt ad st t.heap; rw [ht]; exact hM, by show va_at G vwCl (o, gO cy f) t.heap; rw [ht]; exact hO⟩, hS.F ht⟩) hS.2.2 hdg hlocks
/-- out[0] = v -/
theorem gs_last (hx : p.tables.exec = Jvm.exec) (hb : c.code = cc) (hK : va_K G vwCl (gzK cy) s) (hM : gM G sh cnt ad st H) (hO : va_at G vwCl (o, gO cy f) H) (hne : ∀ k i, i < cnt k → ad k i ≠ o) (hAo : A o) (hS : va_S A H0 H locs) {v : Int64} (hdg : decode cc pc = .ok (.lastore, 1))
    (kk : ∀ (H1 : Heap) (locs1 : List Loc), gM G sh cnt ad st H1 → va_at G vwCl (o, gO cy (vp_updL f (0 : Int32).toNatClampNeg v)) H1 → va_S A H0 H1 locs1 → W p l e R s m args below meth c H1 locs1 cells slots Q (F0 m (pc + 1) ls rest)) : W p l e R s m args below meth c H locs cells slots Q (F0 m pc ls (.long v :: .int 0 :: .ref o :: rest)) := by
  refine W.last hx hb hO ((hK.2 5 (cy 5, .long) rfl).1 1 (fun j => .long (f j))) (fun q => by cases q) (by show ¬ ((0 : Int32) < 0 ∨ (arrV _ _ _).slots.size ≤ _); rw [arrV_size]; exact (by decide : ¬ ((0 : Int32) < 0 ∨ 1 ≤ Int32.toNatClampNeg 0))) rfl rfl hdg fun H1 e9 z oq => ?_
  refine kk H1 _ (hM.kept (fun k i hi => oq _ (hne k i hi))) ?_ (hS.put z oq hAo)
  show H1[o]? = some (vp_cell _ _)
  rw [e9, vp_cell_l, vp_cell_l, arrV_store]
  congr 2
  funext q
  simp only [updV, vp_updL]
  split <;> rfl
end GSX