/-! calls that may throw: what the throw needs of the start, and the rows for it -/
def gBadK : Cond → Bool
  | .castable .. => true
  | .declares .. => true
  | _ => false
def gzB : List Cond := tables_1.filter gBadK
theorem gz_bad {w : Cond} (i : Nat) (h : tables_1[i]? = some w) (g : gBadK w = true) : w ∈ gzB := List.mem_filter.mpr ⟨List.mem_of_getElem? h, g⟩
/-- the statics that a Throwable's constructor reads lie outside A; the two messages are there; the words that aren't good ones -/
def gTh (A : Nat → Prop) (U : State) (H : Heap) : Prop := vx_Zq Bundle.tN "UNASSIGNED_STACK" Bundle.steD A U H ∧ vx_Zq Bundle.tN "SUPPRESSED_SENTINEL" Bundle.listD A U H ∧ (∃ sa, vk_R RX9 184 "there is no such draw" sa U) ∧ (∃ sa, vk_R RX9 226 "looks are 1 to 50000" sa U) ∧ ∀ w ∈ gzB, va_Nw w U
theorem gTh.same {A : Nat → Prop} {u U : State} {H : Heap} (hvm : u.vm = U.vm) (h : gTh A u H) : gTh A U H := by
  obtain ⟨h1, h2, ⟨a, h3⟩, ⟨b, h4⟩, h5⟩ := h
  refine ⟨h1.moved (by rw [hvm]; exact Vm.Alike.refl U.vm), h2.moved (by rw [hvm]; exact Vm.Alike.refl U.vm), ⟨a, vk_R.same hvm.symm h3⟩, ⟨b, vk_R.same hvm.symm h4⟩, fun w hw => ?_⟩
  have hg : gBadK w = true := (List.mem_filter.mp hw).2
  refine va_Nw.same ?_ hvm (h5 w hw)
  cases w <;> first | rfl | (simp [gBadK] at hg; done)
theorem gTh.warm {A B : Nat → Prop} {u U : State} {H0 H : Heap} {locs : List Loc} (hW : u.WarmedH U.vm) (hS : va_S A H0 H locs) (hBA : ∀ q, B q → A q) (h : gTh A u H0) : gTh B U H := by
  obtain ⟨h1, h2, ⟨a, h3⟩, ⟨b, h4⟩, h5⟩ := h
  refine ⟨((h1.kept hS.2.1).moved hW.alike).narrow hBA, ((h2.kept hS.2.1).moved hW.alike).narrow hBA, ⟨a, h3.warm hW⟩, ⟨b, h4.warm hW⟩, fun w hw => ?_⟩
  have hg : gBadK w = true := (List.mem_filter.mp hw).2
  have h0 := h5 w hw
  cases w <;> first | (simp [gBadK] at hg; done) | exact va_Nw.warmC hW h0 | exact va_Nw.warmD hW h0
abbrev gPx (G : va_G) (cy : Nat → ClassId) (sz : Nat) (ws : va_W) : State → Prop := fun U => gP G cy sz ws U ∧ gTh (va_A ws sz) U U.heap
theorem gz_blindX {G : va_G} {cy : Nat → ClassId} {sz : Nat} {av : List Value} {ws : va_W} : FrameBlind (va_Pc av (gPx G cy sz ws)) := fun a U g mk q => by
  obtain ⟨q0, ⟨q1, qP, qK, qD⟩, qt⟩ := q
  exact ⟨q0, ⟨q1, qP, ⟨va_K.moved (u := U) (U := U.calling g mk a) (Vm.Alike.refl U.vm) qK.1, gOv.same (u := U) (U := U.calling g mk a) rfl qK.2⟩, qD⟩, gTh.same (u := U) (U := U.calling g mk a) rfl qt⟩
abbrev gXx {SX : Type} (px : SX → Prop) (E0 : String) (A : Nat → Prop) := vx_X px (fun (E : String) (_ : SX) (_ : State) => E = E0) A
/-- the entry of a method that may throw -/
theorem gz_startX {l : Launch} {y : MethodName} {cc : ByteArray} {maxL : Nat} {ret : Option FieldType} {rm : Room} {G : va_G} {cy : Nat → ClassId} {sz : Nat} {av : List Value} {ws : va_W} (Qf : (Nat → Prop) → Array Value → State → Outcome → State → Prop) (Xf : (Nat → Prop) → String → State → State → Prop)
    (hy : plainName y.cls = true) (hn : (lg_sl av).length ≤ maxL)
    (body : ∀ (p : Program) (e : Env) (s : State) (m : MethodId) (below : List Frame) (meth : Method) (c : Code) (A : Nat → Prop) (ls : Array Slot) (H : Heap), (∀ x ∈ c.exceptionTable.toList, False) → gTh A s s.heap → p.tables.exec = Jvm.exec → c.code = cc → meth.sig.returnType = ret → c.maxLocals = maxL → meth.locks = false → meth.name = y.name → s.vm.findClass y.cls = some m.cls → (∀ w ∈ gz_T, w.before av.toArray s = true) →
      va_K G vwCl (gzK cy) s → gOv s → H.size = sz → va_P G vwCl ws H → va_D A ws → va_S A s.heap H [] → (∀ q, s.heap.size ≤ q → A q) → lv_has ls maxL (lv_args 0 av) →
      W p l e rm s m av.toArray below meth c H [] 0 0 (vx_MQ below (Qf A) (Xf A) av.toArray s rm.cells rm.slots A) (F0 m 0 ls [])) :
    vx_Met l y (Cond.code y cc maxL ret :: gz_T) rm (va_Pc av (gPx G cy sz ws)) (Qf (va_A ws sz)) (Xf (va_A ws sz)) rm.cells rm.slots (va_A ws sz) := by
  refine vx_ofW (cc := cc) (maxL := maxL) (ret := ret) hy rfl ?_
  intro p e s m args below meth c s₁ B hml htab hv
  obtain ⟨rfl, ⟨hsz, hP, ⟨hK, hov⟩, hD0⟩, hth⟩ := hv
  subst hsz
  have hl := lv_entry av (n := maxL) hn
  rw [lg_entry_eq]
  exact body p e s m below meth c _ _ s.heap htab hth B.exec B.bytes B.returns hml B.notSynchronized (name_of_methodNamed B.named B.method).1 (findClass_of_methodNamed B.named) (fun w h => atoms_spec (ws := Cond.code y cc maxL ret :: gz_T) B.pre w (List.mem_cons_of_mem _ h)) hK hov rfl hP (hD0.self (sz := s.heap.size)) va_S.rf (fun q h => Or.inr h) hl
/-- the entry of a method with a table of handlers -/
theorem gz_startH {l : Launch} {y : MethodName} {cc : ByteArray} {maxL : Nat} {ret : Option FieldType} {hh : List (Nat × Nat × Nat × Nat)} {rm : Room} {G : va_G} {cy : Nat → ClassId} {sz : Nat} {av : List Value} {ws : va_W} (Qf : (Nat → Prop) → Array Value → State → Outcome → State → Prop)
    (hy : plainName y.cls = true) (hn : (lg_sl av).length ≤ maxL)
    (body : ∀ (p : Program) (e : Env) (s : State) (m : MethodId) (below : List Frame) (meth : Method) (c : Code) (A : Nat → Prop) (ls : Array Slot) (H : Heap), c.exceptionTable.toList = tableOf hh → gTh A s s.heap → p.tables.exec = Jvm.exec → c.code = cc → meth.sig.returnType = ret → c.maxLocals = maxL → meth.locks = false → meth.name = y.name → s.vm.findClass y.cls = some m.cls → (∀ w ∈ gz_T, w.before av.toArray s = true) →
      va_K G vwCl (gzK cy) s → gOv s → H.size = sz → va_P G vwCl ws H → va_D A ws → va_S A s.heap H [] → (∀ q, s.heap.size ≤ q → A q) → lv_has ls maxL (lv_args 0 av) →
      W p l e rm s m av.toArray below meth c H [] 0 0 (MQ below (Qf A) av.toArray s rm.cells rm.slots A) (F0 m 0 ls [])) :
    Met l y (Cond.codeWith y cc maxL ret hh :: gz_T) rm (va_Pc av (gPx G cy sz ws)) (Qf (va_A ws sz)) rm.cells rm.slots (va_A ws sz) := by
  refine va_MetW (cc := cc) (maxL := maxL) (ret := ret) (hh := hh) hy rfl ?_
  intro p e s m args below meth c s₁ B hml hv
  obtain ⟨rfl, ⟨hsz, hP, ⟨hK, hov⟩, hD0⟩, hth⟩ := hv
  subst hsz
  have hl := lv_entry av (n := maxL) hn
  rw [lg_entry_eq]
  have hpre := atoms_spec (ws := Cond.codeWith y cc maxL ret hh :: gz_T) B.pre
  exact body p e s m below meth c _ _ s.heap (vx_table (x := y) B (hpre _ List.mem_cons_self)) hth B.exec B.bytes B.returns hml B.notSynchronized (name_of_methodNamed B.named B.method).1 (findClass_of_methodNamed B.named) (fun w h => hpre w (List.mem_cons_of_mem _ h)) hK hov rfl hP (hD0.self (sz := s.heap.size)) va_S.rf (fun q h => Or.inr h) hl
section GZX
variable {p : Program} {l : Launch} {e : Env} {R : Room} {s : State} {m : MethodId} {args : Array Value} {below : List Frame} {meth : Method} {c : Code} {H H0 : Heap} {locs : List Loc} {cells slots : Nat} {Q : State → Prop}
variable {G : va_G} {cy : Nat → ClassId} {A : Nat → Prop} {ws wc : va_W} {cc bytes : ByteArray} {pc : Nat} {ls : Array Slot} {S SX : Type} {st0 rest : List Value} {maxL index n : Nat} {y : MethodName} {ret : Option FieldType} {own C : String} {rm : Room} {mc ms : Nat}
theorem gz_preSX (hK : va_K G vwCl (gzK cy) s) (hov : gOv s) (hth : gTh A s H0) (hP : va_P G vwCl ws H) (hD : va_D A ws) (hS : va_S A H0 H locs) (hA : ∀ q, H0.size ≤ q → A q) (isC : List Nat) (hn : va_nd isC = true) (hC : isC.map (fun i => ws[i]?) = wc.map some) {As : List Value} : PreS s H (va_Pc As (gPx G cy H.size wc)) As :=
  ⟨gz_blindX, fun U hU hW => ⟨rfl, ⟨by rw [hU], by rw [hU]; exact hP.sub isC (gz_fm hC), ⟨va_K.moved hW.alike hK, hov.warm hW⟩, (hD.sub isC hn hC).weaken (fun _ _ _ _ => trivial)⟩, by rw [hU]; exact hth.warm hW hS (va_free (wc := wc) hD hS hA isC hC)⟩⟩
theorem gz_preVX {T : u_T} {N ci b q0 : Nat} {fs As : List Value} (hK : va_K G vwCl (gzK cy) s) (hov : gOv s) (hth : gTh A s H0) (hP : va_P G vwCl ws H) (hD : va_D A ws) (hS : va_S A H0 H locs) (hA : ∀ q, H0.size ≤ q → A q) (isC : List Nat) (hn : va_nd isC = true) (hC : isC.map (fun i => ws[i]?) = wc.map some) (hc : vwCl[ci]? = some (C, T, N)) (he : wc[q0]? = some (b, .inr (ci, fs))) : PreV s H C b (va_Pc (.ref b :: As) (gPx G cy H.size wc)) As :=
  ⟨gz_blindX, va_recv hK (hP.sub isC (gz_fm hC)) hc he, (gz_preSX hK hov hth hP hD hS hA isC hn hC).2⟩
/-- behind a call that may throw -/
theorem gz_aftx {post : Int32 → S → Prop} {cf : S → va_W} {px : SX → Prop} {E0 : String} {a : Array Value}
    (hr : vx_Run p l e R s m args below meth c H locs cells slots mc ms (F0 m pc ls st0) rest (gQi G cy post cf (va_A wc H.size) a) (gXx px E0 (va_A wc H.size)) (va_A wc H.size))
    (hP : va_P G vwCl ws H) (hD : va_D A ws) (hS : va_S A H0 H locs) (hA : ∀ q, H0.size ≤ q → A q) (isC isR : List Nat) (hC : isC.map (fun i => ws[i]?) = wc.map some) (hR : isR.all (fun i => decide (i < ws.length)) = true) (hnR : va_nd isR = true) (hdis : ∀ i ∈ isR, i ∉ isC)
    (kx : ∀ (ce : Cell) (q9 : Addr) (u : SX) (H1 : Heap) (locs1 : List Loc), px u → va_P G vwCl (isR.filterMap (fun i => ws[i]?)) H1 → va_D A (isR.filterMap (fun i => ws[i]?)) → va_S A H0 H1 locs1 → H1[q9]? = some ce → ce.vm = .none → s.vm.findClass E0 = some ce.cls → vx_W p l e R s m args below meth c H1 locs1 (cells + mc) (slots + ms) Q (F0 m pc ls rest) q9)
    (kk : ∀ (r : Int32) (u : S) (H1 : Heap) (locs1 : List Loc), post r u → va_P G vwCl (isR.filterMap (fun i => ws[i]?) ++ cf u) H1 → va_D A (isR.filterMap (fun i => ws[i]?) ++ cf u) → va_S A H0 H1 locs1 → W p l e R s m args below meth c H1 locs1 (cells + mc) (slots + ms) Q (F0 m (pc + 3) ls (.int r :: rest))) :
    W p l e R s m args below meth c H locs cells slots Q (F0 m pc ls st0) := by
  have hFc := va_free (wc := wc) hD hS hA isC hC
  refine vx_calli hr hS (fun q _ h => hFc q h) hFc (fun q _ h => hFc q h) (fun E ce q9 u t H1 locs1 ht hvm hw hB hz1 hk1 hS1 hce hcv hcl => ?_) (fun r u t H1 locs1 ht hvm hw hB hz1 hk1 hS1 => ?_)
  · subst hB
    have hP1 : va_P G vwCl [] H1 := fun k q h => by simp at h
    have hD1 : va_D (va_A wc H.size) [] := ⟨fun i j p q h => by simp at h, fun k q h => by simp at h⟩
    obtain ⟨hP2, hD2⟩ := va_join hP hD isC isR hC (gz_mf hR) hnR hdis hk1 hFc hP1 hD1
    rw [List.append_nil] at hP2 hD2
    exact kx ce q9 u H1 locs1 hw hP2 hD2 hS1 hce hcv hcl
  · obtain ⟨hP1, hK1, hD1⟩ := hB
    rw [ht] at hP1
    obtain ⟨hP2, hD2⟩ := va_join hP hD isC isR hC (gz_mf hR) hnR hdis hk1 hFc hP1 hD1
    exact kk r u H1 locs1 hw hP2 hD2 hS1
end GZX
