/-! One list of words for all methods; one shape of contract; one row a call, an entry, an end. -/
def gz_T : List Cond := lw_tbl.filter goodWord
theorem gz_at {w : Cond} (i : Nat) (h : tables_1[i]? = some w) (g : goodWord w = true) : w ∈ gz_T := List.mem_filter.mpr ⟨List.mem_append_right _ (List.mem_of_getElem? h), g⟩
theorem gz_sel {w : Cond} (i : Nat) (h : (k2_sels lw_privs)[i]? = some w) (g : goodWord w = true) : w ∈ gz_T := List.mem_filter.mpr ⟨List.mem_append_left _ (List.mem_of_getElem? h), g⟩
theorem gz_good {y : MethodName} {bytes : ByteArray} {maxL : Nat} {ret : Option FieldType} (h : Cond.code y bytes maxL ret ∈ gz_T) : GoodIn gz_T (Cond.code y bytes maxL ret :: gz_T) := fun w hw => by
  have hm : w ∈ gz_T := (List.mem_cons.mp hw).elim (fun e => e ▸ h) id
  exact ⟨hm, good_of_word (List.mem_filter.mp hm).2⟩
/-- the array classes that the worlds speak of: int, byte, boolean, int[], WellCourt$Day, long -/
abbrev gzK (cy : Nat → ClassId) : List (ClassId × FieldType) := [(cy 0, .int), (cy 1, .byte), (cy 2, .boolean), (cy 3, .array .int), (cy 4, .object "WellCourt$Day"), (cy 5, .long)]
/-- the words of nest mates' private members -/
def gNest : Cond → Bool
  | .fieldLinkNest .. => true
  | .methodLinkNest .. => true
  | _ => false
def gzN : List Cond := tables_1.filter gNest
theorem gz_nest {w : Cond} (i : Nat) (h : tables_1[i]? = some w) (g : gNest w = true) : w ∈ gzN := List.mem_filter.mpr ⟨List.mem_of_getElem? h, g⟩
/-- what isn't among the good words: arrays over int[] and over WellCourt$Day are there; nest mates' words -/
def gOv (U : State) : Prop := va_AOA .int U ∧ va_AO "WellCourt$Day" U ∧ ∀ w ∈ gzN, va_Nw w U
theorem gOv.same {u U : State} (hvm : u.vm = U.vm) (h : gOv u) : gOv U := ⟨over_moved (a := #[]) (a' := #[]) (by rw [hvm]; exact Vm.Alike.refl U.vm) h.1, va_AO.moved (by rw [hvm]; exact Vm.Alike.refl U.vm) h.2.1, fun w hw => by
  have hg : gNest w = true := (List.mem_filter.mp hw).2
  refine va_Nw.same ?_ hvm (h.2.2 w hw)
  cases w <;> first | rfl | (simp [gNest] at hg; done)⟩
theorem gOv.warm {u U : State} (hW : u.WarmedH U.vm) (h : gOv u) : gOv U := ⟨over_moved (a := #[]) (a' := #[]) hW.alike h.1, va_AO.moved hW.alike h.2.1, fun w hw => by
  have hg : gNest w = true := (List.mem_filter.mp hw).2
  have h0 := h.2.2 w hw
  cases w <;> first | (simp [gNest] at hg; done) | exact va_Nw.warmF hW h0 | exact va_Nw.warmM hW h0⟩
/-- a contract's start: the cells ws, apart, in a heap of sz cells -/
abbrev gP (G : va_G) (cy : Nat → ClassId) (sz : Nat) (ws : va_W) : State → Prop := fun U => U.heap.size = sz ∧ va_P G vwCl ws U.heap ∧ (va_K G vwCl (gzK cy) U ∧ gOv U) ∧ va_D (fun _ => True) ws
/-- a contract's end: the cells cf u -/
abbrev gB {S : Type} (G : va_G) (cy : Nat → ClassId) (A : Nat → Prop) (cf : S → va_W) : S → State → Prop := fun u t => va_P G vwCl (cf u) t.heap ∧ va_K G vwCl (gzK cy) t ∧ va_D A (cf u)
abbrev gQi {S : Type} (G : va_G) (cy : Nat → ClassId) (post : Int32 → S → Prop) (cf : S → va_W) (A : Nat → Prop) := va_Qi post (gB G cy A cf) A
abbrev gQv {S : Type} (G : va_G) (cy : Nat → ClassId) (post : S → Prop) (cf : S → va_W) (A : Nat → Prop) := va_Qv post (gB G cy A cf) A
/-- the contract of a method with an int (boolean) answer, of one without -/
abbrev gMi {S : Type} (l : Launch) (y : MethodName) (bytes : ByteArray) (maxL : Nat) (ret : Option FieldType) (rm : Room) (G : va_G) (cy : Nat → ClassId) (sz : Nat) (av : List Value) (ws : va_W) (post : Int32 → S → Prop) (cf : S → va_W) : Prop :=
  Met l y (Cond.code y bytes maxL ret :: gz_T) rm (va_Pc av (gP G cy sz ws)) (gQi G cy post cf (va_A ws sz)) rm.cells rm.slots (va_A ws sz)
abbrev gMv {S : Type} (l : Launch) (y : MethodName) (bytes : ByteArray) (maxL : Nat) (rm : Room) (G : va_G) (cy : Nat → ClassId) (sz : Nat) (av : List Value) (ws : va_W) (post : S → Prop) (cf : S → va_W) : Prop :=
  Met l y (Cond.code y bytes maxL none :: gz_T) rm (va_Pc av (gP G cy sz ws)) (gQv G cy post cf (va_A ws sz)) rm.cells rm.slots (va_A ws sz)
theorem gz_blind {G : va_G} {cy : Nat → ClassId} {sz : Nat} {av : List Value} {ws : va_W} : FrameBlind (va_Pc av (gP G cy sz ws)) := fun a U g mk q => by
  obtain ⟨q0, q1, qP, qK, qD⟩ := q
  exact ⟨q0, q1, qP, ⟨va_K.moved (u := U) (U := U.calling g mk a) (Vm.Alike.refl U.vm) qK.1, gOv.same (u := U) (U := U.calling g mk a) rfl qK.2⟩, qD⟩
/-- the entry of a method -/
theorem gz_start {l : Launch} {y : MethodName} {cc : ByteArray} {maxL : Nat} {ret : Option FieldType} {rm : Room} {G : va_G} {cy : Nat → ClassId} {sz : Nat} {av : List Value} {ws : va_W} (Qf : (Nat → Prop) → Array Value → State → Outcome → State → Prop)
    (hy : plainName y.cls = true) (hn : (lg_sl av).length ≤ maxL)
    (body : ∀ (p : Program) (e : Env) (s : State) (m : MethodId) (below : List Frame) (meth : Method) (c : Code) (A : Nat → Prop) (ls : Array Slot) (H : Heap), p.tables.exec = Jvm.exec → c.code = cc → meth.sig.returnType = ret → c.maxLocals = maxL → meth.locks = false → meth.name = y.name → s.vm.findClass y.cls = some m.cls → (∀ w ∈ gz_T, w.before av.toArray s = true) →
      va_K G vwCl (gzK cy) s → gOv s → H.size = sz → va_P G vwCl ws H → va_D A ws → va_S A s.heap H [] → (∀ q, s.heap.size ≤ q → A q) → lv_has ls maxL (lv_args 0 av) →
      W p l e rm s m av.toArray below meth c H [] 0 0 (MQ below (Qf A) av.toArray s rm.cells rm.slots A) (F0 m 0 ls [])) :
    Met l y (Cond.code y cc maxL ret :: gz_T) rm (va_Pc av (gP G cy sz ws)) (Qf (va_A ws sz)) rm.cells rm.slots (va_A ws sz) := by
  refine Met.ofW (cc := cc) (maxL := maxL) (ret := ret) hy rfl ?_
  intro p e s m args below meth c s₁ B hml hv
  obtain ⟨rfl, hsz, hP, ⟨hK, hov⟩, hD0⟩ := hv
  subst hsz
  have hl := lv_entry av (n := maxL) hn
  rw [lg_entry_eq]
  exact body p e s m below meth c _ _ s.heap B.exec B.bytes B.returns hml B.notSynchronized (name_of_methodNamed B.named B.method).1 (findClass_of_methodNamed B.named) (fun w h => atoms_spec (ws := Cond.code y cc maxL ret :: gz_T) B.pre w (List.mem_cons_of_mem _ h)) hK hov rfl hP (hD0.self (sz := s.heap.size)) va_S.rf (fun q h => Or.inr h) hl
section GZ
variable {p : Program} {l : Launch} {e : Env} {R : Room} {s : State} {m : MethodId} {args : Array Value} {below : List Frame} {meth : Method} {c : Code} {H H0 : Heap} {locs : List Loc} {cells slots : Nat} {Q : State → Prop}
variable {G : va_G} {cy : Nat → ClassId} {A : Nat → Prop} {ws wc wr : va_W} {cc bytes : ByteArray} {pc : Nat} {ls : Array Slot} {S : Type} {st0 rest : List Value} {maxL index n : Nat} {y : MethodName} {ret : Option FieldType} {own C : String} {rm : Room} {mc ms : Nat}
theorem gz_fm : ∀ {is : List Nat} {w2 : va_W}, is.map (fun i => ws[i]?) = w2.map some → is.filterMap (fun i => ws[i]?) = w2
  | [], [], _ => rfl
  | [], _ :: _, h => by cases h
  | _ :: _, [], h => by cases h
  | i :: is, x :: w2, h => by
    have h1 : ws[i]? = some x ∧ is.map (fun i => ws[i]?) = w2.map some := by
      have := List.cons.inj h
      exact this
    rw [List.filterMap_cons, h1.1]
    exact congrArg (x :: ·) (gz_fm h1.2)
theorem gz_iret {post : Int32 → S → Prop} {cf : S → va_W} {ty : FieldType} (hx : p.tables.exec = Jvm.exec) (hb : c.code = cc) (hr : meth.sig.returnType = some ty) (hlocks : meth.locks = false) (hK : va_K G vwCl (gzK cy) s) (hP : va_P G vwCl ws H) (hD : va_D A ws) (hS : va_S A s.heap H locs) {r : Int32} (u : S) (is : List Nat) (hn : narrow ty (.int r) = .int r) (hpost : post r u) (h2 : va_nd is = true) (h3 : is.map (fun i => ws[i]?) = (cf u).map some) (hc : cells ≤ mc) (hs : slots ≤ ms) (hdg : decode cc pc = .ok (.ireturn, 1)) :
    W p l e R s m args below meth c H locs cells slots (MQ below (gQi G cy post cf A) args s mc ms A) (F0 m pc ls [.int r]) := by
  refine W.widen (k := mc) (n := ms) hc hs ?_
  exact W.zret hx hb hr hn (fun t ht hW => ⟨⟨r, u, rfl, hpost, by rw [ht]; exact hP.sub is (gz_fm h3), va_K.moved hW.alike hK, hD.sub is h2 h3⟩, hS.F ht⟩) hS.2.2 hdg hlocks
theorem gz_vret {post : S → Prop} {cf : S → va_W} (hx : p.tables.exec = Jvm.exec) (hb : c.code = cc) (hr : meth.sig.returnType = none) (hlocks : meth.locks = false) (hK : va_K G vwCl (gzK cy) s) (hP : va_P G vwCl ws H) (hD : va_D A ws) (hS : va_S A s.heap H locs) (u : S) (is : List Nat) (hpost : post u) (h2 : va_nd is = true) (h3 : is.map (fun i => ws[i]?) = (cf u).map some) (hc : cells ≤ mc) (hs : slots ≤ ms) (hdg : decode cc pc = .ok (.return_, 1)) :
    W p l e R s m args below meth c H locs cells slots (MQ below (gQv G cy post cf A) args s mc ms A) (F0 m pc ls []) := by
  refine W.widen (k := mc) (n := ms) hc hs ?_
  exact W.vret hx hb hr (fun t ht hW => ⟨⟨u, rfl, hpost, by rw [ht]; exact hP.sub is (gz_fm h3), va_K.moved hW.alike hK, hD.sub is h2 h3⟩, hS.F ht⟩) hS.2.2 hdg hlocks
/-- what a call's words are -/
theorem gz_cb (hts : ∀ w ∈ gz_T, w.before args s = true) (m1 : Cond.methodLink own index y ∈ gz_T) (m4 : Cond.initialized y.cls ∈ gz_T) (m5 : Cond.code y bytes maxL ret ∈ gz_T)
    (hd : y.cls ≠ "java/lang/invoke/MethodHandle" ∧ y.cls ≠ "java/lang/invoke/VarHandle" ∧ (parseMethodDescriptor y.desc).map (fun d => d.parameters.length) = some n) (hR : rm.frames + 1 ≤ R.frames ∧ 8 + (maxL + 11) + rm.locals ≤ R.locals) :
    CallB R s args own index y bytes maxL ret (Cond.code y bytes maxL ret :: gz_T) rm rm.cells rm.slots n := callB_of n hts (gz_good m5) rfl rfl rfl (hts _ m4) (hts _ m1) hd hR
theorem gz_preS (hK : va_K G vwCl (gzK cy) s) (hov : gOv s) (hP : va_P G vwCl ws H) (hD : va_D A ws) (isC : List Nat) (hn : va_nd isC = true) (hC : isC.map (fun i => ws[i]?) = wc.map some) {As : List Value} : PreS s H (va_Pc As (gP G cy H.size wc)) As :=
  ⟨gz_blind, fun U hU hW => ⟨rfl, by rw [hU], by rw [hU]; exact hP.sub isC (gz_fm hC), ⟨va_K.moved hW.alike hK, hov.warm hW⟩, (hD.sub isC hn hC).weaken (fun _ _ _ _ => trivial)⟩⟩
theorem gz_preV {T : u_T} {N ci b q0 : Nat} {fs As : List Value} (hK : va_K G vwCl (gzK cy) s) (hov : gOv s) (hP : va_P G vwCl ws H) (hD : va_D A ws) (isC : List Nat) (hn : va_nd isC = true) (hC : isC.map (fun i => ws[i]?) = wc.map some) (hc : vwCl[ci]? = some (C, T, N)) (he : wc[q0]? = some (b, .inr (ci, fs))) : PreV s H C b (va_Pc (.ref b :: As) (gP G cy H.size wc)) As :=
  ⟨gz_blind, va_recv hK (hP.sub isC (gz_fm hC)) hc he, (gz_preS hK hov hP hD isC hn hC).2⟩
theorem gz_mf : ∀ {is : List Nat}, is.all (fun i => decide (i < ws.length)) = true → is.map (fun i => ws[i]?) = (is.filterMap (fun i => ws[i]?)).map some
  | [], _ => rfl
  | i :: is, h => by
    have h1 : decide (i < ws.length) = true ∧ is.all (fun i => decide (i < ws.length)) = true := by
      rw [List.all_cons, Bool.and_eq_true] at h
      exact h
    have h2 : i < ws.length := of_decide_eq_true h1.1
    rw [List.filterMap_cons, List.map_cons, List.getElem?_eq_getElem h2, gz_mf h1.2]
    rfl
/-- behind a call -/
theorem gz_afti {post : Int32 → S → Prop} {cf : S → va_W} {a : Array Value}
    (hr : va_Run p l e R s m args below meth c H locs cells slots mc ms (F0 m pc ls st0) rest (gQi G cy post cf (va_A wc H.size) a) (va_A wc H.size))
    (hP : va_P G vwCl ws H) (hD : va_D A ws) (hS : va_S A H0 H locs) (hA : ∀ q, H0.size ≤ q → A q) (isC isR : List Nat) (hC : isC.map (fun i => ws[i]?) = wc.map some) (hR : isR.all (fun i => decide (i < ws.length)) = true) (hnR : va_nd isR = true) (hdis : ∀ i ∈ isR, i ∉ isC)
    (kk : ∀ (r : Int32) (u : S) (H1 : Heap) (locs1 : List Loc), post r u → va_P G vwCl (isR.filterMap (fun i => ws[i]?) ++ cf u) H1 → va_D A (isR.filterMap (fun i => ws[i]?) ++ cf u) → va_S A H0 H1 locs1 → W p l e R s m args below meth c H1 locs1 (cells + mc) (slots + ms) Q (F0 m (pc + 3) ls (.int r :: rest))) :
    W p l e R s m args below meth c H locs cells slots Q (F0 m pc ls st0) := by
  have hFc := va_free (wc := wc) hD hS hA isC hC
  refine va_calli hr hS (fun q _ h => hFc q h) hFc (fun r u t H1 locs1 ht hvm hw hB hz1 hk1 hS1 => ?_)
  obtain ⟨hP1, hK1, hD1⟩ := hB
  rw [ht] at hP1
  obtain ⟨hP2, hD2⟩ := va_join hP hD isC isR hC (gz_mf hR) hnR hdis hk1 hFc hP1 hD1
  exact kk r u H1 locs1 hw hP2 hD2 hS1
theorem gz_aftv {post : S → Prop} {cf : S → va_W} {a : Array Value}
    (hr : va_Run p l e R s m args below meth c H locs cells slots mc ms (F0 m pc ls st0) rest (gQv G cy post cf (va_A wc H.size) a) (va_A wc H.size))
    (hP : va_P G vwCl ws H) (hD : va_D A ws) (hS : va_S A H0 H locs) (hA : ∀ q, H0.size ≤ q → A q) (isC isR : List Nat) (hC : isC.map (fun i => ws[i]?) = wc.map some) (hR : isR.all (fun i => decide (i < ws.length)) = true) (hnR : va_nd isR = true) (hdis : ∀ i ∈ isR, i ∉ isC)
    (kk : ∀ (u : S) (H1 : Heap) (locs1 : List Loc), post u → va_P G vwCl (isR.filterMap (fun i => ws[i]?) ++ cf u) H1 → va_D A (isR.filterMap (fun i => ws[i]?) ++ cf u) → va_S A H0 H1 locs1 → W p l e R s m args below meth c H1 locs1 (cells + mc) (slots + ms) Q (F0 m (pc + 3) ls rest)) :
    W p l e R s m args below meth c H locs cells slots Q (F0 m pc ls st0) := by
  have hFc := va_free (wc := wc) hD hS hA isC hC
  refine va_callv hr hS (fun q _ h => hFc q h) hFc (fun u t H1 locs1 ht hvm hw hB hz1 hk1 hS1 => ?_)
  obtain ⟨hP1, hK1, hD1⟩ := hB
  rw [ht] at hP1
  obtain ⟨hP2, hD2⟩ := va_join hP hD isC isR hC (gz_mf hR) hnR hdis hk1 hFc hP1 hD1
  exact kk u H1 locs1 hw hP2 hD2 hS1
/-- a new array of a class that is known -/
theorem gz_newa (hx : p.tables.exec = Jvm.exec) (hb : c.code = cc) {atype : ArrayType} {ty : FieldType} (t0 : Nat) {cA : ClassId} (ht0 : (gzK cy)[t0]? = some (cA, ty)) (hpr : ∀ (U : State) (c9 : ClassId), va_RA U c9 ty → U.vm.findClass ("[" ++ ty.toString) = some c9) (harr : (Cond.arrayClass (newarray.typeOf atype)).before args s = true) (hty : newarray.typeOf atype = ty) (hK : va_K G vwCl (gzK cy) s) (hP : va_P G vwCl ws H) (hD : va_D A ws) (hS : va_S A H0 H locs) (hA : ∀ q, H0.size ≤ q → A q)
    {n : Int32} {N' : Nat} {a0 : vp_A} (ha : ∀ cA : ClassId, vp_cell cA a0 = arrV cA N' (fun _ => defaultValue ty)) (hn : ¬ n < 0) (hN : n.toNatClampNeg = N') (hbytes : N' * componentBytes ty ≤ 536870912) (hcells : cells + 1 ≤ R.cells) (hslots : slots + N' ≤ R.slots) (hdg : decode cc pc = .ok (.newarray atype, 2))
    (kk : ∀ (q : Nat) (H1 : Heap), va_P G vwCl (ws ++ [(q, .inl (cA, a0))]) H1 → va_D A (ws ++ [(q, .inl (cA, a0))]) → va_S A H0 H1 locs → W p l e R s m args below meth c H1 locs (cells + 1) (slots + N') Q (F0 m (pc + 2) ls (.ref q :: rest))) : W p l e R s m args below meth c H locs cells slots Q (F0 m pc ls (.int n :: rest)) := by
  refine va_newa hx hb harr hty hK hP hD hS hA ha hn hN hbytes hcells hslots hdg (fun q c9 H1 hK9 hP9 hD9 hS9 => ?_)
  have h9 := (hK9.2 (gzK cy).length (c9, ty) (by rw [List.getElem?_append_right (Nat.le_refl _), Nat.sub_self]; rfl)).2
  have e9 : c9 = cA := Option.some.inj ((hpr _ _ h9).symm.trans (hpr _ _ (hK.2 t0 _ ht0).2))
  subst e9
  exact kk q H1 hP9 hD9 hS9
/-- a row out of an array of int arrays -/
theorem gz_alda (hx : p.tables.exec = Jvm.exec) (hb : c.code = cc) (hK : va_K G vwCl (gzK cy) s) (hP : va_P G vwCl ws H) {a : Nat} (q0 : Nat) {n : Nat} {f : Nat → Option Nat} (ha : ws[q0]? = some (a, .inl (cy 3, n, .inr (.inr (.inr (.inr f)))))) {i : Int32} (hin : vp_in i n) (hdg : decode cc pc = .ok (.aaload, 1)) {v : Value} (hv : va_rf (f i.toNatClampNeg) = v)
    (kk : W p l e R s m args below meth c H locs cells slots Q (F0 m (pc + 1) ls (v :: rest))) : W p l e R s m args below meth c H locs cells slots Q (F0 m pc ls (.int i :: .ref a :: rest)) := by
  subst hv
  have hlt : i.toNatClampNeg < n := Nat.not_le.mp fun q => hin (Or.inr q)
  exact W.aald (v := va_rf (f i.toNatClampNeg)) (ty := .array .int) hx hb (hP q0 _ ha) ((hK.2 3 (cy 3, .array .int) rfl).1 n (fun j => va_rf (f j))) rfl (fun q => by cases q) (by show ¬ (i < 0 ∨ (arrV _ _ _).slots.size ≤ _); rw [arrV_size]; exact hin) (by show (arrV _ _ _).slots[_]? = _; rw [arrV_read _ _ hlt]) rfl rfl hdg kk
/-- an array's contents count below its length alone -/
theorem gz_arr {k a n : Nat} {cA : ClassId} {f g : Nat → Int32} (h : ∀ j, j < n → f j = g j) (hP : va_P G vwCl ws H) (hk : ws[k]? = some (a, .inl (cA, n, .inl f))) : va_P G vwCl (ws.set k (a, .inl (cA, n, .inl g))) H := by
  intro j q hj
  by_cases e : k = j
  · subst e
    have hlt : k < ws.length := (List.getElem?_eq_some_iff.mp hk).1
    rw [List.getElem?_set_self hlt] at hj
    cases hj
    have h0 := hP k _ hk
    show H[a]? = some (arrV cA n (fun j => .int (g j)))
    have h1 : H[a]? = some (arrV cA n (fun j => .int (f j))) := h0
    rw [h1]
    congr 1
    unfold arrV
    congr 1
    apply Array.ext
    · simp
    · intro i h1 h2
      simp at h1
      simp [h i h1]
  · rw [List.getElem?_set_ne e] at hj
    exact hP j q hj
end GZ
