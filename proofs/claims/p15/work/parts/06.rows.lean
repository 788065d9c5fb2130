/-! A system whose cells are named (family k, number i); what they hold is one function: st k i j, the int at place j (a field, an element) of the cell (k, i). The references are fixed by the shape sh. -/
abbrev gS : Type := Nat → Nat → Nat → Int32
abbrev gSh : Type := Nat → Nat → (Nat → Int32) → va_E
def gM (G : va_G) (sh : gSh) (cnt : Nat → Nat) (ad : Nat → Nat → Nat) (st : gS) (H : Heap) : Prop := ∀ k i, i < cnt k → va_at G vwCl (ad k i, sh k i (st k i)) H
def gI (cnt : Nat → Nat) (ad : Nat → Nat → Nat) : Prop := ∀ k i k' i', i < cnt k → i' < cnt k' → ad k i = ad k' i' → k = k' ∧ i = i'
/-- the cells of the system, and all that come from sz on -/
def gA (cnt : Nat → Nat) (ad : Nat → Nat → Nat) (sz : Nat) : Nat → Prop := fun q => (∃ k i, i < cnt k ∧ q = ad k i) ∨ sz ≤ q
def gU (st : gS) (k i j : Nat) (v : Int32) : gS := fun a b => if a = k ∧ b = i then upd (st k i) j v else st a b
theorem gU_at (st : gS) (k i j : Nat) (v : Int32) : gU st k i j v k i = upd (st k i) j v := by unfold gU; rw [if_pos ⟨rfl, rfl⟩]
theorem gU_ne {st : gS} {k i j a b : Nat} {v : Int32} (h : ¬ (a = k ∧ b = i)) : gU st k i j v a b = st a b := by unfold gU; rw [if_neg h]
theorem gU_k {st : gS} {k i j a : Nat} {v : Int32} (h : a ≠ k) : gU st k i j v a = st a := by funext b; exact gU_ne (fun q => h q.1)
theorem gU_same (st : gS) (k i j : Nat) (v : Int32) : gU st k i j v k i j = v := by rw [gU_at]; exact pk_us
theorem gU_other {st : gS} {k i j c : Nat} {v : Int32} (h : c ≠ j) : gU st k i j v k i c = st k i c := by rw [gU_at]; exact pk_un h
/-- nothing changes but the families fs -/
def gN (fs : List Nat) (st st' : gS) : Prop := ∀ k, k ∉ fs → st' k = st k
theorem gN.rf {fs : List Nat} {st : gS} : gN fs st st := fun _ _ => rfl
theorem gN.trans {fs : List Nat} {a b c : gS} (h1 : gN fs a b) (h2 : gN fs b c) : gN fs a c := fun k h => (h2 k h).trans (h1 k h)
theorem gN.up {fs : List Nat} {a b : gS} {k i j : Nat} {v : Int32} (h : gN fs a b) (hk : k ∈ fs) : gN fs a (gU b k i j v) := fun q hq => (gU_k (fun e9 : q = k => hq (by rw [e9]; exact hk))).trans (h q hq)
theorem gN.wide {fs gs : List Nat} {a b : gS} (h : gN fs a b) (hs : ∀ k ∈ fs, k ∈ gs) : gN gs a b := fun k hk => h k (fun q => hk (hs k q))
theorem gM.put {G : va_G} {sh : gSh} {cnt : Nat → Nat} {ad : Nat → Nat → Nat} {st : gS} {H H1 : Heap} {k i j : Nat} {v : Int32} (hM : gM G sh cnt ad st H) (hI : gI cnt ad) (hi : i < cnt k) (he : va_at G vwCl (ad k i, sh k i (upd (st k i) j v)) H1) (oq : ∀ q : Nat, q ≠ ad k i → H1[q]? = H[q]?) : gM G sh cnt ad (gU st k i j v) H1 := by
  intro a b hb
  by_cases e : a = k ∧ b = i
  · obtain ⟨rfl, rfl⟩ := e
    rw [gU_at]; exact he
  · rw [gU_ne e]
    exact (hM a b hb).kept (oq _ (fun q => e (hI a b k i hb hi q)))
theorem gM.kept {G : va_G} {sh : gSh} {cnt : Nat → Nat} {ad : Nat → Nat → Nat} {st : gS} {H H1 : Heap} (hM : gM G sh cnt ad st H) (h : ∀ k i, i < cnt k → H1[ad k i]? = H[ad k i]?) : gM G sh cnt ad st H1 := fun k i hi => (hM k i hi).kept (h k i hi)
theorem gM.one {G : va_G} {sh : gSh} {cnt : Nat → Nat} {ad : Nat → Nat → Nat} {st : gS} {H : Heap} (hM : gM G sh cnt ad st H) {k i : Nat} (hi : i < cnt k) {en : va_E} (hs : sh k i (st k i) = en) : va_P G vwCl [(ad k i, en)] H := fun j q hj => by
  have h0 : j < 1 := (List.getElem?_eq_some_iff.mp hj).1
  rw [show j = 0 by omega] at hj
  cases hj
  rw [← hs]; exact hM k i hi
section GSR
variable {p : Program} {l : Launch} {e : Env} {R : Room} {s : State} {m : MethodId} {args : Array Value} {below : List Frame} {meth : Method} {c : Code} {H H0 : Heap} {locs : List Loc} {cells slots : Nat} {Q : State → Prop}
variable {G : va_G} {cy : Nat → ClassId} {A : Nat → Prop} {sh : gSh} {cnt : Nat → Nat} {ad : Nat → Nat → Nat} {st : gS} {cc : ByteArray} {pc : Nat} {ls : Array Slot} {rest : List Value}
theorem gs_get (hx : p.tables.exec = Jvm.exec) (hb : c.code = cc) {own ref C : String} {T : u_T} {N ci index : Nat} (hts : ∀ w ∈ gz_T, w.before args s = true) (hin : ∀ w ∈ u_ws C T N, w ∈ gz_T) (hown : s.vm.findClass own = some m.cls) (hK : va_K G vwCl (gzK cy) s) (hM : gM G sh cnt ad st H) (k i j : Nat) (hi : i < cnt k) {fs : List Value} (hs : sh k i (st k i) = .inr (ci, fs)) (hc : vwCl[ci]? = some (C, T, N)) (hj : j < N) (hlink : (Cond.fieldLink own index ref (T j).2.1 (T j).2.2.1).before args s = true) (hsame : ∀ x, s.fieldFound? (T j).1 (T j).2.1 (T j).2.2.1 = some x → s.fieldFound? ref (T j).2.1 (T j).2.2.1 = some x) {v : Value} (hv : fs[j]? = some v) (hdg : decode cc pc = .ok (.getfield index, 3))
    (kk : W p l e R s m args below meth c H locs cells slots Q (F0 m (pc + 3) ls (v :: rest))) : W p l e R s m args below meth c H locs cells slots Q (F0 m pc ls (.ref (ad k i) :: rest)) :=
  va_get hx hb hts hin hown hK (hM.one hi hs) 0 rfl hc j hj hlink hsame hv hdg kk
theorem gs_getN (hx : p.tables.exec = Jvm.exec) (hb : c.code = cc) {own ref C host : String} {T : u_T} {N ci index : Nat} (hts : ∀ w ∈ gz_T, w.before args s = true) (hin : ∀ w ∈ u_ws C T N, w ∈ gz_T) (hown : s.vm.findClass own = some m.cls) (hK : va_K G vwCl (gzK cy) s) (hM : gM G sh cnt ad st H) (k i j : Nat) (hi : i < cnt k) {fs : List Value} (hs : sh k i (st k i) = .inr (ci, fs)) (hc : vwCl[ci]? = some (C, T, N)) (hj : j < N) (hlink : (Cond.fieldLinkNest own index ref (T j).2.1 (T j).2.2.1 host).before args s = true) (hsame : ∀ x, s.fieldFound? (T j).1 (T j).2.1 (T j).2.2.1 = some x → s.fieldFound? ref (T j).2.1 (T j).2.2.1 = some x) {v : Value} (hv : fs[j]? = some v) (hdg : decode cc pc = .ok (.getfield index, 3))
    (kk : W p l e R s m args below meth c H locs cells slots Q (F0 m (pc + 3) ls (v :: rest))) : W p l e R s m args below meth c H locs cells slots Q (F0 m pc ls (.ref (ad k i) :: rest)) :=
  va_getN hx hb hts hin hown hK (hM.one hi hs) 0 rfl hc j hj hlink hsame hv hdg kk
theorem gs_iald (hx : p.tables.exec = Jvm.exec) (hb : c.code = cc) (hK : va_K G vwCl (gzK cy) s) (hM : gM G sh cnt ad st H) (k i : Nat) (hi : i < cnt k) {n : Nat} (hs : sh k i (st k i) = .inl (cy 0, n, .inl (st k i))) {x : Int32} (hin : vp_in x n) (hdg : decode cc pc = .ok (.iaload, 1))
    (kk : W p l e R s m args below meth c H locs cells slots Q (F0 m (pc + 1) ls (.int (st k i x.toNatClampNeg) :: rest))) : W p l e R s m args below meth c H locs cells slots Q (F0 m pc ls (.int x :: .ref (ad k i) :: rest)) := va_iald hx hb hK (hM.one hi hs) 0 0 rfl rfl hin hdg kk
theorem gs_bald (hx : p.tables.exec = Jvm.exec) (hb : c.code = cc) (hK : va_K G vwCl (gzK cy) s) (hM : gM G sh cnt ad st H) (k i : Nat) (hi : i < cnt k) {n : Nat} (hs : sh k i (st k i) = .inl (cy 1, n, .inl (st k i))) {x : Int32} (hin : vp_in x n) (hdg : decode cc pc = .ok (.baload, 1))
    (kk : W p l e R s m args below meth c H locs cells slots Q (F0 m (pc + 1) ls (.int (st k i x.toNatClampNeg) :: rest))) : W p l e R s m args below meth c H locs cells slots Q (F0 m pc ls (.int x :: .ref (ad k i) :: rest)) := va_bald hx hb hK (hM.one hi hs) 0 1 rfl rfl hin hdg kk
theorem gs_zald (hx : p.tables.exec = Jvm.exec) (hb : c.code = cc) (hK : va_K G vwCl (gzK cy) s) (hM : gM G sh cnt ad st H) (k i : Nat) (hi : i < cnt k) {n : Nat} (hs : sh k i (st k i) = .inl (cy 2, n, .inl (st k i))) {x : Int32} (hin : vp_in x n) (hdg : decode cc pc = .ok (.baload, 1))
    (kk : W p l e R s m args below meth c H locs cells slots Q (F0 m (pc + 1) ls (.int (st k i x.toNatClampNeg) :: rest))) : W p l e R s m args below meth c H locs cells slots Q (F0 m pc ls (.int x :: .ref (ad k i) :: rest)) := va_zald hx hb hK (hM.one hi hs) 0 2 rfl rfl hin hdg kk
/-- a row out of an array of int arrays: the family kr, from o on -/
theorem gs_alda (hx : p.tables.exec = Jvm.exec) (hb : c.code = cc) (hK : va_K G vwCl (gzK cy) s) (hM : gM G sh cnt ad st H) (k i : Nat) (hi : i < cnt k) {n : Nat} {f : Nat → Option Nat} (hs : sh k i (st k i) = .inl (cy 3, n, .inr (.inr (.inr (.inr f))))) {x : Int32} (hin : vp_in x n) {a : Nat} (hf : f x.toNatClampNeg = some a) (hdg : decode cc pc = .ok (.aaload, 1))
    (kk : W p l e R s m args below meth c H locs cells slots Q (F0 m (pc + 1) ls (.ref a :: rest))) : W p l e R s m args below meth c H locs cells slots Q (F0 m pc ls (.int x :: .ref (ad k i) :: rest)) :=
  gz_alda hx hb hK (hM.one hi hs) 0 rfl hin hdg (v := .ref a) (by rw [hf]; rfl) kk
theorem gs_aldd (hx : p.tables.exec = Jvm.exec) (hb : c.code = cc) (hK : va_K G vwCl (gzK cy) s) (hM : gM G sh cnt ad st H) (k i : Nat) (hi : i < cnt k) {n : Nat} {f : Nat → Option Nat} (hs : sh k i (st k i) = .inl (cy 4, n, .inr (.inr (.inr (.inr f))))) {x : Int32} (hin : vp_in x n) {a : Nat} (hf : f x.toNatClampNeg = some a) (hdg : decode cc pc = .ok (.aaload, 1))
    (kk : W p l e R s m args below meth c H locs cells slots Q (F0 m (pc + 1) ls (.ref a :: rest))) : W p l e R s m args below meth c H locs cells slots Q (F0 m pc ls (.int x :: .ref (ad k i) :: rest)) :=
  va_aldq (C := "WellCourt$Day") hx hb hK (hM.one hi hs) 0 4 rfl rfl hin hdg (by rw [hf]; exact kk)
/-- a store: the array (k, i) at place x -/
theorem gs_iast (hx : p.tables.exec = Jvm.exec) (hb : c.code = cc) (hK : va_K G vwCl (gzK cy) s) (hI : gI cnt ad) (hm : ∀ k i, i < cnt k → A (ad k i)) (hM : gM G sh cnt ad st H) (hS : va_S A H0 H locs) (k i : Nat) (hi : i < cnt k) {n : Nat} (hs : ∀ r : Nat → Int32, sh k i r = .inl (cy 0, n, .inl r)) {x v : Int32} (hin : vp_in x n) (hdg : decode cc pc = .ok (.iastore, 1))
    (kk : ∀ (st1 : gS) (H1 : Heap) (locs1 : List Loc), st1 = gU st k i x.toNatClampNeg v → gM G sh cnt ad st1 H1 → va_S A H0 H1 locs1 → W p l e R s m args below meth c H1 locs1 cells slots Q (F0 m (pc + 1) ls rest)) : W p l e R s m args below meth c H locs cells slots Q (F0 m pc ls (.int v :: .int x :: .ref (ad k i) :: rest)) := by
  have h0 : H[ad k i]? = some (arrV (cy 0) n (fun j => .int (st k i j))) := by
    have := hM k i hi
    rw [hs] at this
    exact this
  refine W.iast hx hb h0 ((hK.2 0 (cy 0, .int) rfl).1 n (fun j => .int (st k i j))) (fun q => by cases q) (by show ¬ (x < 0 ∨ (arrV _ _ _).slots.size ≤ _); rw [arrV_size]; exact hin) rfl rfl hdg fun H1 e9 z oq => ?_
  refine kk _ H1 _ rfl (hM.put hI hi ?_ oq) (hS.put z oq (hm k i hi))
  rw [hs]
  show H1[ad k i]? = some (vp_cell _ _)
  rw [e9, vp_cell_i, arrV_store]
  congr 2
  funext q
  by_cases hq : q = x.toNatClampNeg
  · subst hq
    simp [updV, upd]
  · simp [updV, upd, hq]
theorem gs_bast (hx : p.tables.exec = Jvm.exec) (hb : c.code = cc) (hK : va_K G vwCl (gzK cy) s) (hI : gI cnt ad) (hm : ∀ k i, i < cnt k → A (ad k i)) (hM : gM G sh cnt ad st H) (hS : va_S A H0 H locs) (k i : Nat) (hi : i < cnt k) {n : Nat} (hs : ∀ r : Nat → Int32, sh k i r = .inl (cy 1, n, .inl r)) {x v : Int32} (hin : vp_in x n) (hdg : decode cc pc = .ok (.bastore, 1))
    (kk : ∀ (st1 : gS) (H1 : Heap) (locs1 : List Loc), st1 = gU st k i x.toNatClampNeg (vp_nar .byte v) → gM G sh cnt ad st1 H1 → va_S A H0 H1 locs1 → W p l e R s m args below meth c H1 locs1 cells slots Q (F0 m (pc + 1) ls rest)) : W p l e R s m args below meth c H locs cells slots Q (F0 m pc ls (.int v :: .int x :: .ref (ad k i) :: rest)) := by
  have h0 : H[ad k i]? = some (arrV (cy 1) n (fun j => .int (st k i j))) := by
    have := hM k i hi
    rw [hs] at this
    exact this
  refine W.bast hx hb h0 ((hK.2 1 (cy 1, .byte) rfl).1 n (fun j => .int (st k i j))) (fun q => by cases q) (by show ¬ (x < 0 ∨ (arrV _ _ _).slots.size ≤ _); rw [arrV_size]; exact hin) rfl rfl hdg fun H1 e9 z oq => ?_
  refine kk _ H1 _ rfl (hM.put hI hi ?_ oq) (hS.put z oq (hm k i hi))
  rw [hs]
  show H1[ad k i]? = some (vp_cell _ _)
  rw [e9, vp_cell_i, arrV_store]
  congr 2
  funext q
  by_cases hq : q = x.toNatClampNeg
  · subst hq
    simp [updV, upd, vp_nar]
    try rfl
  · simp [updV, upd, hq]
theorem gs_zast (hx : p.tables.exec = Jvm.exec) (hb : c.code = cc) (hK : va_K G vwCl (gzK cy) s) (hI : gI cnt ad) (hm : ∀ k i, i < cnt k → A (ad k i)) (hM : gM G sh cnt ad st H) (hS : va_S A H0 H locs) (k i : Nat) (hi : i < cnt k) {n : Nat} (hs : ∀ r : Nat → Int32, sh k i r = .inl (cy 2, n, .inl r)) {x v : Int32} (hin : vp_in x n) (hdg : decode cc pc = .ok (.bastore, 1))
    (kk : ∀ (st1 : gS) (H1 : Heap) (locs1 : List Loc), st1 = gU st k i x.toNatClampNeg (vp_nar .boolean v) → gM G sh cnt ad st1 H1 → va_S A H0 H1 locs1 → W p l e R s m args below meth c H1 locs1 cells slots Q (F0 m (pc + 1) ls rest)) : W p l e R s m args below meth c H locs cells slots Q (F0 m pc ls (.int v :: .int x :: .ref (ad k i) :: rest)) := by
  have h0 : H[ad k i]? = some (arrV (cy 2) n (fun j => .int (st k i j))) := by
    have := hM k i hi
    rw [hs] at this
    exact this
  refine W.zast hx hb h0 ((hK.2 2 (cy 2, .boolean) rfl).1 n (fun j => .int (st k i j))) (fun q => by cases q) (by show ¬ (x < 0 ∨ (arrV _ _ _).slots.size ≤ _); rw [arrV_size]; exact hin) rfl rfl hdg fun H1 e9 z oq => ?_
  refine kk _ H1 _ rfl (hM.put hI hi ?_ oq) (hS.put z oq (hm k i hi))
  rw [hs]
  show H1[ad k i]? = some (vp_cell _ _)
  rw [e9, vp_cell_i, arrV_store]
  congr 2
  funext q
  by_cases hq : q = x.toNatClampNeg
  · subst hq
    simp [updV, upd, vp_nar]
    try rfl
  · simp [updV, upd, hq]
theorem gs_put (hx : p.tables.exec = Jvm.exec) (hb : c.code = cc) {own ref C : String} {T : u_T} {N ci index : Nat} (hts : ∀ w ∈ gz_T, w.before args s = true) (hin : ∀ w ∈ u_ws C T N, w ∈ gz_T) (ty0 : Nat → FieldType) (hty : ∀ k, k < N → parseFieldDescriptor (T k).2.2.1 = some (ty0 k)) (hnm : ∀ a, a < N → ∀ b, b < N → a ≠ b → (T a).2.1 ≠ (T b).2.1) (hown : s.vm.findClass own = some m.cls) (hK : va_K G vwCl (gzK cy) s) (hI : gI cnt ad) (hm : ∀ k i, i < cnt k → A (ad k i)) (hM : gM G sh cnt ad st H) (hS : va_S A H0 H locs) (k i j : Nat) (hi : i < cnt k) {fs : List Value} (hs : sh k i (st k i) = .inr (ci, fs)) (hc : vwCl[ci]? = some (C, T, N)) (hj : j < N) (hlink : (Cond.fieldLink own index ref (T j).2.1 (T j).2.2.1).before args s = true) (hsame : ∀ x, s.fieldFound? (T j).1 (T j).2.1 (T j).2.2.1 = some x → s.fieldFound? ref (T j).2.1 (T j).2.2.1 = some x) (hfin : (T j).2.2.2 = false) {ty : FieldType} {val : Value} (w : Int32) (hs2 : sh k i (upd (st k i) j w) = .inr (ci, fs.set j val)) (hd : parseFieldDescriptor (T j).2.2.1 = some ty) (hn : narrow ty val = val) (hfit : fits ty val = true) (hl : j < fs.length) (hdg : decode cc pc = .ok (.putfield index, 3))
    (kk : ∀ (st1 : gS) (H1 : Heap) (locs1 : List Loc), st1 = gU st k i j w → gM G sh cnt ad st1 H1 → va_S A H0 H1 locs1 → W p l e R s m args below meth c H1 locs1 cells slots Q (F0 m (pc + 3) ls rest)) : W p l e R s m args below meth c H locs cells slots Q (F0 m pc ls (val :: .ref (ad k i) :: rest)) := by
  have hap := va_apart (own := own) hts hin ty0 hty hnm hK hc
  have hat := hM k i hi
  rw [hs] at hat
  obtain ⟨r9, h1, cell, q1, q2, q3, q4⟩ := hat
  have hr9 : r9 = (C, T, N) := Option.some.inj (h1.symm.trans hc)
  subst hr9
  obtain ⟨hSl, hfc, kC, hkC, hkind⟩ := hK.1 ci _ hc
  obtain ⟨cf9, kf9, fi9, f9, hi9, hsl⟩ := hSl j hj
  have hlay := hts _ (hin _ (u_in_lay hj))
  unfold u_lay at hlay
  rw [if_neg (by rw [hfin]; decide)] at hlay
  have hst := (u_facts hfc hkC (u_lays hts hin hj) hi9).1
  have h6 := u_store hfc hkC hkind hlay hi9 hd hn hfit
  refine W.putK hx hb (f := f9) ⟨hown, hlink, ⟨_, _, _, hsame _ hi9⟩, hst⟩ (by rw [q2]; exact h6) q1 q3 (by rw [hsl]; exact k2_hasslot (q4 j hj)) rfl rfl hdg fun H1 e1 e2 e3 => ?_
  rw [hsl] at e1 ⊢
  refine kk _ H1 _ rfl (hM.put hI hi ?_ e3) (hS.put e2 e3 (hm k i hi))
  rw [hs2]
  exact ⟨_, hc, t_OB.to (V := updV (vp_V fs) j val) ⟨_, e1, q2, q3, t_set q4 hap hj val⟩ (fun q _ => vp_updV_set hl val q)⟩
theorem gs_putN (hx : p.tables.exec = Jvm.exec) (hb : c.code = cc) {own ref C host : String} {T : u_T} {N ci index : Nat} (hts : ∀ w ∈ gz_T, w.before args s = true) (hin : ∀ w ∈ u_ws C T N, w ∈ gz_T) (ty0 : Nat → FieldType) (hty : ∀ k, k < N → parseFieldDescriptor (T k).2.2.1 = some (ty0 k)) (hnm : ∀ a, a < N → ∀ b, b < N → a ≠ b → (T a).2.1 ≠ (T b).2.1) (hown : s.vm.findClass own = some m.cls) (hK : va_K G vwCl (gzK cy) s) (hI : gI cnt ad) (hm : ∀ k i, i < cnt k → A (ad k i)) (hM : gM G sh cnt ad st H) (hS : va_S A H0 H locs) (k i j : Nat) (hi : i < cnt k) {fs : List Value} (hs : sh k i (st k i) = .inr (ci, fs)) (hc : vwCl[ci]? = some (C, T, N)) (hj : j < N) (hlink : (Cond.fieldLinkNest own index ref (T j).2.1 (T j).2.2.1 host).before args s = true) (hsame : ∀ x, s.fieldFound? (T j).1 (T j).2.1 (T j).2.2.1 = some x → s.fieldFound? ref (T j).2.1 (T j).2.2.1 = some x) (hfin : (T j).2.2.2 = false) {ty : FieldType} {val : Value} (w : Int32) (hs2 : sh k i (upd (st k i) j w) = .inr (ci, fs.set j val)) (hd : parseFieldDescriptor (T j).2.2.1 = some ty) (hn : narrow ty val = val) (hfit : fits ty val = true) (hl : j < fs.length) (hdg : decode cc pc = .ok (.putfield index, 3))
    (kk : ∀ (st1 : gS) (H1 : Heap) (locs1 : List Loc), st1 = gU st k i j w → gM G sh cnt ad st1 H1 → va_S A H0 H1 locs1 → W p l e R s m args below meth c H1 locs1 cells slots Q (F0 m (pc + 3) ls rest)) : W p l e R s m args below meth c H locs cells slots Q (F0 m pc ls (val :: .ref (ad k i) :: rest)) := by
  have hap := va_apart (own := own) hts hin ty0 hty hnm hK hc
  have hat := hM k i hi
  rw [hs] at hat
  obtain ⟨r9, h1, cell, q1, q2, q3, q4⟩ := hat
  have hr9 : r9 = (C, T, N) := Option.some.inj (h1.symm.trans hc)
  subst hr9
  obtain ⟨hSl, hfc, kC, hkC, hkind⟩ := hK.1 ci _ hc
  obtain ⟨cf9, kf9, fi9, f9, hi9, hsl⟩ := hSl j hj
  have hlay := hts _ (hin _ (u_in_lay hj))
  unfold u_lay at hlay
  rw [if_neg (by rw [hfin]; decide)] at hlay
  have hst := (u_facts hfc hkC (u_lays hts hin hj) hi9).1
  have h6 := u_store hfc hkC hkind hlay hi9 hd hn hfit
  refine va_WputK hx hb hown hlink (hsame _ hi9) hst (by rw [q2]; exact h6) q1 q3 (by rw [hsl]; exact k2_hasslot (q4 j hj)) rfl rfl hdg fun H1 e1 e2 e3 => ?_
  rw [hsl] at e1 ⊢
  refine kk _ H1 _ rfl (hM.put hI hi ?_ e3) (hS.put e2 e3 (hm k i hi))
  rw [hs2]
  exact ⟨_, hc, t_OB.to (V := updV (vp_V fs) j val) ⟨_, e1, q2, q3, t_set q4 hap hj val⟩ (fun q _ => vp_updV_set hl val q)⟩
end GSR
