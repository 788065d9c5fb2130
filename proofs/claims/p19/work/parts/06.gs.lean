/-! A system whose cells are named (family k, number i); what they hold is one function: st k i j, the int at place j (a field, an element) of the cell (k, i). The references are fixed by the shape sh. -/
abbrev gS : Type := Nat → Nat → Nat → Int32
abbrev gSh : Type := Nat → Nat → (Nat → Int32) → va_E
def gM (G : va_G) (sh : gSh) (cnt : Nat → Nat) (ad : Nat → Nat → Nat) (st : gS) (H : Heap) : Prop := ∀ k i, i < cnt k → va_at G vwCl (ad k i, sh k i (st k i)) H
def gI (cnt : Nat → Nat) (ad : Nat → Nat → Nat) : Prop := ∀ k i k' i', i < cnt k → i' < cnt k' → ad k i = ad k' i' → k = k' ∧ i = i'
/-- the cells of the system, and all that come from sz on -/
def gA (cnt : Nat → Nat) (ad : Nat → Nat → Nat) (sz : Nat) : Nat → Prop := fun q => (∃ k i, i < cnt k ∧ q = ad k i) ∨ sz ≤ q
def gU (st : gS) (k i j : Nat) (v : Int32) : gS := fun a b => if a = k ∧ b = i then upd (st k i) j v else st a b
theorem gU_at (st : gS) (k i j : Nat) (v : Int32) : gU st k i j v k i = upd (st k i) j v := by unfold gU; rw [if_pos ⟨rfl, rfl⟩]
theorem gU_ne {st : gS} {k i j a b : Nat} {v : Int32} (h : ¬ (a = k ∧ b = i)) : gU st k i j v a b = st a b := by unfold gU; rw [if_neg h]
theorem gU_k {st : gS} {k i j a : Nat} {v : Int32} (h : a ≠ k) : gU st k i j v a = st a := by funext b; exact gU_ne (fun q => h q.1)
theorem gU_same (st : gS) (k i j : Nat) (v : Int32) : gU st k i j v k i j = v := by rw [gU_at]; exact pk_us
theorem gU_other {st : gS} {k i j c : Nat} {v : Int32} (h : c ≠ j) : gU st k i j v k i c = st k i c := by rw [gU_at]; exact pk_un h
/-- nothing changes but the families fs -/
def gN (fs : List Nat) (st st' : gS) : Prop := ∀ k, k ∉ fs → st' k = st k
theorem gN.rf {fs : List Nat} {st : gS} : gN fs st st := fun _ _ => rfl
theorem gN.trans {fs : List Nat} {a b c : gS} (h1 : gN fs a b) (h2 : gN fs b c) : gN fs a c := fun k h => (h2 k h).trans (h1 k h)
theorem gN.up {fs : List Nat} {a b : gS} {k i j : Nat} {v : Int32} (h : gN fs a b) (hk : k ∈ fs) : gN fs a (gU b k i j v) := fun q hq => (gU_k (fun e9 : q = k => hq (by rw [e9]; exact hk))).trans (h q hq)
theorem gN.wide {fs gs : List Nat} {a b : gS} (h : gN fs a b) (hs : ∀ k ∈ fs, k ∈ gs) : gN gs a b := fun k hk => h k (fun q => hk (hs k q))
theorem gM.put {G : va_G} {sh : gSh} {cnt : Nat → Nat} {ad : Nat → Nat → Nat} {st : gS} {H H1 : Heap} {k i j : Nat} {v : Int32} (hM : gM G sh cnt ad st H) (hI : gI cnt ad) (hi : i < cnt k) (he : va_at G vwCl (ad k i, sh k i (upd (st k i) j v)) H1) (oq : ∀ q : Nat, q ≠ ad k i → H1[q]? = H[q]?) : gM G sh cnt ad (gU st k i j v) H1 := by
  intro a b hb
  by_cases e : a = k ∧ b = i
  · obtain ⟨rfl, rfl⟩ := e
    rw [gU_at]; exact he
  · rw [gU_ne e]
    exact (hM a b hb).kept (oq _ (fun q => e (hI a b k i hb hi q)))
theorem gM.kept {G : va_G} {sh : gSh} {cnt : Nat → Nat} {ad : Nat → Nat → Nat} {st : gS} {H H1 : Heap} (hM : gM G sh cnt ad st H) (h : ∀ k i, i < cnt k → H1[ad k i]? = H[ad k i]?) : gM G sh cnt ad st H1 := fun k i hi => (hM k i hi).kept (h k i hi)
theorem gM.one {G : va_G} {sh : gSh} {cnt : Nat → Nat} {ad : Nat → Nat → Nat} {st : gS} {H : Heap} (hM : gM G sh cnt ad st H) {k i : Nat} (hi : i < cnt k) {en : va_E} (hs : sh k i (st k i) = en) : va_P G vwCl [(ad k i, en)] H := fun j q hj => by
  have h0 : j < 1 := (List.getElem?_eq_some_iff.mp hj).1
  rw [show j = 0 by omega] at hj
  cases hj
  rw [← hs]; exact hM k i hi
section GSR
variable {p : Program} {l : Launch} {e : Env} {R : Room} {s : State} {m : MethodId} {args : Array Value} {below : List Frame} {meth : Method} {c : Code} {H H0 : Heap} {locs : List Loc} {cells slots : Nat} {Q : State → Prop}
variable {G : va_G} {cy : Nat → ClassId} {A : Nat → Prop} {sh : gSh} {cnt : Nat → Nat} {ad : Nat → Nat → Nat} {st : gS} {cc : ByteArray} {pc : Nat} {ls : Array Slot} {rest : List Value}
theorem gs_get (hx : p.tables.exec = Jvm.exec) (hb : c.code = cc) {own ref C : String} {T : u_T} {N ci index : Nat} (hts : ∀ w ∈ gz_T, w.before args s = true) (hin : ∀ w ∈ u_ws C T N, w ∈ gz_T) (hown : s.vm.findClass own = some m.cls) (hK : va_K G vwCl (gzK cy) s) (hM : gM G sh cnt ad st H) (k i j : Nat) (hi : i < cnt k) {fs : List Value} (hs : sh k i (st k i) = .inr (ci, fs)) (hc : vwCl[ci]? = some (C, T, N)) (hj : j < N) (hlink : (Cond.fieldLink own index ref (T j).2.1 (T j).2.2.1).before args s = true) (hsame : ∀ x, s.fieldFound? (T j).1 (T j).2.1 (T j).2.2.1 = some x → s.fieldFound? ref (T j).2.1 (T j).2.2.1 = some x) {v : Value} (hv : fs[j]? = some v) (hdg : decode cc pc = .ok (.getfield index, 3))
    (kk : W p l e R s m args below meth c H locs cells slots Q (F0 m (pc + 3) ls (v :: rest))) : W p l e R s m args below meth c H locs cells slots Q (F0 m pc ls (.ref (ad k i) :: rest)) :=
  va_get hx hb hts hin hown hK (hM.one hi hs) 0 rfl hc j hj hlink hsame hv hdg kk
theorem gs_getN (hx : p.tables.exec = Jvm.exec) (hb : c.code = cc) {own ref C host : String} {T : u_T} {N ci index : Nat} (hts : ∀ w ∈ gz_T, w.before args s = true) (hin : ∀ w ∈ u_ws C T N, w ∈ gz_T) (hown : s.vm.findClass own = some m.cls) (hK : va_K G vwCl (gzK cy) s) (hM : gM G sh cnt ad st H) (k i j : Nat) (hi : i < cnt k) {fs : List Value} (hs : sh k i (st k i) = .inr (ci, fs)) (hc : vwCl[ci]? = some (C, T, N)) (hj : j < N) (hlink : (Cond.fieldLinkNest own index ref (T j).2.1 (T j).2.2.1 host).before args s = true) (hsame : ∀ x, s.fieldFound? (T j).1 (T j).2.1 (T j).2.2.1 = some x → s.fieldFound? ref (T j).2.1 (T j).2.2.1 = some x) {v : Value} (hv : fs[j]? = some v) (hdg : decode cc pc = .ok (.getfield index, 3))
    (kk : W p l e R s m args below meth c H locs cells slots Q (F0 m (pc + 3) ls (v :: rest))) : W p l e R s m args below meth c H locs cells slots Q (F0 m pc ls (.ref (ad k i) :: rest)) :=
  va_getN hx hb hts hin hown hK (hM.one hi hs) 0 rfl hc j hj hlink hsame hv hdg kk
theorem gs_iald (hx : p.tables.exec = Jvm.exec) (hb : c.code = cc) (hK : va_K G vwCl (gzK cy) s) (hM : gM G sh cnt ad st H) (k i : Nat) (hi : i < cnt k) {n : Nat} (hs : sh k i (st k i) = .inl (cy 0, n, .inl (st k i))) {x : Int32} (hin : vp_in x n) (hdg : decode cc pc = .ok (.iaload, 1))
    (kk : W p l e R s m args below meth c H locs cells slots Q (F0 m (pc + 1) ls (.int (st k i x.toNatClampNeg) :: rest))) : W p l e R s m args below meth c H locs cells slots Q (F0 m pc ls (.int x :: .ref (ad k i) :: rest)) := va_iald hx hb hK (hM.one hi hs) 0 0 rfl rfl hin hdg kk
theorem gs_bald (hx : p.tables.exec = Jvm.exec) (hb : c.code = cc) (hK : va_K G vwCl (gzK cy) s) (hM : gM G sh cnt ad st H) (k i : Nat) (hi : i < cnt k) {n : Nat} (hs : sh k i (st k i) = .inl (cy 1, n, .inl (st k i))) {x : Int32} (hin : vp_in x n) (hdg : decode cc pc = .ok (.baload, 1))
    (kk : W p l e R s m args below meth c H locs cells slots Q (F0 m (pc + 1) ls (.int (st k i x.toNatClampNeg) :: rest))) : W p l e R s m args below meth c H locs cells slots Q (F0 m pc ls (.int x :: .ref (ad k i) :: rest)) := va_bald hx hb hK (hM.one hi hs) 0 1 rfl rfl hin hdg kk
theorem gs_zald (hx : p.tables.exec = Jvm.exec) (hb : c.code = cc) (hK : va_K G vwCl (gzK cy) s) (hM : gM G sh cnt ad st H) (k i : Nat) (hi : i < cnt k) {n : Nat} (hs : sh k i (st k i) = .inl (cy 2, n, .inl (st k i))) {x : Int32} (hin : vp_in x n) (hdg : decode cc pc = .ok (.baload, 1))
    (kk : W p l e R s m args below meth c H locs cells slots Q (F0 m (pc + 1) ls (.int (st k i x.toNatClampNeg) :: rest))) : W p l e R s m args below meth c H locs cells slots Q (F0 m pc ls (.int x :: .ref (ad k i) :: rest)) := va_zald hx hb hK (hM.one hi hs) 0 2 rfl rfl hin hdg kk
/-- a row out of an array of int arrays: the family kr, from o on -/
theorem gs_alda (hx : p.tables.exec = Jvm.exec) (hb : c.code = cc) (hK : va_K G vwCl (gzK cy) s) (hM : gM G sh cnt ad st H) (k i : Nat) (hi : i < cnt k) {n : Nat} {f : Nat → Option Nat} (hs : sh k i (st k i) = .inl (cy 3, n, .inr (.inr (.inr (.inr f))))) {x : Int32} (hin : vp_in x n) {a : Nat} (hf : f x.toNatClampNeg = some a) (hdg : decode cc pc = .ok (.aaload, 1))
    (kk : W p l e R s m args below meth c H locs cells slots Q (F0 m (pc + 1) ls (.ref a :: rest))) : W p l e R s m args below meth c H locs cells slots Q (F0 m pc ls (.int x :: .ref (ad k i) :: rest)) :=
  gz_alda hx hb hK (hM.one hi hs) 0 rfl hin hdg (v := .ref a) (by rw [hf]; rfl) kk
theorem gs_aldd (hx : p.tables.exec = Jvm.exec) (hb : c.code = cc) (hK : va_K G vwCl (gzK cy) s) (hM : gM G sh cnt ad st H) (k i : Nat) (hi : i < cnt k) {n : Nat} {f : Nat → Option Nat} (hs : sh k i (st k i) = .inl (cy 4, n, .inr (.inr (.inr (.inr f))))) {x : Int32} (hin : vp_in x n) {a : Nat} (hf : f x.toNatClampNeg = some a) (hdg : decode cc pc = .ok (.aaload, 1))
    (kk : W p l e R s m args below meth c H locs cells slots Q (F0 m (pc + 1) ls (.ref a :: rest))) : W p l e R s m args below meth c H locs cells slots Q (F0 m pc ls (.int x :: .ref (ad k i) :: rest)) :=
  va_aldq (C := "WellCourt$Day") hx hb hK (hM.one hi hs) 0 4 rfl rfl hin hdg (by rw [hf]; exact kk)
/-- a store: the array (k, i) at place x -/
theorem gs_iast (hx : p.tables.exec = Jvm.exec) (hb : c.code = cc) (hK : va_K G vwCl (gzK cy) s) (hI : gI cnt ad) (hm : ∀ k i, i < cnt k → A (ad k i)) (hM : gM G sh cnt ad st H) (hS : va_S A H0 H locs) (k i : Nat) (hi : i < cnt k) {n : Nat} (hs : ∀ r : Nat → Int32, sh k i r = .inl (cy 0, n, .inl r)) {x v : Int32} (hin : vp_in x n) (hdg : decode cc pc = .ok (.iastore, 1))
    (kk : ∀ (st1 : gS) (H1 : Heap) (locs1 : List Loc), st1 = gU st k i x.toNatClampNeg v → gM G sh cnt ad st1 H1 → va_S A H0 H1 locs1 → W p l e R s m args below meth c H1 locs1 cells slots Q (F0 m (pc + 1) ls rest)) : W p l e R s m args below meth c H locs cells slots Q (F0 m pc ls (.int v :: .int x :: .ref (ad k i) :: rest)) := by
  have h0 : H[ad k i]? = some (arrV (cy 0) n (fun j => .int (st k i j))) := by
    have := hM k i hi
    rw [hs] at this
    exact this
  refine W.iast hx hb h0 ((hK.2 0 (cy 0, .int) rfl).1 n (fun j => .int (st k i j))) (fun q => by cases q) (by show ¬ (x < 0 ∨ (arrV _ _ _).slots.size ≤ _); rw [arrV_size]; exact hin) rfl rfl hdg fun H1 e9 z oq => ?_
  refine kk _ H1 _ rfl (hM.put hI hi ?_ oq) (hS.put z oq (hm k i hi))
  rw [hs]
  show H1[ad k i]? = some (vp_cell _ _)
  rw [e9, vp_cell_i, arrV_store]
  congr 2
  funext q
  by_cases hq : q = x.toNatClampNeg
  · subst hq
    simp [updV, upd]
  · simp [updV, upd, hq]
theorem gs_bast (hx : p.tables.exec = Jvm.exec) (hb : c.code = cc) (hK : va_K G vwCl (gzK cy) s) (hI : gI cnt ad) (hm : ∀ k i, i < cnt k → A (ad k i)) (hM : gM G sh cnt ad st H) (hS : va_S A H0 H locs) (k i : Nat) (hi : i < cnt k) {n : Nat} (hs : ∀ r : Nat → Int32, sh k i r = .inl (cy 1, n, .inl r)) {x v : Int32} (hin : vp_in x n) (hdg : decode cc pc = .ok (.bastore, 1))
    (kk : ∀ (st1 : gS) (H1 : Heap) (locs1 : List Loc), st1 = gU st k i x.toNatClampNeg (vp_nar .byte v) → gM G sh cnt ad st1 H1 → va_S A H0 H1 locs1 → W p l e R s m args below meth c H1 locs1 cells slots Q (F0 m (pc + 1) ls rest)) : W p l e R s m args below meth c H locs cells slots Q (F0 m pc ls (.int v :: .int x :: .ref (ad k i) :: rest)) := by
  have h0 : H[ad k i]? = some (arrV (cy 1) n (fun j => .int (st k i j))) := by
    have := hM k i hi
    rw [hs] at this
    exact this
  refine W.bast hx hb h0 ((hK.2 1 (cy 1, .byte) rfl).1 n (fun j => .int (st k i j))) (fun q => by cases q) (by show ¬ (x < 0 ∨ (arrV _ _ _).slots.size ≤ _); rw [arrV_size]; exact hin) rfl rfl hdg fun H1 e9 z oq => ?_
  refine kk _ H1 _ rfl (hM.put hI hi ?_ oq) (hS.put z oq (hm k i hi))
  rw [hs]
  show H1[ad k i]? = some (vp_cell _ _)
  rw [e9, vp_cell_i, arrV_store]
  congr 2
  funext q
  by_cases hq : q = x.toNatClampNeg
  · subst hq
    simp [updV, upd, vp_nar]
    try rfl
  · simp [updV, upd, hq]
theorem gs_zast (hx : p.tables.exec = Jvm.exec) (hb : c.code = cc) (hK : va_K G vwCl (gzK cy) s) (hI : gI cnt ad) (hm : ∀ k i, i < cnt k → A (ad k i)) (hM : gM G sh cnt ad st H) (hS : va_S A H0 H locs) (k i : Nat) (hi : i < cnt k) {n : Nat} (hs : ∀ r : Nat → Int32, sh k i r = .inl (cy 2, n, .inl r)) {x v : Int32} (hin : vp_in x n) (hdg : decode cc pc = .ok (.bastore, 1))
    (kk : ∀ (st1 : gS) (H1 : Heap) (locs1 : List Loc), st1 = gU st k i x.toNatClampNeg (vp_nar .boolean v) → gM G sh cnt ad st1 H1 → va_S A H0 H1 locs1 → W p l e R s m args below meth c H1 locs1 cells slots Q (F0 m (pc + 1) ls rest)) : W p l e R s m args below meth c H locs cells slots Q (F0 m pc ls (.int v :: .int x :: .ref (ad k i) :: rest)) := by
  have h0 : H[ad k i]? = some (arrV (cy 2) n (fun j => .int (st k i j))) := by
    have := hM k i hi
    rw [hs] at this
    exact this
  refine W.zast hx hb h0 ((hK.2 2 (cy 2, .boolean) rfl).1 n (fun j => .int (st k i j))) (fun q => by cases q) (by show ¬ (x < 0 ∨ (arrV _ _ _).slots.size ≤ _); rw [arrV_size]; exact hin) rfl rfl hdg fun H1 e9 z oq => ?_
  refine kk _ H1 _ rfl (hM.put hI hi ?_ oq) (hS.put z oq (hm k i hi))
  rw [hs]
  show H1[ad k i]? = some (vp_cell _ _)
  rw [e9, vp_cell_i, arrV_store]
  congr 2
  funext q
  by_cases hq : q = x.toNatClampNeg
  · subst hq
    simp [updV, upd, vp_nar]
    try rfl
  · simp [updV, upd, hq]
theorem gs_put (hx : p.tables.exec = Jvm.exec) (hb : c.code = cc) {own ref C : String} {T : u_T} {N ci index : Nat} (hts : ∀ w ∈ gz_T, w.before args s = true) (hin : ∀ w ∈ u_ws C T N, w ∈ gz_T) (ty0 : Nat → FieldType) (hty : ∀ k, k < N → parseFieldDescriptor (T k).2.2.1 = some (ty0 k)) (hnm : ∀ a, a < N → ∀ b, b < N → a ≠ b → (T a).2.1 ≠ (T b).2.1) (hown : s.vm.findClass own = some m.cls) (hK : va_K G vwCl (gzK cy) s) (hI : gI cnt ad) (hm : ∀ k i, i < cnt k → A (ad k i)) (hM : gM G sh cnt ad st H) (hS : va_S A H0 H locs) (k i j : Nat) (hi : i < cnt k) {fs : List Value} (hs : sh k i (st k i) = .inr (ci, fs)) (hc : vwCl[ci]? = some (C, T, N)) (hj : j < N) (hlink : (Cond.fieldLink own index ref (T j).2.1 (T j).2.2.1).before args s = true) (hsame : ∀ x, s.fieldFound? (T j).1 (T j).2.1 (T j).2.2.1 = some x → s.fieldFound? ref (T j).2.1 (T j).2.2.1 = some x) (hfin : (T j).2.2.2 = false) {ty : FieldType} {val : Value} (w : Int32) (hs2 : sh k i (upd (st k i) j w) = .inr (ci, fs.set j val)) (hd : parseFieldDescriptor (T j).2.2.1 = some ty) (hn : narrow ty val = val) (hfit : fits ty val = true) (hl : j < fs.length) (hdg : decode cc pc = .ok (.putfield index, 3))
    (kk : ∀ (st1 : gS) (H1 : Heap) (locs1 : List Loc), st1 = gU st k i j w → gM G sh cnt ad st1 H1 → va_S A H0 H1 locs1 → W p l e R s m args below meth c H1 locs1 cells slots Q (F0 m (pc + 3) ls rest)) : W p l e R s m args below meth c H locs cells slots Q (F0 m pc ls (val :: .ref (ad k i) :: rest)) := by
  have hap := va_apart (own := own) hts hin ty0 hty hnm hK hc
  have hat := hM k i hi
  rw [hs] at hat
  obtain ⟨r9, h1, cell, q1, q2, q3, q4⟩ := hat
  have hr9 : r9 = (C, T, N) := Option.some.inj (h1.symm.trans hc)
  subst hr9
  obtain ⟨hSl, hfc, kC, hkC, hkind⟩ := hK.1 ci _ hc
  obtain ⟨cf9, kf9, fi9, f9, hi9, hsl⟩ := hSl j hj
  have hlay := hts _ (hin _ (u_in_lay hj))
  unfold u_lay at hlay
  rw [if_neg (by rw [hfin]; decide)] at hlay
  have hst := (u_facts hfc hkC (u_lays hts hin hj) hi9).1
  have h6 := u_store hfc hkC hkind hlay hi9 hd hn hfit
  refine W.putK hx hb (f := f9) ⟨hown, hlink, ⟨_, _, _, hsame _ hi9⟩, hst⟩ (by rw [q2]; exact h6) q1 q3 (by rw [hsl]; exact k2_hasslot (q4 j hj)) rfl rfl hdg fun H1 e1 e2 e3 => ?_
  rw [hsl] at e1 ⊢
  refine kk _ H1 _ rfl (hM.put hI hi ?_ e3) (hS.put e2 e3 (hm k i hi))
  rw [hs2]
  exact ⟨_, hc, t_OB.to (V := updV (vp_V fs) j val) ⟨_, e1, q2, q3, t_set q4 hap hj val⟩ (fun q _ => vp_updV_set hl val q)⟩
theorem gs_putN (hx : p.tables.exec = Jvm.exec) (hb : c.code = cc) {own ref C host : String} {T : u_T} {N ci index : Nat} (hts : ∀ w ∈ gz_T, w.before args s = true) (hin : ∀ w ∈ u_ws C T N, w ∈ gz_T) (ty0 : Nat → FieldType) (hty : ∀ k, k < N → parseFieldDescriptor (T k).2.2.1 = some (ty0 k)) (hnm : ∀ a, a < N → ∀ b, b < N → a ≠ b → (T a).2.1 ≠ (T b).2.1) (hown : s.vm.findClass own = some m.cls) (hK : va_K G vwCl (gzK cy) s) (hI : gI cnt ad) (hm : ∀ k i, i < cnt k → A (ad k i)) (hM : gM G sh cnt ad st H) (hS : va_S A H0 H locs) (k i j : Nat) (hi : i < cnt k) {fs : List Value} (hs : sh k i (st k i) = .inr (ci, fs)) (hc : vwCl[ci]? = some (C, T, N)) (hj : j < N) (hlink : (Cond.fieldLinkNest own index ref (T j).2.1 (T j).2.2.1 host).before args s = true) (hsame : ∀ x, s.fieldFound? (T j).1 (T j).2.1 (T j).2.2.1 = some x → s.fieldFound? ref (T j).2.1 (T j).2.2.1 = some x) (hfin : (T j).2.2.2 = false) {ty : FieldType} {val : Value} (w : Int32) (hs2 : sh k i (upd (st k i) j w) = .inr (ci, fs.set j val)) (hd : parseFieldDescriptor (T j).2.2.1 = some ty) (hn : narrow ty val = val) (hfit : fits ty val = true) (hl : j < fs.length) (hdg : decode cc pc = .ok (.putfield index, 3))
    (kk : ∀ (st1 : gS) (H1 : Heap) (locs1 : List Loc), st1 = gU st k i j w → gM G sh cnt ad st1 H1 → va_S A H0 H1 locs1 → W p l e R s m args below meth c H1 locs1 cells slots Q (F0 m (pc + 3) ls rest)) : W p l e R s m args below meth c H locs cells slots Q (F0 m pc ls (val :: .ref (ad k i) :: rest)) := by
  have hap := va_apart (own := own) hts hin ty0 hty hnm hK hc
  have hat := hM k i hi
  rw [hs] at hat
  obtain ⟨r9, h1, cell, q1, q2, q3, q4⟩ := hat
  have hr9 : r9 = (C, T, N) := Option.some.inj (h1.symm.trans hc)
  subst hr9
  obtain ⟨hSl, hfc, kC, hkC, hkind⟩ := hK.1 ci _ hc
  obtain ⟨cf9, kf9, fi9, f9, hi9, hsl⟩ := hSl j hj
  have hlay := hts _ (hin _ (u_in_lay hj))
  unfold u_lay at hlay
  rw [if_neg (by rw [hfin]; decide)] at hlay
  have hst := (u_facts hfc hkC (u_lays hts hin hj) hi9).1
  have h6 := u_store hfc hkC hkind hlay hi9 hd hn hfit
  refine va_WputK hx hb hown hlink (hsame _ hi9) hst (by rw [q2]; exact h6) q1 q3 (by rw [hsl]; exact k2_hasslot (q4 j hj)) rfl rfl hdg fun H1 e1 e2 e3 => ?_
  rw [hsl] at e1 ⊢
  refine kk _ H1 _ rfl (hM.put hI hi ?_ e3) (hS.put e2 e3 (hm k i hi))
  rw [hs2]
  exact ⟨_, hc, t_OB.to (V := updV (vp_V fs) j val) ⟨_, e1, q2, q3, t_set q4 hap hj val⟩ (fun q _ => vp_updV_set hl val q)⟩
end GSR
/-! contracts over the whole system -/
abbrev gsP (G : va_G) (cy : Nat → ClassId) (sh : gSh) (cnt : Nat → Nat) (ad : Nat → Nat → Nat) (sz : Nat) (st : gS) : State → Prop := fun U => U.heap.size = sz ∧ gM G sh cnt ad st U.heap ∧ (va_K G vwCl (gzK cy) U ∧ gOv U) ∧ gI cnt ad
abbrev gsB (G : va_G) (sh : gSh) (cnt : Nat → Nat) (ad : Nat → Nat → Nat) : gS → State → Prop := fun u t => gM G sh cnt ad u t.heap
abbrev gsQi (G : va_G) (sh : gSh) (cnt : Nat → Nat) (ad : Nat → Nat → Nat) (post : Int32 → gS → Prop) (A : Nat → Prop) := va_Qi post (gsB G sh cnt ad) A
abbrev gsQv (G : va_G) (sh : gSh) (cnt : Nat → Nat) (ad : Nat → Nat → Nat) (post : gS → Prop) (A : Nat → Prop) := va_Qv post (gsB G sh cnt ad) A
abbrev gsMi (l : Launch) (y : MethodName) (bytes : ByteArray) (maxL : Nat) (ret : Option FieldType) (rm : Room) (G : va_G) (cy : Nat → ClassId) (sh : gSh) (cnt : Nat → Nat) (ad : Nat → Nat → Nat) (sz : Nat) (av : List Value) (st : gS) (post : Int32 → gS → Prop) : Prop :=
  Met l y (Cond.code y bytes maxL ret :: gz_T) rm (va_Pc av (gsP G cy sh cnt ad sz st)) (gsQi G sh cnt ad post (gA cnt ad sz)) rm.cells rm.slots (gA cnt ad sz)
abbrev gsMv (l : Launch) (y : MethodName) (bytes : ByteArray) (maxL : Nat) (rm : Room) (G : va_G) (cy : Nat → ClassId) (sh : gSh) (cnt : Nat → Nat) (ad : Nat → Nat → Nat) (sz : Nat) (av : List Value) (st : gS) (post : gS → Prop) : Prop :=
  Met l y (Cond.code y bytes maxL none :: gz_T) rm (va_Pc av (gsP G cy sh cnt ad sz st)) (gsQv G sh cnt ad post (gA cnt ad sz)) rm.cells rm.slots (gA cnt ad sz)
theorem gs_blind {G : va_G} {cy : Nat → ClassId} {sh : gSh} {cnt : Nat → Nat} {ad : Nat → Nat → Nat} {sz : Nat} {av : List Value} {st : gS} : FrameBlind (va_Pc av (gsP G cy sh cnt ad sz st)) := fun a U g mk q => by
  obtain ⟨q0, q1, qP, qK, qI⟩ := q
  exact ⟨q0, q1, qP, ⟨va_K.moved (u := U) (U := U.calling g mk a) (Vm.Alike.refl U.vm) qK.1, gOv.same (u := U) (U := U.calling g mk a) rfl qK.2⟩, qI⟩
theorem gs_start {l : Launch} {y : MethodName} {cc : ByteArray} {maxL : Nat} {ret : Option FieldType} {rm : Room} {G : va_G} {cy : Nat → ClassId} {sh : gSh} {cnt : Nat → Nat} {ad : Nat → Nat → Nat} {sz : Nat} {av : List Value} {st : gS} (Qf : (Nat → Prop) → Array Value → State → Outcome → State → Prop)
    (hy : plainName y.cls = true) (hn : (lg_sl av).length ≤ maxL)
    (body : ∀ (p : Program) (e : Env) (s : State) (m : MethodId) (below : List Frame) (meth : Method) (c : Code) (A : Nat → Prop) (ls : Array Slot) (H : Heap), p.tables.exec = Jvm.exec → c.code = cc → meth.sig.returnType = ret → c.maxLocals = maxL → meth.locks = false → s.vm.findClass y.cls = some m.cls → (∀ w ∈ gz_T, w.before av.toArray s = true) →
      va_K G vwCl (gzK cy) s → gOv s → gI cnt ad → gM G sh cnt ad st H → (∀ k i, i < cnt k → A (ad k i)) → va_S A s.heap H [] → (∀ q, s.heap.size ≤ q → A q) → lv_has ls maxL (lv_args 0 av) →
      W p l e rm s m av.toArray below meth c H [] 0 0 (MQ below (Qf A) av.toArray s rm.cells rm.slots A) (F0 m 0 ls [])) :
    Met l y (Cond.code y cc maxL ret :: gz_T) rm (va_Pc av (gsP G cy sh cnt ad sz st)) (Qf (gA cnt ad sz)) rm.cells rm.slots (gA cnt ad sz) := by
  refine Met.ofW (cc := cc) (maxL := maxL) (ret := ret) hy rfl ?_
  intro p e s m args below meth c s₁ B hml hv
  obtain ⟨rfl, hsz, hM, ⟨hK, hov⟩, hI⟩ := hv
  subst hsz
  have hl := lv_entry av (n := maxL) hn
  rw [lg_entry_eq]
  exact body p e s m below meth c _ _ s.heap B.exec B.bytes B.returns hml B.notSynchronized (findClass_of_methodNamed B.named) (fun w h => atoms_spec (ws := Cond.code y cc maxL ret :: gz_T) B.pre w (List.mem_cons_of_mem _ h)) hK hov hI hM (fun k i hi => Or.inl ⟨k, i, hi, rfl⟩) va_S.rf (fun q h => Or.inr h) hl
section GSC
variable {p : Program} {l : Launch} {e : Env} {R : Room} {s : State} {m : MethodId} {args : Array Value} {below : List Frame} {meth : Method} {c : Code} {H H0 : Heap} {locs : List Loc} {cells slots : Nat} {Q : State → Prop}
variable {G : va_G} {cy : Nat → ClassId} {A : Nat → Prop} {sh : gSh} {cnt : Nat → Nat} {ad : Nat → Nat → Nat} {st : gS} {cc : ByteArray} {pc : Nat} {ls : Array Slot} {rest st0 : List Value} {mc ms : Nat} {C : String}
theorem gs_iret {post : Int32 → gS → Prop} {ty : FieldType} (hx : p.tables.exec = Jvm.exec) (hb : c.code = cc) (hr : meth.sig.returnType = some ty) (hlocks : meth.locks = false) (hM : gM G sh cnt ad st H) (hS : va_S A s.heap H locs) {r : Int32} (hn : narrow ty (.int r) = .int r) (hpost : post r st) (hc : cells ≤ mc) (hs : slots ≤ ms) (hdg : decode cc pc = .ok (.ireturn, 1)) :
    W p l e R s m args below meth c H locs cells slots (MQ below (gsQi G sh cnt ad post A) args s mc ms A) (F0 m pc ls [.int r]) := by
  refine W.widen (k := mc) (n := ms) hc hs ?_
  exact W.zret hx hb hr hn (fun t ht hW => ⟨⟨r, st, rfl, hpost, by show gM G sh cnt ad st t.heap; rw [ht]; exact hM⟩, hS.F ht⟩) hS.2.2 hdg hlocks
theorem gs_vret {post : gS → Prop} (hx : p.tables.exec = Jvm.exec) (hb : c.code = cc) (hr : meth.sig.returnType = none) (hlocks : meth.locks = false) (hM : gM G sh cnt ad st H) (hS : va_S A s.heap H locs) (hpost : post st) (hc : cells ≤ mc) (hs : slots ≤ ms) (hdg : decode cc pc = .ok (.return_, 1)) :
    W p l e R s m args below meth c H locs cells slots (MQ below (gsQv G sh cnt ad post A) args s mc ms A) (F0 m pc ls []) := by
  refine W.widen (k := mc) (n := ms) hc hs ?_
  exact W.vret hx hb hr (fun t ht hW => ⟨⟨st, rfl, hpost, by show gM G sh cnt ad st t.heap; rw [ht]; exact hM⟩, hS.F ht⟩) hS.2.2 hdg hlocks
theorem gs_preS (hK : va_K G vwCl (gzK cy) s) (hov : gOv s) (hI : gI cnt ad) (hM : gM G sh cnt ad st H) {As : List Value} : PreS s H (va_Pc As (gsP G cy sh cnt ad H.size st)) As :=
  ⟨gs_blind, fun U hU hW => ⟨rfl, by rw [hU], by rw [hU]; exact hM, ⟨va_K.moved hW.alike hK, hov.warm hW⟩, hI⟩⟩
theorem gs_preV {T : u_T} {N ci : Nat} {fs As : List Value} (hK : va_K G vwCl (gzK cy) s) (hov : gOv s) (hI : gI cnt ad) (hM : gM G sh cnt ad st H) (k i : Nat) (hi : i < cnt k) (hs : sh k i (st k i) = .inr (ci, fs)) (hc : vwCl[ci]? = some (C, T, N)) : PreV s H C (ad k i) (va_Pc (.ref (ad k i) :: As) (gsP G cy sh cnt ad H.size st)) As :=
  ⟨gs_blind, va_recv hK (hM.one hi hs) hc (q0 := 0) rfl, (gs_preS hK hov hI hM).2⟩
theorem gs_sub (hm : ∀ k i, i < cnt k → A (ad k i)) (hS : va_S A H0 H locs) (hA : ∀ q, H0.size ≤ q → A q) : ∀ q, gA cnt ad H.size q → A q := fun q h => h.elim (fun ⟨k, i, hi, e9⟩ => e9 ▸ hm k i hi) (fun h => hA q (Nat.le_trans hS.1 h))
theorem gs_calli {post : Int32 → gS → Prop} {a : Array Value} (hr : va_Run p l e R s m args below meth c H locs cells slots mc ms (F0 m pc ls st0) rest (gsQi G sh cnt ad post (gA cnt ad H.size) a) (gA cnt ad H.size)) (hm : ∀ k i, i < cnt k → A (ad k i)) (hS : va_S A H0 H locs) (hA : ∀ q, H0.size ≤ q → A q)
    (kk : ∀ (r : Int32) (st1 : gS) (H1 : Heap) (locs1 : List Loc), post r st1 → gM G sh cnt ad st1 H1 → va_S A H0 H1 locs1 → W p l e R s m args below meth c H1 locs1 (cells + mc) (slots + ms) Q (F0 m (pc + 3) ls (.int r :: rest))) : W p l e R s m args below meth c H locs cells slots Q (F0 m pc ls st0) := by
  have hF := gs_sub hm hS hA
  refine va_calli hr hS (fun q _ h => hF q h) hF (fun r u t H1 locs1 ht hvm hw hB hz1 hk1 hS1 => ?_)
  exact kk r u H1 locs1 hw (by rw [← ht]; exact hB) hS1
theorem gs_callv {post : gS → Prop} {a : Array Value} (hr : va_Run p l e R s m args below meth c H locs cells slots mc ms (F0 m pc ls st0) rest (gsQv G sh cnt ad post (gA cnt ad H.size) a) (gA cnt ad H.size)) (hm : ∀ k i, i < cnt k → A (ad k i)) (hS : va_S A H0 H locs) (hA : ∀ q, H0.size ≤ q → A q)
    (kk : ∀ (st1 : gS) (H1 : Heap) (locs1 : List Loc), post st1 → gM G sh cnt ad st1 H1 → va_S A H0 H1 locs1 → W p l e R s m args below meth c H1 locs1 (cells + mc) (slots + ms) Q (F0 m (pc + 3) ls rest)) : W p l e R s m args below meth c H locs cells slots Q (F0 m pc ls st0) := by
  have hF := gs_sub hm hS hA
  refine va_callv hr hS (fun q _ h => hF q h) hF (fun u t H1 locs1 ht hvm hw hB hz1 hk1 hS1 => ?_)
  exact kk u H1 locs1 hw (by rw [← ht]; exact hB) hS1
end GSC
