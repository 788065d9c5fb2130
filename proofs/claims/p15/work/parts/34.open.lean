
/-! constructors: worlds with an open rest -/
theorem gzo_mem {G : va_G} {ws : va_W} {H : Heap} : va_P G vwCl ws H ↔ ∀ q ∈ ws, va_at G vwCl q H := by
  constructor
  · intro h q hq
    obtain ⟨i, hi⟩ := List.getElem?_of_mem hq
    exact h i q hi
  · intro h k q hq
    exact h q (List.mem_of_getElem? hq)
theorem gzo_nd {A : Nat → Prop} {ws : va_W} : va_D A ws ↔ (ws.map Prod.fst).Nodup ∧ ∀ q ∈ ws, A q.1 := by
  constructor
  · intro h
    refine ⟨?_, fun q hq => ?_⟩
    · show List.Pairwise (· ≠ ·) (ws.map Prod.fst)
      rw [List.pairwise_iff_getElem]
      intro i j hi hj hij he
      have h1 : j < ws.length := by simpa using hj
      have h2 : i < ws.length := by simpa using hi
      rw [List.getElem_map, List.getElem_map] at he
      have h3 := h.1 i j _ _ (List.getElem?_eq_getElem h2) (List.getElem?_eq_getElem h1) he
      omega
    · obtain ⟨i, hi⟩ := List.getElem?_of_mem hq
      exact h.2 i q hi
  · intro h
    refine ⟨fun i j p q h1 h2 h3 => ?_, fun k q hq => h.2 q (List.mem_of_getElem? hq)⟩
    have hn : ∀ (i j : Nat) (hi : i < (ws.map Prod.fst).length) (hj : j < (ws.map Prod.fst).length), i < j → (ws.map Prod.fst)[i] ≠ (ws.map Prod.fst)[j] := List.pairwise_iff_getElem.mp h.1
    obtain ⟨l1, e1⟩ := List.getElem?_eq_some_iff.mp h1
    obtain ⟨l2, e2⟩ := List.getElem?_eq_some_iff.mp h2
    rcases Nat.lt_trichotomy i j with h4 | h4 | h4
    · exact absurd (by rw [List.getElem_map, List.getElem_map, e1, e2, h3]) (hn i j (by simpa using l1) (by simpa using l2) h4)
    · exact h4
    · exact absurd (by rw [List.getElem_map, List.getElem_map, e1, e2, h3]) (hn j i (by simpa using l2) (by simpa using l1) h4)
theorem gzo_P {G : va_G} {ws vs : va_W} {H : Heap} (h : va_P G vwCl ws H) (hp : ws.Perm vs) : va_P G vwCl vs H := gzo_mem.mpr (fun q hq => gzo_mem.mp h q (hp.mem_iff.mpr hq))
theorem gzo_D {A : Nat → Prop} {ws vs : va_W} (h : va_D A ws) (hp : ws.Perm vs) : va_D A vs := gzo_nd.mpr ⟨(hp.map Prod.fst).nodup_iff.mp (gzo_nd.mp h).1, fun q hq => (gzo_nd.mp h).2 q (hp.mem_iff.mpr hq)⟩
theorem gzo_rot (ws : va_W) (x : Nat × va_E) : (ws ++ [x]).Perm (x :: ws) := List.perm_append_comm
theorem gzo_in (fr tl zs : va_W) : ((fr ++ tl) ++ zs).Perm (fr ++ (zs ++ tl)) := by
  rw [List.append_assoc]
  exact List.Perm.append_left fr List.perm_append_comm
theorem gzo_st (cs fr tl : va_W) : (cs ++ (fr ++ tl)).Perm (fr ++ (cs ++ tl)) := by
  rw [← List.append_assoc, ← List.append_assoc]
  exact List.Perm.append_right tl List.perm_append_comm
section GZO
variable {p : Program} {l : Launch} {e : Env} {R : Room} {s : State} {m : MethodId} {args : Array Value} {below : List Frame} {meth : Method} {c : Code} {H H0 : Heap} {locs : List Loc} {cells slots : Nat} {Q : State → Prop}
variable {G : va_G} {cy : Nat → ClassId} {A : Nat → Prop} {x : Nat × va_E} {fr tl : va_W} {cc : ByteArray} {pc : Nat} {ls : Array Slot} {S : Type} {st0 rest : List Value} {mc ms : Nat}
/-- behind a constructor's call: its object x stood first -/
theorem gzo_aftv {post : S → Prop} {cf : S → va_W} {a : Array Value}
    (hr : va_Run p l e R s m args below meth c H locs cells slots mc ms (F0 m pc ls st0) rest (gQv G cy post cf (va_A [x] H.size) a) (va_A [x] H.size))
    (hP : va_P G vwCl (x :: tl) H) (hD : va_D A (x :: tl)) (hS : va_S A H0 H locs) (hA : ∀ q, H0.size ≤ q → A q)
    (kk : ∀ (u : S) (H1 : Heap) (locs1 : List Loc), post u → va_P G vwCl (cf u ++ tl) H1 → va_D A (cf u ++ tl) → va_S A H0 H1 locs1 → W p l e R s m args below meth c H1 locs1 (cells + mc) (slots + ms) Q (F0 m (pc + 3) ls rest)) :
    W p l e R s m args below meth c H locs cells slots Q (F0 m pc ls st0) := by
  have hFc := va_free (wc := [x]) hD hS hA [0] rfl
  refine va_callv hr hS (fun q _ h => hFc q h) hFc (fun u t H1 locs1 ht hvm hw hB hz1 hk1 hS1 => ?_)
  obtain ⟨hP1, hK1, hD1⟩ := hB
  rw [ht] at hP1
  obtain ⟨hP2, hD2⟩ := va_joinQ (X := [x]) (cx := [x]) (wr := []) (pl := tl) (w1 := cf u) hP hD [0] [] rfl rfl rfl (fun i hi => by cases hi) hk1 hFc hP1 hD1
  exact kk u H1 locs1 hw hP2 hD2 hS1
theorem gzo_vret {post : S → Prop} {cf : S → va_W} {ws : va_W} (hx : p.tables.exec = Jvm.exec) (hb : c.code = cc) (hr : meth.sig.returnType = none) (hlocks : meth.locks = false) (hK : va_K G vwCl (gzK cy) s) (hP : va_P G vwCl ws H) (hD : va_D A ws) (hS : va_S A s.heap H locs) (u : S) (hpost : post u) (h3 : cf u = ws) (hc : cells ≤ mc) (hs : slots ≤ ms) (hdg : decode cc pc = .ok (.return_, 1)) :
    W p l e R s m args below meth c H locs cells slots (MQ below (gQv G cy post cf A) args s mc ms A) (F0 m pc ls []) := by
  refine W.widen (k := mc) (n := ms) hc hs ?_
  exact W.vret hx hb hr (fun t ht hW => ⟨⟨u, rfl, hpost, by rw [ht, h3]; exact hP, va_K.moved hW.alike hK, by rw [h3]; exact hD⟩, hS.F ht⟩) hS.2.2 hdg hlocks
end GZO