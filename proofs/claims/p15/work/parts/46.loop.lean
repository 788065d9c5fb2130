theorem dL_law_23 : decode cL_law 23 = .ok (.iload 4, 2) := by decide +kernel
theorem dL_law_25 : decode cL_law 25 = .ok (.aload_n 0, 1) := by decide +kernel
theorem dL_law_26 : decode cL_law 26 = .ok (.arraylength, 1) := by decide +kernel
theorem dL_law_27 : decode cL_law 27 = .ok (.bipush 6, 2) := by decide +kernel
theorem dL_law_29 : decode cL_law 29 = .ok (.isub, 1) := by decide +kernel
theorem dL_law_30 : decode cL_law 30 = .ok (.if_icmp .gt 1004, 3) := by decide +kernel
theorem dL_law_33 : decode cL_law 33 = .ok (.aload_n 0, 1) := by decide +kernel
theorem dL_law_34 : decode cL_law 34 = .ok (.iload 4, 2) := by decide +kernel
theorem dL_law_36 : decode cL_law 36 = .ok (.iaload, 1) := by decide +kernel
theorem dL_law_37 : decode cL_law 37 = .ok (.bipush 31, 2) := by decide +kernel
theorem dL_law_39 : decode cL_law 39 = .ok (.iand, 1) := by decide +kernel
theorem dL_law_40 : decode cL_law 40 = .ok (.tableswitch 988 0 21 #[104, 177, 202, 263, 276, 289, 302, 339, 376, 413, 462, 511, 560, 585, 653, 726, 799, 824, 873, 913, 950, 963], 104) := by decide +kernel
theorem dL_law_1028 : decode cL_law 1028 = .ok (.iinc 4 6, 3) := by decide +kernel
theorem dL_law_1031 : decode cL_law 1031 = .ok (.goto (-1008), 3) := by decide +kernel
theorem dL_law_1034 : decode cL_law 1034 = .ok (.iconst 1, 1) := by decide +kernel
theorem dL_law_1035 : decode cL_law 1035 = .ok (.ireturn, 1) := by decide +kernel
theorem gs_ofNat {n : Nat} (h : n < 2147483648) : (Int32.ofNat n).toInt = (n : Int) := nI_toInt (by omega)
set_option maxHeartbeats 4000000 in
set_option maxRecDepth 100000 in
theorem law_loop {p : Program} {e : Env} {s : State} {m : MethodId} {below : List Frame} {meth : Method} {c : Code} (l : Launch) (hlt : l.stackTraces = false) {b L : Nat} {xs : Nat → Int32} (C0 : lw_At p s m meth c b L xs) (G : va_G) (cy : Nat → ClassId) (sK sV : Nat → Nat) (hK : va_K G vwCl (gzK cy) s) (hov : gOv s) (A : Nat → Prop) (hA : ∀ q, s.heap.size ≤ q → A q) (hAn : ∀ q, A q → s.heap.size ≤ q) (hE : gE sK sV A s s.heap) (aX aM : Nat → Nat → Nat) (o : Nat) (hAp : gAp aX aM o) (hmX : ∀ k i, i < cnX k → A (aX k i)) (hmM : ∀ k i, i < cnM k → A (aM k i)) (hAo : A o) (hLb : L ≤ 3072) : ∀ (n : Nat) (sx sm : gS) (f : Nat → Int64) (iv : Int32) (cells slots : Nat) (H : Heap) (locs : List Loc) (ls : Array Slot), (L : Int) - iv.toInt ≤ 6 * (n : Int) → 0 ≤ iv.toInt → iv.toInt ≤ (L : Int) → gBd bX sx → mInv sm → lRel sx sm → cells + n ≤ 601024 → slots + 6 * n ≤ 7293034 → gWd G cy aX aM o sx sm f H → va_S A s.heap H locs → lv_has ls 7 [(4, .int iv), (3, .ref o), (2, .ref (aM 0 0)), (1, .ref (aX 0 0)), (0, .ref b)] → W p l e room_1 s m #[Value.ref b] below meth c H locs cells slots (lw_Z below #[Value.ref b] s) (F0 m 23 ls []) := by
  obtain ⟨hx, hb, hr, hml, hown, hts0, hX, hbl, hlocks, hgv⟩ := id C0
  have hts : ∀ w ∈ gz_T, w.before #[Value.ref b] s = true := fun w h => hts0 w (List.mem_filter.mp h).1
  have hown : s.vm.findClass RL = some m.cls := hown
  have hbA : ¬ A b := fun q => Nat.not_le.mpr hbl (hAn b q)
  intro n
  induction n with
  | zero =>
    intro sx sm f iv cells slots H locs ls hn hi0 hiL hBX hIM hRel hcl hsl hW hS hl
    refine lv_iload hx hb dL_law_23 (lv_at hl 0 rfl) ?_
    refine lv_aload_n hx hb dL_law_25 rfl (lv_at hl 4 rfl) ?_
    refine va_slen hx hb hX hbl hbA hS dL_law_26 ?_
    refine lv_topi (fun x9 ex9 => ?_)
    have tx : x9.toInt = (L : Int) := by rw [ex9]; exact gs_ofNat (by omega)
    refine lv_bipush (v := 6) hx hb dL_law_27 (by decide) ?_
    refine lv_isub hx hb dL_law_29 ?_
    refine lv_topi (fun y9 ey9 => ?_)
    have ty : y9.toInt = (L : Int) - 6 := by rw [ey9]; exact gz_subP tx (by decide) (by omega) (by omega)
    refine lv_icmp_gt (tgt := 1034) hx hb dL_law_30 (by decide) (fun h9 => ?_) (fun h9 => ?_)
    · refine lv_iconst (v := 1) hx hb dL_law_1034 (by decide) ?_
      refine va_forget (fun q hq => hAn _ (hS.2.2 q hq)) ?_
      refine W.widen (k := 601024) (n := 7293034) (by omega) (by omega) ?_
      exact lw_ret hx hb hr hlocks dL_law_1035
    · exact absurd (gz_nlt ty (rfl : iv.toInt = iv.toInt) h9) (by omega)
  | succ n ih =>
    intro sx sm f iv cells slots H locs ls hn hi0 hiL hBX hIM hRel hcl hsl hW hS hl
    have hnext : iv.toInt + 6 ≤ (L : Int) → (∀ (sx sm : gS) (f : Nat → Int64) (H : Heap) (locs : List Loc) (ls : Array Slot) (cells1 slots1 : Nat), gBd bX sx → mInv sm → lRel sx sm → cells1 ≤ cells + 1 → slots1 ≤ slots + 6 → gWd G cy aX aM o sx sm f H → va_S A s.heap H locs → lv_has ls 7 [(4, .int iv), (3, .ref o), (2, .ref (aM 0 0)), (1, .ref (aX 0 0)), (0, .ref b)] → W p l e room_1 s m #[Value.ref b] below meth c H locs cells1 slots1 (lw_Z below #[Value.ref b] s) (F0 m 1028 ls [])) := by
      intro h6 sx sm f H locs ls cells1 slots1 hBX hIM hRel hc1 hs1 hW hS hl
      have t6 : (iv + 6).toInt = iv.toInt + 6 := gz_addP rfl (by decide) (by omega) (by omega)
      refine lv_iinc (v := iv + 6) (lv' := [(4, .int (iv + 6)), (3, .ref o), (2, .ref (aM 0 0)), (1, .ref (aX 0 0)), (0, .ref b)]) hx hb dL_law_1028 hl (k := 0) rfl rfl (by decide) rfl (fun ls hl => ?_)
      refine lv_goto (tgt := 23) hx hb dL_law_1031 (by decide) ?_
      exact ih sx sm f (iv + 6) cells1 slots1 H _ ls (by omega) (by omega) (by omega) hBX hIM hRel (by omega) (by omega) hW hS hl
    refine lv_iload hx hb dL_law_23 (lv_at hl 0 rfl) ?_
    refine lv_aload_n hx hb dL_law_25 rfl (lv_at hl 4 rfl) ?_
    refine va_slen hx hb hX hbl hbA hS dL_law_26 ?_
    refine lv_topi (fun x9 ex9 => ?_)
    have tx : x9.toInt = (L : Int) := by rw [ex9]; exact gs_ofNat (by omega)
    refine lv_bipush (v := 6) hx hb dL_law_27 (by decide) ?_
    refine lv_isub hx hb dL_law_29 ?_
    refine lv_topi (fun y9 ey9 => ?_)
    have ty : y9.toInt = (L : Int) - 6 := by rw [ey9]; exact gz_subP tx (by decide) (by omega) (by omega)
    refine lv_icmp_gt (tgt := 1034) hx hb dL_law_30 (by decide) (fun h9 => ?_) (fun h9 => ?_)
    · refine lv_iconst (v := 1) hx hb dL_law_1034 (by decide) ?_
      refine va_forget (fun q hq => hAn _ (hS.2.2 q hq)) ?_
      refine W.widen (k := 601024) (n := 7293034) (by omega) (by omega) ?_
      exact lw_ret hx hb hr hlocks dL_law_1035
    · have hle := gz_nlt ty (rfl : iv.toInt = iv.toInt) h9
      have hnext := hnext (by omega)
      refine lv_aload_n hx hb dL_law_33 rfl (lv_at hl 4 rfl) ?_
      refine lv_iload hx hb dL_law_34 (lv_at hl 0 rfl) ?_
      refine va_sld hx hb hX hbl hbA hS (vp_in_iff.mpr ⟨by omega, by omega⟩) dL_law_36 ?_
      refine lv_topi (fun z9 ez9 => ?_)
      refine lv_bipush (v := 31) hx hb dL_law_37 (by decide) ?_
      refine lv_iand hx hb dL_law_39 ?_
      refine lv_topi (fun w9 ew9 => ?_)
      rcases (show w9.toInt < 0 ∨ 21 < w9.toInt ∨ w9.toInt = 0 ∨ w9.toInt = 1 ∨ w9.toInt = 2 ∨ w9.toInt = 3 ∨ w9.toInt = 4 ∨ w9.toInt = 5 ∨ w9.toInt = 6 ∨ w9.toInt = 7 ∨ w9.toInt = 8 ∨ w9.toInt = 9 ∨ w9.toInt = 10 ∨ w9.toInt = 11 ∨ w9.toInt = 12 ∨ w9.toInt = 13 ∨ w9.toInt = 14 ∨ w9.toInt = 15 ∨ w9.toInt = 16 ∨ w9.toInt = 17 ∨ w9.toInt = 18 ∨ w9.toInt = 19 ∨ w9.toInt = 20 ∨ w9.toInt = 21 by omega) with h8 | h8 | h8 | h8 | h8 | h8 | h8 | h8 | h8 | h8 | h8 | h8 | h8 | h8 | h8 | h8 | h8 | h8 | h8 | h8 | h8 | h8 | h8 | h8
      · refine lv_tableOut (tgt := 1028) hx hb dL_law_40 (Or.inl h8) (by decide) ?_
        exact hnext sx sm f H _ ls cells slots hBX hIM hRel (by omega) (by omega) hW hS hl
      · refine lv_tableOut (tgt := 1028) hx hb dL_law_40 (Or.inr h8) (by decide) ?_
        exact hnext sx sm f H _ ls cells slots hBX hIM hRel (by omega) (by omega) hW hS hl
      · refine lv_tableIn (tgt := 144) hx hb dL_law_40 (by omega) (by omega) (by rw [h8]; rfl) (by decide) ?_
        exact law_c0 l hlt C0 G cy sK sV hK hov A hA hAn hE aX aM o hAp hmX hmM hAo sx sm f hBX hIM hRel iv hi0 (by omega) hLb cells slots (by omega) (by omega) H _ ls hW hS hl hnext
      · refine lv_tableIn (tgt := 217) hx hb dL_law_40 (by omega) (by omega) (by rw [h8]; rfl) (by decide) ?_
        exact law_c1 l hlt C0 G cy sK sV hK hov A hA hAn hE aX aM o hAp hmX hmM hAo sx sm f hBX hIM hRel iv hi0 (by omega) hLb cells slots (by omega) (by omega) H _ ls hW hS hl hnext
      · refine lv_tableIn (tgt := 242) hx hb dL_law_40 (by omega) (by omega) (by rw [h8]; rfl) (by decide) ?_
        exact law_c2 l hlt C0 G cy sK sV hK hov A hA hAn hE aX aM o hAp hmX hmM hAo sx sm f hBX hIM hRel iv hi0 (by omega) hLb cells slots (by omega) (by omega) H _ ls hW hS hl hnext
      · refine lv_tableIn (tgt := 303) hx hb dL_law_40 (by omega) (by omega) (by rw [h8]; rfl) (by decide) ?_
        exact law_c3 l hlt C0 G cy sK sV hK hov A hA hAn hE aX aM o hAp hmX hmM hAo sx sm f hBX hIM hRel iv hi0 (by omega) hLb cells slots (by omega) (by omega) H _ ls hW hS hl hnext
      · refine lv_tableIn (tgt := 316) hx hb dL_law_40 (by omega) (by omega) (by rw [h8]; rfl) (by decide) ?_
        exact law_c4 l hlt C0 G cy sK sV hK hov A hA hAn hE aX aM o hAp hmX hmM hAo sx sm f hBX hIM hRel iv hi0 (by omega) hLb cells slots (by omega) (by omega) H _ ls hW hS hl hnext
      · refine lv_tableIn (tgt := 329) hx hb dL_law_40 (by omega) (by omega) (by rw [h8]; rfl) (by decide) ?_
        exact law_c5 l hlt C0 G cy sK sV hK hov A hA hAn hE aX aM o hAp hmX hmM hAo sx sm f hBX hIM hRel iv hi0 (by omega) hLb cells slots (by omega) (by omega) H _ ls hW hS hl hnext
      · refine lv_tableIn (tgt := 342) hx hb dL_law_40 (by omega) (by omega) (by rw [h8]; rfl) (by decide) ?_
        exact law_c6 l hlt C0 G cy sK sV hK hov A hA hAn hE aX aM o hAp hmX hmM hAo sx sm f hBX hIM hRel iv hi0 (by omega) hLb cells slots (by omega) (by omega) H _ ls hW hS hl hnext
      · refine lv_tableIn (tgt := 379) hx hb dL_law_40 (by omega) (by omega) (by rw [h8]; rfl) (by decide) ?_
        exact law_c7 l hlt C0 G cy sK sV hK hov A hA hAn hE aX aM o hAp hmX hmM hAo sx sm f hBX hIM hRel iv hi0 (by omega) hLb cells slots (by omega) (by omega) H _ ls hW hS hl hnext
      · refine lv_tableIn (tgt := 416) hx hb dL_law_40 (by omega) (by omega) (by rw [h8]; rfl) (by decide) ?_
        exact law_c8 l hlt C0 G cy sK sV hK hov A hA hAn hE aX aM o hAp hmX hmM hAo sx sm f hBX hIM hRel iv hi0 (by omega) hLb cells slots (by omega) (by omega) H _ ls hW hS hl hnext
      · refine lv_tableIn (tgt := 453) hx hb dL_law_40 (by omega) (by omega) (by rw [h8]; rfl) (by decide) ?_
        exact law_c9 l hlt C0 G cy sK sV hK hov A hA hAn hE aX aM o hAp hmX hmM hAo sx sm f hBX hIM hRel iv hi0 (by omega) hLb cells slots (by omega) (by omega) H _ ls hW hS hl hnext
      · refine lv_tableIn (tgt := 502) hx hb dL_law_40 (by omega) (by omega) (by rw [h8]; rfl) (by decide) ?_
        exact law_c10 l hlt C0 G cy sK sV hK hov A hA hAn hE aX aM o hAp hmX hmM hAo sx sm f hBX hIM hRel iv hi0 (by omega) hLb cells slots (by omega) (by omega) H _ ls hW hS hl hnext
      · refine lv_tableIn (tgt := 551) hx hb dL_law_40 (by omega) (by omega) (by rw [h8]; rfl) (by decide) ?_
        exact law_c11 l hlt C0 G cy sK sV hK hov A hA hAn hE aX aM o hAp hmX hmM hAo sx sm f hBX hIM hRel iv hi0 (by omega) hLb cells slots (by omega) (by omega) H _ ls hW hS hl hnext
      · refine lv_tableIn (tgt := 600) hx hb dL_law_40 (by omega) (by omega) (by rw [h8]; rfl) (by decide) ?_
        exact law_c12 l hlt C0 G cy sK sV hK hov A hA hAn hE aX aM o hAp hmX hmM hAo sx sm f hBX hIM hRel iv hi0 (by omega) hLb cells slots (by omega) (by omega) H _ ls hW hS hl hnext
      · refine lv_tableIn (tgt := 625) hx hb dL_law_40 (by omega) (by omega) (by rw [h8]; rfl) (by decide) ?_
        exact law_c13 l hlt C0 G cy sK sV hK hov A hA hAn hE aX aM o hAp hmX hmM hAo sx sm f hBX hIM hRel iv hi0 (by omega) hLb cells slots (by omega) (by omega) H _ ls hW hS hl hnext
      · refine lv_tableIn (tgt := 693) hx hb dL_law_40 (by omega) (by omega) (by rw [h8]; rfl) (by decide) ?_
        exact law_c14 l hlt C0 G cy sK sV hK hov A hA hAn hE aX aM o hAp hmX hmM hAo sx sm f hBX hIM hRel iv hi0 (by omega) hLb cells slots (by omega) (by omega) H _ ls hW hS hl hnext
      · refine lv_tableIn (tgt := 766) hx hb dL_law_40 (by omega) (by omega) (by rw [h8]; rfl) (by decide) ?_
        exact law_c15 l hlt C0 G cy sK sV hK hov A hA hAn hE aX aM o hAp hmX hmM hAo sx sm f hBX hIM hRel iv hi0 (by omega) hLb cells slots (by omega) (by omega) H _ ls hW hS hl hnext
      · refine lv_tableIn (tgt := 839) hx hb dL_law_40 (by omega) (by omega) (by rw [h8]; rfl) (by decide) ?_
        exact law_c16 l hlt C0 G cy sK sV hK hov A hA hAn hE aX aM o hAp hmX hmM hAo sx sm f hBX hIM hRel iv hi0 (by omega) hLb cells slots (by omega) (by omega) H _ ls hW hS hl hnext
      · refine lv_tableIn (tgt := 864) hx hb dL_law_40 (by omega) (by omega) (by rw [h8]; rfl) (by decide) ?_
        exact law_c17 l hlt C0 G cy sK sV hK hov A hA hAn hE aX aM o hAp hmX hmM hAo sx sm f hBX hIM hRel iv hi0 (by omega) hLb cells slots (by omega) (by omega) H _ ls hW hS hl hnext
      · refine lv_tableIn (tgt := 913) hx hb dL_law_40 (by omega) (by omega) (by rw [h8]; rfl) (by decide) ?_
        exact law_c18 l hlt C0 G cy sK sV hK hov A hA hAn hE aX aM o hAp hmX hmM hAo sx sm f hBX hIM hRel iv hi0 (by omega) hLb cells slots (by omega) (by omega) H _ ls hW hS hl hnext
      · refine lv_tableIn (tgt := 953) hx hb dL_law_40 (by omega) (by omega) (by rw [h8]; rfl) (by decide) ?_
        exact law_c19 l hlt C0 G cy sK sV hK hov A hA hAn hE aX aM o hAp hmX hmM hAo sx sm f hBX hIM hRel iv hi0 (by omega) hLb cells slots (by omega) (by omega) H _ ls hW hS hl hnext
      · refine lv_tableIn (tgt := 990) hx hb dL_law_40 (by omega) (by omega) (by rw [h8]; rfl) (by decide) ?_
        exact law_c20 l hlt C0 G cy sK sV hK hov A hA hAn hE aX aM o hAp hmX hmM hAo sx sm f hBX hIM hRel iv hi0 (by omega) hLb cells slots (by omega) (by omega) H _ ls hW hS hl hnext
      · refine lv_tableIn (tgt := 1003) hx hb dL_law_40 (by omega) (by omega) (by rw [h8]; rfl) (by decide) ?_
        exact law_c21 l hlt C0 G cy sK sV hK hov A hA hAn hE aX aM o hAp hmX hmM hAo sx sm f hBX hIM hRel iv hi0 (by omega) hLb cells slots (by omega) (by omega) H _ ls hW hS hl hnext
