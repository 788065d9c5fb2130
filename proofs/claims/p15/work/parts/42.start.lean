theorem gm_25 : (Jvm.Cond.instantiable "WellCourt" (12 : Nat)) ∈ gz_T := gz_at 25 (by decide +kernel) rfl
theorem gm_896 : (Jvm.Cond.instantiable "WellCourtModel" (59 : Nat)) ∈ gz_T := gz_at 896 (by decide +kernel) rfl
set_option maxHeartbeats 4000000 in
set_option maxRecDepth 100000 in
/-- what the tables and the Statement's words give of the start -/
theorem law_world {s : State} {b : Nat} (hts0 : ∀ w ∈ lw_tbl, w.before #[Value.ref b] s = true) : ∃ (G : va_G) (cy : Nat → ClassId), va_K G vwCl (gzK cy) s ∧ gOv s := by
  have hts : ∀ w ∈ gz_T, w.before #[Value.ref b] s = true := fun w h => hts0 w (List.mem_filter.mp h).1
  obtain ⟨c0, iS0, hKn0⟩ := u_known (C := RX0) (T := TX0) (N := 1) (n := 1) hts inX0 (hts _ gm_100)
  obtain ⟨c1, iS1, hKn1⟩ := u_known (C := RX1) (T := TX1) (N := 3) (n := 3) hts inX1 (hts _ gm_114)
  obtain ⟨c2, iS2, hKn2⟩ := u_known (C := RX2) (T := TX2) (N := 5) (n := 5) hts inX2 (hts _ gm_151)
  obtain ⟨c3, iS3, hKn3⟩ := u_known (C := RX3) (T := TX3) (N := 3) (n := 3) hts inX3 (hts _ gm_75)
  obtain ⟨c4, iS4, hKn4⟩ := u_known (C := RX4) (T := TX4) (N := 14) (n := 14) hts inX4 (hts _ gm_182)
  obtain ⟨c5, iS5, hKn5⟩ := u_known (C := RX5) (T := TX5) (N := 2) (n := 2) hts inX5 (hts _ gm_135)
  obtain ⟨c6, iS6, hKn6⟩ := u_known (C := RX6) (T := TX6) (N := 15) (n := 15) hts inX6 (hts _ gm_234)
  obtain ⟨c7, iS7, hKn7⟩ := u_known (C := RX7) (T := TX7) (N := 6) (n := 6) hts inX7 (hts _ gm_48)
  obtain ⟨c8, iS8, hKn8⟩ := u_known (C := RX8) (T := TX8) (N := 2) (n := 2) hts inX8 (hts _ gm_33)
  obtain ⟨c9, iS9, hKn9⟩ := u_known (C := RX9) (T := TX9) (N := 12) (n := 12) hts inX9 (hts _ gm_25)
  obtain ⟨c10, iS10, hKn10⟩ := u_known (C := RX10) (T := TX10) (N := 59) (n := 59) hts inX10 (hts _ gm_896)
  obtain ⟨a0, ka0, cp0, fa0, ga0, ha0⟩ := Cond.arrayClass_spec (hts0 (.arrayClass .int) (List.mem_append_right _ (List.mem_of_getElem? (i := 98) (by decide +kernel))))
  obtain ⟨a1, ka1, cp1, fa1, ga1, ha1⟩ := Cond.arrayClass_spec (hts0 (.arrayClass .byte) (List.mem_append_right _ (List.mem_of_getElem? (i := 46) (by decide +kernel))))
  obtain ⟨a2, ka2, cp2, fa2, ga2, ha2⟩ := Cond.arrayClass_spec (hts0 (.arrayClass .boolean) (List.mem_append_right _ (List.mem_of_getElem? (i := 1079) (by decide +kernel))))
  obtain ⟨a5, ka5, cp5, fa5, ga5, ha5⟩ := Cond.arrayClass_spec (hts0 (.arrayClass .long) (List.mem_append_right _ (List.mem_of_getElem? (i := 1305) (by decide +kernel))))
  obtain ⟨cp3, a3, ka3, -, -, ga3, ha3, fa3⟩ := arrayOverA_spec (hts0 (.arrayOver (.array .int)) (List.mem_append_right _ (List.mem_of_getElem? (i := 81) (by decide +kernel))))
  obtain ⟨cp4, a4, ka4, fc4, -, ga4, ha4, fa4⟩ := Cond.arrayOver_spec (hts0 (.arrayOver (.object "WellCourt$Day")) (List.mem_append_right _ (List.mem_of_getElem? (i := 240) (by decide +kernel))))
  refine ⟨(fun k => match k with | 0 => c0 | 1 => c1 | 2 => c2 | 3 => c3 | 4 => c4 | 5 => c5 | 6 => c6 | 7 => c7 | 8 => c8 | 9 => c9 | _ => c10, fun k => match k with | 0 => iS0 | 1 => iS1 | 2 => iS2 | 3 => iS3 | 4 => iS4 | 5 => iS5 | 6 => iS6 | 7 => iS7 | 8 => iS8 | 9 => iS9 | _ => iS10), (fun k => match k with | 0 => a0 | 1 => a1 | 2 => a2 | 3 => a3 | 4 => a4 | _ => a5), ⟨fun k q hq => ?_, fun k q hq => ?_⟩, va_AOA.of (hts0 (.arrayOver (.array .int)) (List.mem_append_right _ (List.mem_of_getElem? (i := 81) (by decide +kernel)))), va_AO.of (hts0 (.arrayOver (.object "WellCourt$Day")) (List.mem_append_right _ (List.mem_of_getElem? (i := 240) (by decide +kernel)))), fun w hw => ?_⟩
  · match k, hq with
    | 0, hq => cases hq; exact hKn0
    | 1, hq => cases hq; exact hKn1
    | 2, hq => cases hq; exact hKn2
    | 3, hq => cases hq; exact hKn3
    | 4, hq => cases hq; exact hKn4
    | 5, hq => cases hq; exact hKn5
    | 6, hq => cases hq; exact hKn6
    | 7, hq => cases hq; exact hKn7
    | 8, hq => cases hq; exact hKn8
    | 9, hq => cases hq; exact hKn9
    | 10, hq => cases hq; exact hKn10
    | k + 11, hq => simp [vwCl] at hq
  · match k, hq with
    | 0, hq => cases hq; exact ⟨fun n z => ⟨fun _ h => (by cases h), ka0, ga0, cp0, ha0⟩, fa0⟩
    | 1, hq => cases hq; exact ⟨fun n z => ⟨fun _ h => (by cases h), ka1, ga1, cp1, ha1⟩, fa1⟩
    | 2, hq => cases hq; exact ⟨fun n z => ⟨fun _ h => (by cases h), ka2, ga2, cp2, ha2⟩, fa2⟩
    | 3, hq => cases hq; exact ⟨fun n z => ⟨fun _ h => (by cases h), ka3, ga3, cp3, ha3⟩, fa3⟩
    | 4, hq => cases hq; exact ⟨fun n z => ⟨fun _ h => (by cases h), ka4, ga4, cp4, ha4⟩, ka4, cp4, ga4, ha4, fc4, fa4⟩
    | 5, hq => cases hq; exact ⟨fun n z => ⟨fun _ h => (by cases h), ka5, ga5, cp5, ha5⟩, fa5⟩
    | k + 6, hq => simp [gzK] at hq
  · have hg : gNest w = true := (List.mem_filter.mp hw).2
    have h0 := hts0 w (List.mem_append_right _ (List.mem_filter.mp hw).1)
    refine va_Nw.of ?_ h0
    cases w <;> first | rfl | (simp [gNest] at hg; done)

set_option maxHeartbeats 4000000 in
set_option maxRecDepth 100000 in
theorem law_throw {s : State} {b : Nat} {A : Nat → Prop} (hts0 : ∀ w ∈ lw_tbl, w.before #[Value.ref b] s = true) (hgv : (Jvm.Cond.and given_1 narrow_1).before #[Value.ref b] s = true) (hAn : ∀ q, A q → s.heap.size ≤ q) : gTh A s s.heap := by
  have hs := flat_of_before _ hgv
  have hno : ∀ a : Nat, a < s.heap.size → ¬ A a := fun a h q => Nat.not_le.mpr h (hAn a q)
  have e1 : (Cond.exactly (Term.string "WellCourt" 184) "java/lang/String").before #[Value.ref b] s = true := hs _ (by decide +kernel)
  have e2 : (Cond.exactly (Term.string "WellCourt" 226) "java/lang/String").before #[Value.ref b] s = true := hs _ (by decide +kernel)
  have e3 : (Cond.exactly (Term.string "WellCourt" 189) "java/lang/String").before #[Value.ref b] s = true := hs _ (by decide +kernel)
  have r1 : (Cond.isRef (.static "java/lang/Throwable" "UNASSIGNED_STACK" "[Ljava/lang/StackTraceElement;")).before #[Value.ref b] s = true := hs _ (by decide +kernel)
  have r2 : (Cond.isRef (.static "java/lang/Throwable" "SUPPRESSED_SENTINEL" "Ljava/util/List;")).before #[Value.ref b] s = true := hs _ (by decide +kernel)
  obtain ⟨a1, _, _, _, q1, -⟩ := Cond.exactly_spec (args := #[Value.ref b]) (first := s) (o := none) (s := s) (idx := []) (t := Term.string "WellCourt" 184) (cls := "java/lang/String") e1
  obtain ⟨a2, _, _, _, q2, -⟩ := Cond.exactly_spec (args := #[Value.ref b]) (first := s) (o := none) (s := s) (idx := []) (t := Term.string "WellCourt" 226) (cls := "java/lang/String") e2
  obtain ⟨a3, _, _, _, q3, -⟩ := Cond.exactly_spec (args := #[Value.ref b]) (first := s) (o := none) (s := s) (idx := []) (t := Term.string "WellCourt" 189) (cls := "java/lang/String") e3
  refine ⟨vx_Zqof (hts0 _ (List.mem_append_right _ (List.mem_of_getElem? (i := 774) (by decide +kernel)))) (hts0 _ (List.mem_append_right _ (List.mem_of_getElem? (i := 18) (by decide +kernel)))) r1 hno, vx_Zqof (hts0 _ (List.mem_append_right _ (List.mem_of_getElem? (i := 776) (by decide +kernel)))) (hts0 _ (List.mem_append_right _ (List.mem_of_getElem? (i := 18) (by decide +kernel)))) r2 hno, ⟨a1, vk_R.of (hts0 (.stringRef "WellCourt" 184 "there is no such draw") (List.mem_append_right _ (List.mem_of_getElem? (i := 787) (by decide +kernel)))) q1⟩, ⟨a2, vk_R.of (hts0 (.stringRef "WellCourt" 226 "looks are 1 to 50000") (List.mem_append_right _ (List.mem_of_getElem? (i := 832) (by decide +kernel)))) q2⟩, ⟨a3, vk_R.of (hts0 (.stringRef "WellCourt" 189 "a draw has no such fact") (List.mem_append_right _ (List.mem_of_getElem? (i := 813) (by decide +kernel)))) q3⟩, fun w hw => ?_⟩
  have hg : gBadK w = true := (List.mem_filter.mp hw).2
  have h0 := hts0 w (List.mem_append_right _ (List.mem_filter.mp hw).1)
  refine va_Nw.of ?_ h0
  cases w <;> first | rfl | (simp [gBadK] at hg; done)

set_option maxHeartbeats 8000000 in
set_option maxRecDepth 100000 in
theorem law_str {s : State} {b : Nat} {A : Nat → Prop} (hts0 : ∀ w ∈ lw_tbl, w.before #[Value.ref b] s = true) (hgv : (Jvm.Cond.and given_1 narrow_1).before #[Value.ref b] s = true) (hAn : ∀ q, A q → s.heap.size ≤ q) : ∃ sK sV : Nat → Nat, gStr sK sV A s s.heap := by
  have hs := flat_of_before _ hgv
  have hno : ∀ a : Nat, a < s.heap.size → ¬ A a := fun a h q => Nat.not_le.mpr h (hAn a q)
  have m1 : ∀ i, i < 9 → Cond.exactly (Term.string "WellCourt$Reader" (sxI.getD i 0)) "java/lang/String" ∈ flatC (Jvm.Cond.and given_1 narrow_1) := by decide +kernel
  have m2 : ∀ i, i < 9 → Cond.eq (.field (Term.string "WellCourt$Reader" (sxI.getD i 0)) "java/lang/String" "coder" "B") (.int 0) ∈ flatC (Jvm.Cond.and given_1 narrow_1) := by decide +kernel
  have m3 : ∀ i, i < 9 → Cond.arrayOf (.field (Term.string "WellCourt$Reader" (sxI.getD i 0)) "java/lang/String" "value" "[B") .byte ∈ flatC (Jvm.Cond.and given_1 narrow_1) := by decide +kernel
  have m4 : ∀ i, i < 9 → Cond.eq (.length (.field (Term.string "WellCourt$Reader" (sxI.getD i 0)) "java/lang/String" "value" "[B")) (.int (Int32.ofNat (sxL.getD i 0))) ∈ flatC (Jvm.Cond.and given_1 narrow_1) := by decide +kernel
  have m5 : ∀ i, i < 9 → ∀ j, j < sxL.getD i 0 → Cond.eq (.elem (.field (Term.string "WellCourt$Reader" (sxI.getD i 0)) "java/lang/String" "value" "[B") (.int (Int32.ofNat j))) (.int ((sxB.getD i []).getD j 0)) ∈ flatC (Jvm.Cond.and given_1 narrow_1) := by decide +kernel
  have m6 : ∀ i, i < 9 → ∀ j, j < 9 → i ≠ j → Cond.not (Cond.eq (Term.string "WellCourt$Reader" (sxI.getD i 0)) (Term.string "WellCourt$Reader" (sxI.getD j 0))) ∈ flatC (Jvm.Cond.and given_1 narrow_1) ∨ Cond.not (Cond.eq (Term.string "WellCourt$Reader" (sxI.getD j 0)) (Term.string "WellCourt$Reader" (sxI.getD i 0))) ∈ flatC (Jvm.Cond.and given_1 narrow_1) := by decide +kernel
  obtain ⟨sK, sV, h1, h2⟩ := vk_Sof (args := #[Value.ref b]) (s := s) (N := 9) (tm := fun i => Term.string "WellCourt$Reader" (sxI.getD i 0)) (len := sxL) (byt := sxB) (A := A) (by decide +kernel) (fun i hi => hs _ (m1 i hi)) (fun i hi => hs _ (m2 i hi)) (fun i hi => hs _ (m3 i hi)) (fun i hi => hs _ (m4 i hi)) (fun i hi j hj => hs _ (m5 i hi j hj)) (fun i j hi hj hij => (m6 i hi j hj hij).elim (fun h => Or.inl (hs _ h)) (fun h => Or.inr (hs _ h))) hno
  refine ⟨sK, sV, h1, fun i hi => ?_, va_Zof (hts0 _ (List.mem_append_right _ (List.mem_of_getElem? (i := 409) (by decide +kernel)))) (hts0 _ (List.mem_append_right _ (List.mem_of_getElem? (i := 13) (by decide +kernel)))) (va_eqt (hs _ (by decide +kernel))) hno, va_Zqof (hts0 _ (List.mem_append_right _ (List.mem_of_getElem? (i := 425) (by decide +kernel)))) (hts0 _ (List.mem_append_right _ (List.mem_of_getElem? (i := 15) (by decide +kernel)))) (hs _ (by decide +kernel)) hno⟩
  · match i, hi with
    | 0, _ => exact vk_R.of (hts0 (.stringRef "WellCourt$Reader" 50 "turns") (List.mem_append_right _ (List.mem_of_getElem? (i := 395) (by decide +kernel)))) (h2 0 (by decide))
    | 1, _ => exact vk_R.of (hts0 (.stringRef "WellCourt$Reader" 60 "guest") (List.mem_append_right _ (List.mem_of_getElem? (i := 448) (by decide +kernel)))) (h2 1 (by decide))
    | 2, _ => exact vk_R.of (hts0 (.stringRef "WellCourt$Reader" 65 "wed") (List.mem_append_right _ (List.mem_of_getElem? (i := 449) (by decide +kernel)))) (h2 2 (by decide))
    | 3, _ => exact vk_R.of (hts0 (.stringRef "WellCourt$Reader" 70 "drought") (List.mem_append_right _ (List.mem_of_getElem? (i := 450) (by decide +kernel)))) (h2 3 (by decide))
    | 4, _ => exact vk_R.of (hts0 (.stringRef "WellCourt$Reader" 78 "dry") (List.mem_append_right _ (List.mem_of_getElem? (i := 451) (by decide +kernel)))) (h2 4 (by decide))
    | 5, _ => exact vk_R.of (hts0 (.stringRef "WellCourt$Reader" 102 "at") (List.mem_append_right _ (List.mem_of_getElem? (i := 496) (by decide +kernel)))) (h2 5 (by decide))
    | 6, _ => exact vk_R.of (hts0 (.stringRef "WellCourt$Reader" 107 "of") (List.mem_append_right _ (List.mem_of_getElem? (i := 501) (by decide +kernel)))) (h2 6 (by decide))
    | 7, _ => exact vk_R.of (hts0 (.stringRef "WellCourt$Reader" 117 "below") (List.mem_append_right _ (List.mem_of_getElem? (i := 518) (by decide +kernel)))) (h2 7 (by decide))
    | 8, _ => exact vk_R.of (hts0 (.stringRef "WellCourt$Reader" 122 "to") (List.mem_append_right _ (List.mem_of_getElem? (i := 527) (by decide +kernel)))) (h2 8 (by decide))
    | k + 9, hi => exact absurd hi (by omega)
