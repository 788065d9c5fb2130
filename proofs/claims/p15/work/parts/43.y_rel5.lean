
set_option maxHeartbeats 1000000 in
theorem rel_next {sx sm ux um : gS} {rs : List Rl} {rX rM : Int32} (hR : rAll sx sm) (hBX : gBd bX sx) (hBM : gBd bM sm) (nX : gBN bX kX [10, 1100, 1300, 1400, 1500] sx ux) (nM : gBN bM kM [0, 7, 400, 500, 600] sm um) (hwf : ∀ r ∈ rs, wfR r) (hX : PX_next rs sx ux   rX) (hM : PM_next rs sm um   rM) : rAll ux um := by
  have ed := congrArg Int32.toInt hR.date
  have b10 : (0 : Int) ≤ (sx 0 0 10).toInt ∧ (sx 0 0 10).toInt ≤ (199 : Int) := hBX 0 0 10
  rcases hX with ⟨_, a0, a1, g13, g14, hs⟩ | ⟨_, a, e⟩ <;> rcases hM with ⟨_, c0, c1, g4, g5, hd⟩ | ⟨_, c, f⟩
  · have e5 : ux 5 0 = sx 5 0 := (funext fun j9 => nX.2 5 0 j9 (show (500 : Nat) ∉ _ from by decide))
    have e6 : ux 6 0 = sx 6 0 := (funext fun j9 => nX.2 6 0 j9 (show (600 : Nat) ∉ _ from by decide))
    have f1 : um 1 0 = sm 1 0 := (funext fun j9 => nM.2 1 0 j9 (show (100 : Nat) ∉ _ from by decide))
    have eD : ux 0 0 10 = um 0 0 7 := eqI (by omega)
    have wl := hR.well
    have h13 : ux 13 15 = um 4 0 := by
      have g := g13
      rw [hR.lev, hR.rate, hR.cap] at g
      exact gwI.same g g4 (fun w => by have := wl w; rw [hR.cap] at this; exact this)
    have h14 : ∀ w : Nat, w < 6 → (0 < (sx 5 0 w).toInt → ux 14 15 w = um 5 0 w ∧ ux 14 15 w = ux 13 15 w ∧ (0 ≤ (ux 13 15 w).toInt ∧ (ux 13 15 w).toInt ≤ 1000)) ∧ (¬ 0 < (sx 5 0 w).toInt → (ux 14 15 w).toInt = -1) := fun w hw => by
      refine ⟨fun q => ?_, fun q => ?_⟩
      · have k1 := (g14 w).1 (by omega) q
        have k2 := (g5 w).1 (by omega) ((wl w).mp q)
        have k3 := (g13 w).1 (by omega) q
        have k4 := hR.rng w hw q
        refine ⟨?_, k1.trans k3.symm, ?_⟩
        · rw [k1, k2, hR.lev, hR.rate, hR.cap]
        · rw [k3]; exact gwF_rng q k4.1 k4.2.1 k4.2.2.1
      · rw [(g14 w).2 (fun z => q z.2)]; exact (hR.mor w hw).2 q
    rw [← eD] at hd
    have hm : ∀ w : Nat, w < 6 → (¬ (sm 1 0 w).toInt = 0 → ux 14 15 w = um 5 0 w ∧ 0 ≤ (um 5 0 w).toInt) ∧ ((sm 1 0 w).toInt = 0 → (ux 14 15 w).toInt = -1) := fun w hw => by
      refine ⟨fun q => ?_, fun q => (h14 w hw).2 (fun z => (wl w).mp z q)⟩
      obtain ⟨q1, q2, q3⟩ := (h14 w hw).1 ((wl w).mpr q)
      exact ⟨q1, by rw [← q1, q2]; exact q3.1⟩
    exact ⟨eD, (hR.k_size (nX.2 1 0 1 (show (101 : Nat) ∉ _ from by decide)) (nM.2 0 0 9 (show (9 : Nat) ∉ _ from by decide))), (hR.k_tape (funext fun j9 => nX.2 2 0 j9 (show (200 : Nat) ∉ _ from by decide)) (funext fun j9 => nM.2 7 0 j9 (show (700 : Nat) ∉ _ from by decide))), (hR.k_cap (funext fun j9 => nX.2 5 0 j9 (show (500 : Nat) ∉ _ from by decide)) (funext fun j9 => nM.2 2 0 j9 (show (200 : Nat) ∉ _ from by decide))), (hR.k_rate (funext fun j9 => nX.2 6 0 j9 (show (600 : Nat) ∉ _ from by decide)) (funext fun j9 => nM.2 3 0 j9 (show (300 : Nat) ∉ _ from by decide))), h13, (hR.k_well (funext fun j9 => nX.2 5 0 j9 (show (500 : Nat) ∉ _ from by decide)) (funext fun j9 => nM.2 1 0 j9 (show (100 : Nat) ∉ _ from by decide))), (fun w9 h9 => by rw [e5]; exact ⟨fun q => ((h14 w9 h9).1 q).1, (h14 w9 h9).2⟩), (fun w9 h9 => by rw [e5, e6]; exact fun q => (by have k4 := hR.rng w9 h9 q; obtain ⟨q1, q2, q3⟩ := (h14 w9 h9).1 q; exact ⟨k4.1, k4.2.1, q3, by rw [q2]; exact q3.1⟩)), (own_dr hwf hs hd (by omega) (by omega) (fun w d h1 h2 => hR.own w d h1 h2) hm), (now_st hs (by omega) (by omega) rfl), (orn_st hwf hs (by omega) (by omega) (fun w d h1 h2 => hR.orn w d h1 h2)), (hR.k_lsz (nX.2 16 0 1 (show (1601 : Nat) ∉ _ from by decide)) (nM.2 0 0 37 (show (37 : Nat) ∉ _ from by decide))), (hR.k_led (funext fun i9 => funext fun j9 => nX.2 18 i9 j9 (show (1800 : Nat) ∉ _ from by decide)) (funext fun j9 => nM.2 16 0 j9 (show (1600 : Nat) ∉ _ from by decide)) (funext fun j9 => nM.2 17 0 j9 (show (1700 : Nat) ∉ _ from by decide)) (funext fun j9 => nM.2 18 0 j9 (show (1800 : Nat) ∉ _ from by decide)) (funext fun j9 => nM.2 19 0 j9 (show (1900 : Nat) ∉ _ from by decide)) (funext fun j9 => nM.2 20 0 j9 (show (2000 : Nat) ∉ _ from by decide)) (funext fun j9 => nM.2 21 0 j9 (show (2100 : Nat) ∉ _ from by decide))), (hR.k_lrg (nX.2 16 0 1 (show (1601 : Nat) ∉ _ from by decide)) (funext fun i9 => funext fun j9 => nX.2 18 i9 j9 (show (1800 : Nat) ∉ _ from by decide))), (hR.k_sel (nX.2 0 0 7 (show (7 : Nat) ∉ _ from by decide)) (nX.2 0 0 8 (show (8 : Nat) ∉ _ from by decide))), (hR.k_law (lA.frame nX.2 (by decide)) (nX.2 0 0 7 (show (7 : Nat) ∉ _ from by decide)) (mA.frame nM.2 (by decide)) (nM.2 0 0 28 (show (28 : Nat) ∉ _ from by decide)) (nM.2 0 0 29 (show (29 : Nat) ∉ _ from by decide)))⟩
  · exfalso; omega
  · exfalso; omega
  · exact hR.fr e f
set_option maxHeartbeats 1000000 in
theorem rel_rights {sx sm ux um : gS} {F : Nat → Int32} {N : Int} {ro : List Rl} {b0 : Nat} {rX rM : Int32} (hR : rAll sx sm) (hBX : gBd bX sx) (hBM : gBd bM sm) (nX : gBN bX kX [7, 8, 11, 101, 301, 302, 303, 304, 305, 1100, 1500, 2500, 2505, 2509, 2700, 2800, 2900, 3000, 3100, 3200, 3300, 3400, 3500, 3600, 3700] sx ux) (nM : gBN bM kM [0, 9, 10, 11, 12, 13, 14, 15, 16, 17, 18, 19, 28, 29, 30, 59, 600, 800, 900, 1000, 1100, 1200, 1300, 1400, 1500] sm um) (hN : N ≤ 800) (hb0 : (sm 0 0 28).toInt = (b0 : Int)) (hro : (sm 0 0 29).toInt = (ro.length : Int)) (hwo : ∀ r ∈ ro, wfR r) (huo : unT ro) (hX : PX_rights F N ro sx ux   rX) (hM : PM_rights F N ro b0 sm um   rM) : rAll ux um := by
  have ed := hR.date
  have b10 : (0 : Int) ≤ (sx 0 0 10).toInt ∧ (sx 0 0 10).toInt ≤ (199 : Int) := hBX 0 0 10
  have b28 : (0 : Int) ≤ (sm 0 0 28).toInt ∧ (sm 0 0 28).toInt ≤ (1 : Int) := hBM 0 0 28
  have wl := hR.well
  obtain ⟨hX, xz⟩ := hX
  obtain ⟨hM, mz⟩ := hM
  rw [pText_eq hN] at hX
  rcases hX with ⟨rs, t1, k1, k2, k3, k4, hs⟩ | ⟨t1, k1, k3, k4, e11, e15⟩ <;> rcases hM with ⟨rs2, t2, m1, m2, m3, m4, m5, mid, hw, hd⟩ | ⟨t2, m1, m2, m3, m4⟩
  · have er : rs = rs2 := Option.some.inj (t1.symm.trans t2)
    subst er
    rw [← ed] at hw hd
    have hm : ∀ w : Nat, w < 6 → (¬ (sm 1 0 w).toInt = 0 → sx 14 15 w = sm 5 0 w ∧ 0 ≤ (sm 5 0 w).toInt) ∧ ((sm 1 0 w).toInt = 0 → (sx 14 15 w).toInt = -1) := fun w hw6 => by
      refine ⟨fun q => ?_, fun q => (hR.mor w hw6).2 (fun z => (wl w).mp z q)⟩
      have q1 := (wl w).mpr q
      have q2 := (hR.mor w hw6).1 q1
      exact ⟨q2, by rw [← q2]; exact (hR.rng w hw6 q1).2.2.2⟩
    have ho : ∀ w d : Nat, w < 6 → d < 200 → (if (sx 0 0 10).toInt ≤ (d : Int) then ownT rs w d else (sx 11 w d).toInt) = (mid (200 * w + d)).toInt := fun w d h1 h2 => by
      rw [hw w d h1 h2]
      by_cases q : (sx 0 0 10).toInt ≤ (d : Int)
      · rw [if_pos q, if_pos ⟨by omega, q⟩]
      · rw [if_neg q, if_neg (fun z => q z.2)]; exact hR.own w d h1 h2
    have eD : ux 0 0 10 = sx 0 0 10 := (nX.2 0 0 10 (show (10 : Nat) ∉ _ from by decide))
    exact ⟨(hR.k_date (nX.2 0 0 10 (show (10 : Nat) ∉ _ from by decide)) (nM.2 0 0 7 (show (7 : Nat) ∉ _ from by decide))), (eqI (xz.trans mz.symm)), (hR.k_tape (funext fun j9 => nX.2 2 0 j9 (show (200 : Nat) ∉ _ from by decide)) (funext fun j9 => nM.2 7 0 j9 (show (700 : Nat) ∉ _ from by decide))), (hR.k_cap (funext fun j9 => nX.2 5 0 j9 (show (500 : Nat) ∉ _ from by decide)) (funext fun j9 => nM.2 2 0 j9 (show (200 : Nat) ∉ _ from by decide))), (hR.k_rate (funext fun j9 => nX.2 6 0 j9 (show (600 : Nat) ∉ _ from by decide)) (funext fun j9 => nM.2 3 0 j9 (show (300 : Nat) ∉ _ from by decide))), (hR.k_lev (funext fun j9 => nX.2 13 15 j9 (show (1300 : Nat) ∉ _ from by decide)) (funext fun j9 => nM.2 4 0 j9 (show (400 : Nat) ∉ _ from by decide))), (hR.k_well (funext fun j9 => nX.2 5 0 j9 (show (500 : Nat) ∉ _ from by decide)) (funext fun j9 => nM.2 1 0 j9 (show (100 : Nat) ∉ _ from by decide))), (hR.k_mor (funext fun j9 => nX.2 5 0 j9 (show (500 : Nat) ∉ _ from by decide)) (funext fun j9 => nX.2 14 15 j9 (show (1400 : Nat) ∉ _ from by decide)) (funext fun j9 => nM.2 5 0 j9 (show (500 : Nat) ∉ _ from by decide))), (hR.k_rng (funext fun j9 => nX.2 5 0 j9 (show (500 : Nat) ∉ _ from by decide)) (funext fun j9 => nX.2 6 0 j9 (show (600 : Nat) ∉ _ from by decide)) (funext fun j9 => nX.2 13 15 j9 (show (1300 : Nat) ∉ _ from by decide)) (funext fun j9 => nX.2 14 15 j9 (show (1400 : Nat) ∉ _ from by decide))), (own_dr k2 hs hd (by omega) (by omega) ho hm), (by rw [eD]; exact now_st hs (by omega) (by omega) rfl), (orn_st k2 hs (by omega) (by omega) (fun w d h1 h2 => by show -1 ≤ (if (sx 0 0 10).toInt ≤ (d : Int) then ownT rs w d else (sx 11 w d).toInt); split; exact ownT_ge k2; exact hR.orn w d h1 h2)), (hR.k_lsz (nX.2 16 0 1 (show (1601 : Nat) ∉ _ from by decide)) (nM.2 0 0 37 (show (37 : Nat) ∉ _ from by decide))), (hR.k_led (funext fun i9 => funext fun j9 => nX.2 18 i9 j9 (show (1800 : Nat) ∉ _ from by decide)) (funext fun j9 => nM.2 16 0 j9 (show (1600 : Nat) ∉ _ from by decide)) (funext fun j9 => nM.2 17 0 j9 (show (1700 : Nat) ∉ _ from by decide)) (funext fun j9 => nM.2 18 0 j9 (show (1800 : Nat) ∉ _ from by decide)) (funext fun j9 => nM.2 19 0 j9 (show (1900 : Nat) ∉ _ from by decide)) (funext fun j9 => nM.2 20 0 j9 (show (2000 : Nat) ∉ _ from by decide)) (funext fun j9 => nM.2 21 0 j9 (show (2100 : Nat) ∉ _ from by decide))), (hR.k_lrg (nX.2 16 0 1 (show (1601 : Nat) ∉ _ from by decide)) (funext fun i9 => funext fun j9 => nX.2 18 i9 j9 (show (1800 : Nat) ∉ _ from by decide))), (by have := hR.sel; omega), ⟨rs, k1, by rw [show (um 0 0 28).toNatClampNeg = 1 - b0 by (have c := gs_cl (x := um 0 0 28) (by omega); omega)]; exact m1, m5, k2, m3⟩⟩
  · exact absurd (t1.symm.trans t2) (fun h => by cases h)
  · exact absurd (t1.symm.trans t2) (fun h => by cases h)
  · exact ⟨(hR.k_date (nX.2 0 0 10 (show (10 : Nat) ∉ _ from by decide)) (nM.2 0 0 7 (show (7 : Nat) ∉ _ from by decide))), (eqI (xz.trans mz.symm)), (hR.k_tape (funext fun j9 => nX.2 2 0 j9 (show (200 : Nat) ∉ _ from by decide)) (funext fun j9 => nM.2 7 0 j9 (show (700 : Nat) ∉ _ from by decide))), (hR.k_cap (funext fun j9 => nX.2 5 0 j9 (show (500 : Nat) ∉ _ from by decide)) (funext fun j9 => nM.2 2 0 j9 (show (200 : Nat) ∉ _ from by decide))), (hR.k_rate (funext fun j9 => nX.2 6 0 j9 (show (600 : Nat) ∉ _ from by decide)) (funext fun j9 => nM.2 3 0 j9 (show (300 : Nat) ∉ _ from by decide))), (hR.k_lev (funext fun j9 => nX.2 13 15 j9 (show (1300 : Nat) ∉ _ from by decide)) (funext fun j9 => nM.2 4 0 j9 (show (400 : Nat) ∉ _ from by decide))), (hR.k_well (funext fun j9 => nX.2 5 0 j9 (show (500 : Nat) ∉ _ from by decide)) (funext fun j9 => nM.2 1 0 j9 (show (100 : Nat) ∉ _ from by decide))), (hR.k_mor (funext fun j9 => nX.2 5 0 j9 (show (500 : Nat) ∉ _ from by decide)) (funext fun j9 => nX.2 14 15 j9 (show (1400 : Nat) ∉ _ from by decide)) (funext fun j9 => nM.2 5 0 j9 (show (500 : Nat) ∉ _ from by decide))), (hR.k_rng (funext fun j9 => nX.2 5 0 j9 (show (500 : Nat) ∉ _ from by decide)) (funext fun j9 => nX.2 6 0 j9 (show (600 : Nat) ∉ _ from by decide)) (funext fun j9 => nX.2 13 15 j9 (show (1300 : Nat) ∉ _ from by decide)) (funext fun j9 => nX.2 14 15 j9 (show (1400 : Nat) ∉ _ from by decide))), (hR.k_own e11 m4), (hR.k_now (congrFun e15 15) e11 (nX.2 0 0 10 (show (10 : Nat) ∉ _ from by decide))), (hR.k_orn e11), (hR.k_lsz (nX.2 16 0 1 (show (1601 : Nat) ∉ _ from by decide)) (nM.2 0 0 37 (show (37 : Nat) ∉ _ from by decide))), (hR.k_led (funext fun i9 => funext fun j9 => nX.2 18 i9 j9 (show (1800 : Nat) ∉ _ from by decide)) (funext fun j9 => nM.2 16 0 j9 (show (1600 : Nat) ∉ _ from by decide)) (funext fun j9 => nM.2 17 0 j9 (show (1700 : Nat) ∉ _ from by decide)) (funext fun j9 => nM.2 18 0 j9 (show (1800 : Nat) ∉ _ from by decide)) (funext fun j9 => nM.2 19 0 j9 (show (1900 : Nat) ∉ _ from by decide)) (funext fun j9 => nM.2 20 0 j9 (show (2000 : Nat) ∉ _ from by decide)) (funext fun j9 => nM.2 21 0 j9 (show (2100 : Nat) ∉ _ from by decide))), (hR.k_lrg (nX.2 16 0 1 (show (1601 : Nat) ∉ _ from by decide)) (funext fun i9 => funext fun j9 => nX.2 18 i9 j9 (show (1800 : Nat) ∉ _ from by decide))), (by have := hR.sel; omega), ⟨ro, k1, by rw [show (um 0 0 28).toNatClampNeg = b0 by (have c := gs_cl (x := um 0 0 28) (by omega); omega)]; exact m1, m3.trans hro, hwo, huo⟩⟩