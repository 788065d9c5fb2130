
set_option maxHeartbeats 1000000 in
theorem rAll.en {sx sm ux um : gS} {x y w rt kn : Int32} (hR : rAll sx sm) (hBX : gBd bX sx) (nX : gBN bX kX [1300, 1601, 1800] sx ux) (nM : gBN bM kM [0, 37, 400, 1600, 1700, 1800, 1900, 2000, 2100] sm um) (h0 : 0 ≤ x.toInt) (h5 : x.toInt ≤ 5) (hw : 0 < (sx 5 0 x.toNatClampNeg).toInt) (hw1 : 1 ≤ w.toInt) (hl : w.toInt ≤ (sm 4 0 x.toNatClampNeg).toInt) (hrt : rt.toInt = 0 ∨ rt.toInt = 1) (hkn : -1 ≤ kn.toInt) (ex : enX sx ux x y w rt kn) (em : enM sm um x y w rt kn) : rAll ux um := by
  have l0 : sx 18 0 = sm 16 0 := hR.led 0 (by decide)
  have l1 : sx 18 1 = sm 17 0 := hR.led 1 (by decide)
  have l2 : sx 18 2 = sm 18 0 := hR.led 2 (by decide)
  have l3 : sx 18 3 = sm 19 0 := hR.led 3 (by decide)
  have l4 : sx 18 4 = sm 20 0 := hR.led 4 (by decide)
  have l5 : sx 18 5 = sm 21 0 := hR.led 5 (by decide)
  have ez := congrArg Int32.toInt hR.lsz
  have el := congrArg Int32.toInt (congrFun hR.lev x.toNatClampNeg)
  have b9 : (0 : Int) ≤ (sx 16 0 1).toInt ∧ (sx 16 0 1).toInt ≤ (300 : Int) := hBX 16 0 1
  have cz := gs_cl (x := sx 16 0 1) (by omega)
  obtain ⟨x13, x0, x1, x2, x3, x4, x5, xs⟩ := ex
  obtain ⟨m4, m0, m1, m2, m3, m5, m6, ms⟩ := em
  exact ⟨(hR.k_date (nX.2 0 0 10 (show (10 : Nat) ∉ _ from by decide)) (nM.2 0 0 7 (show (7 : Nat) ∉ _ from by decide))), (hR.k_size (nX.2 1 0 1 (show (101 : Nat) ∉ _ from by decide)) (nM.2 0 0 9 (show (9 : Nat) ∉ _ from by decide))), (hR.k_tape (funext fun j9 => nX.2 2 0 j9 (show (200 : Nat) ∉ _ from by decide)) (funext fun j9 => nM.2 7 0 j9 (show (700 : Nat) ∉ _ from by decide))), (hR.k_cap (funext fun j9 => nX.2 5 0 j9 (show (500 : Nat) ∉ _ from by decide)) (funext fun j9 => nM.2 2 0 j9 (show (200 : Nat) ∉ _ from by decide))), (hR.k_rate (funext fun j9 => nX.2 6 0 j9 (show (600 : Nat) ∉ _ from by decide)) (funext fun j9 => nM.2 3 0 j9 (show (300 : Nat) ∉ _ from by decide))), (by rw [x13, m4, hR.lev]), (hR.k_well (funext fun j9 => nX.2 5 0 j9 (show (500 : Nat) ∉ _ from by decide)) (funext fun j9 => nM.2 1 0 j9 (show (100 : Nat) ∉ _ from by decide))), (hR.k_mor (funext fun j9 => nX.2 5 0 j9 (show (500 : Nat) ∉ _ from by decide)) (funext fun j9 => nX.2 14 15 j9 (show (1400 : Nat) ∉ _ from by decide)) (funext fun j9 => nM.2 5 0 j9 (show (500 : Nat) ∉ _ from by decide))), (fun w9 h9 h8 => by rw [show ux 5 0 = sx 5 0 from (funext fun j9 => nX.2 5 0 j9 (show (500 : Nat) ∉ _ from by decide)), show ux 6 0 = sx 6 0 from (funext fun j9 => nX.2 6 0 j9 (show (600 : Nat) ∉ _ from by decide)), x13, show ux 14 15 = sx 14 15 from (funext fun j9 => nX.2 14 15 j9 (show (1400 : Nat) ∉ _ from by decide))] at *; have h7 := hR.rng w9 h9 h8; by_cases q : w9 = x.toNatClampNeg; rw [q, pk_us]; rw [q] at h7; obtain ⟨g1, g2, g3, g4⟩ := h7; have h6 : (sx 13 15 x.toNatClampNeg - w).toInt = (sx 13 15 x.toNatClampNeg).toInt - w.toInt := gz_subI rfl rfl (by omega) (by omega); exact ⟨g1, g2, ⟨by omega, by omega⟩, g4⟩; rw [pk_un q]; exact h7), (hR.k_own (funext fun i9 => funext fun j9 => nX.2 11 i9 j9 (show (1100 : Nat) ∉ _ from by decide)) (funext fun j9 => nM.2 6 0 j9 (show (600 : Nat) ∉ _ from by decide))), (hR.k_now (funext fun j9 => nX.2 15 15 j9 (show (1500 : Nat) ∉ _ from by decide)) (funext fun i9 => funext fun j9 => nX.2 11 i9 j9 (show (1100 : Nat) ∉ _ from by decide)) (nX.2 0 0 10 (show (10 : Nat) ∉ _ from by decide))), (hR.k_orn (funext fun i9 => funext fun j9 => nX.2 11 i9 j9 (show (1100 : Nat) ∉ _ from by decide))), (eqI (by omega)), (led6 (by rw [x0, m0, l0, hR.lsz, hR.date]) (by rw [x1, m1, l1, hR.lsz]) (by rw [x2, m2, l2, hR.lsz]) (by rw [x3, m3, l3, hR.lsz]) (by rw [x4, m5, l4, hR.lsz]) (by rw [x5, m6, l5, hR.lsz])), (fun k9 h9 => by rw [x4, x5]; by_cases q : k9 = (sx 16 0 1).toNatClampNeg; rw [q, pk_us, pk_us]; exact ⟨hrt, hkn⟩; rw [pk_un q, pk_un q]; exact hR.lrg k9 (by omega)), (hR.k_sel (nX.2 0 0 7 (show (7 : Nat) ∉ _ from by decide)) (nX.2 0 0 8 (show (8 : Nat) ∉ _ from by decide))), (hR.k_law (lA.frame nX.2 (by decide)) (nX.2 0 0 7 (show (7 : Nat) ∉ _ from by decide)) (mA.frame nM.2 (by decide)) (nM.2 0 0 28 (show (28 : Nat) ∉ _ from by decide)) (nM.2 0 0 29 (show (29 : Nat) ∉ _ from by decide)))⟩
set_option maxHeartbeats 1000000 in
theorem rel_draw {sx sm ux um : gS} {rs : List Rl} {x : Int32} {y : Int32} {w : Int32} {rX rM : Int32} (hR : rAll sx sm) (hBX : gBd bX sx) (hBM : gBd bM sm) (nX : gBN bX kX [1300, 1601, 1800] sx ux) (nM : gBN bM kM [0, 37, 400, 1600, 1700, 1800, 1900, 2000, 2100] sm um) (hwf : ∀ r ∈ rs, wfR r) (hX : PX_draw rs sx ux x y w x.toInt y.toInt w.toInt rX) (hM : PM_draw rs sm um x y w x.toInt y.toInt w.toInt rM) : rAll ux um ∧ rX = rM := by
  have wl := hR.well x.toNatClampNeg
  have l0 : sx 18 0 = sm 16 0 := hR.led 0 (by decide)
  have l1 : sx 18 1 = sm 17 0 := hR.led 1 (by decide)
  have l2 : sx 18 2 = sm 18 0 := hR.led 2 (by decide)
  have l3 : sx 18 3 = sm 19 0 := hR.led 3 (by decide)
  have l4 : sx 18 4 = sm 20 0 := hR.led 4 (by decide)
  have l5 : sx 18 5 = sm 21 0 := hR.led 5 (by decide)
  by_cases q : 0 ≤ x.toInt ∧ x.toInt ≤ 5
  · have cx := gs_cl q.1
    have hx6 : x.toNatClampNeg < 6 := by omega
    unfold PX_draw at hX
    rw [hR.nowM hBX hx6, l0, l1, l2, l3, l4, hR.lsz, hR.date, hR.lev, Int32.add_comm (sW _ _ _) w] at hX
    obtain ⟨er, h⟩ := drawI.eq hX hM (by rw [hR.cap] at wl ⊢; exact ⟨fun h => ⟨h.1, h.2.1, wl.mp h.2.2.1, h.2.2.2⟩, fun h => ⟨h.1, h.2.1, wl.mpr h.2.2.1, h.2.2.2⟩⟩) (hR.rt hBX hwf hx6) (fun _ => trivial)
    refine ⟨?_, eqI er⟩
    rcases h with ⟨e, f⟩ | ⟨hP, hl, ex, em⟩
    · exact hR.fr e f
    · exact hR.en hBX nX nM q.1 q.2 hP.2.2.1 hP.2.2.2.2.2.1 hl (Or.inr (by decide)) (by have b7 : (0 : Int) ≤ (sm 0 0 7).toInt ∧ (sm 0 0 7).toInt ≤ (199 : Int) := hBM 0 0 7; omega) ex em
  · have h1 : rX.toInt = 1 ∧ ux = sx := by
      rcases hX with ⟨a, b, c⟩ | ⟨a, _⟩ | ⟨a, _⟩ | ⟨a, _⟩ | ⟨a, _⟩
      · exact ⟨b, c⟩
      all_goals exact absurd ⟨a.1, a.2.1⟩ q
    have h2 : rM.toInt = 1 ∧ frM sm um := by
      rcases hM with ⟨a, b, c⟩ | ⟨a, _⟩ | ⟨a, _⟩ | ⟨a, _⟩ | ⟨a, _⟩
      · exact ⟨b, c⟩
      all_goals exact absurd ⟨a.1, a.2.1⟩ q
    exact ⟨hR.fr h1.2 h2.2, eqI (h1.1.trans h2.1.symm)⟩
set_option maxHeartbeats 1000000 in
theorem rel_take {sx sm ux um : gS} {rs : List Rl} {x : Int32} {y : Int32} {w : Int32} {rX rM : Int32} (hR : rAll sx sm) (hBX : gBd bX sx) (hBM : gBd bM sm) (nX : gBN bX kX [1300, 1601, 1800] sx ux) (nM : gBN bM kM [0, 37, 400, 1600, 1700, 1800, 1900, 2000, 2100] sm um) (hwf : ∀ r ∈ rs, wfR r) (hX : PX_take rs sx ux x y w x.toInt y.toInt w.toInt rX) (hM : PM_take rs sm um x y w x.toInt y.toInt w.toInt rM) : rAll ux um ∧ rX = rM := by
  have wl := hR.well x.toNatClampNeg
  have l0 : sx 18 0 = sm 16 0 := hR.led 0 (by decide)
  have l1 : sx 18 1 = sm 17 0 := hR.led 1 (by decide)
  have l2 : sx 18 2 = sm 18 0 := hR.led 2 (by decide)
  have l3 : sx 18 3 = sm 19 0 := hR.led 3 (by decide)
  have l4 : sx 18 4 = sm 20 0 := hR.led 4 (by decide)
  have l5 : sx 18 5 = sm 21 0 := hR.led 5 (by decide)
  by_cases q : 0 ≤ x.toInt ∧ x.toInt ≤ 5
  · have cx := gs_cl q.1
    have hx6 : x.toNatClampNeg < 6 := by omega
    unfold PX_take at hX
    rw [hR.lsz, hR.lev] at hX
    obtain ⟨er, h⟩ := takeI.eq hX hM (by rw [hR.cap] at wl ⊢; exact ⟨fun h => ⟨h.1, h.2.1, wl.mp h.2.2.1, h.2.2.2⟩, fun h => ⟨h.1, h.2.1, wl.mpr h.2.2.1, h.2.2.2⟩⟩) (hR.rt hBX hwf hx6)
    refine ⟨?_, eqI er⟩
    rcases h with ⟨e, f⟩ | ⟨hP, hl, ex, em⟩
    · exact hR.fr e f
    · exact hR.en hBX nX nM q.1 q.2 hP.2.2.1 hP.2.2.2.2.2.1 hl (Or.inl (by decide)) (by decide) ex em
  · have h1 : rX.toInt = 1 ∧ ux = sx := by
      rcases hX with ⟨a, b, c⟩ | ⟨a, _⟩ | ⟨a, _⟩ | ⟨a, _⟩
      · exact ⟨b, c⟩
      all_goals exact absurd ⟨a.1, a.2.1⟩ q
    have h2 : rM.toInt = 1 ∧ frM sm um := by
      rcases hM with ⟨a, b, c⟩ | ⟨a, _⟩ | ⟨a, _⟩ | ⟨a, _⟩
      · exact ⟨b, c⟩
      all_goals exact absurd ⟨a.1, a.2.1⟩ q
    exact ⟨hR.fr h1.2 h2.2, eqI (h1.1.trans h2.1.symm)⟩