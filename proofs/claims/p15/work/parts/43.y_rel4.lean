
set_option maxHeartbeats 1000000 in
theorem rel_lend {sx sm ux um : gS} {x : Int32} {y : Int32} {w : Int32} {rX rM : Int32} (hR : rAll sx sm) (hBX : gBd bX sx) (hBM : gBd bM sm) (nX : gBN bX kX [1100] sx ux) (nM : gBN bM kM [0, 600] sm um)  (hX : PX_lend  sx ux x y w x.toInt y.toInt w.toInt rX) (hM : PM_lend  sm um x y w x.toInt y.toInt w.toInt rM) : rAll ux um ∧ rX = rM := by
  have ed := congrArg Int32.toInt hR.date
  have b10 : (0 : Int) ≤ (sx 0 0 10).toInt ∧ (sx 0 0 10).toInt ≤ (199 : Int) := hBX 0 0 10
  have cd := gs_cl (x := sx 0 0 10) (by omega)
  have own : 0 ≤ x.toInt → x.toInt ≤ 5 → ∀ d : Nat, d < 200 → (sx 11 x.toNatClampNeg d).toInt = (sm 6 0 (200 * x.toNatClampNeg + d)).toInt := fun h0 h5 d hd => hR.own _ d (by have := gs_cl h0; omega) hd
  have hbo : 0 ≤ x.toInt → x.toInt ≤ 5 → 0 ≤ y.toInt → y.toInt ≤ 199 → -1 ≤ (sm 6 0 (200 * x.toNatClampNeg + y.toNatClampNeg)).toInt := fun h0 h5 h1 h9 => by
    have c1 := gs_cl h0
    have c2 := gs_cl h1
    rw [← own h0 h5 y.toNatClampNeg (by omega)]; exact hR.orn _ _ (by omega) (by omega)
  have iff : (0 ≤ w.toInt ∧ w.toInt ≤ 5 ∧ (sx 0 0 10).toInt < y.toInt ∧ (0 ≤ x.toInt ∧ x.toInt ≤ 5 ∧ 0 ≤ y.toInt ∧ y.toInt ≤ 199 ∧ ¬ (sx 11 x.toNatClampNeg y.toNatClampNeg).toInt = -1 ∧ ¬ (sx 11 x.toNatClampNeg y.toNatClampNeg).toInt = w.toInt)) ↔ (0 ≤ x.toInt ∧ x.toInt ≤ 5 ∧ 0 ≤ w.toInt ∧ w.toInt ≤ 5 ∧ (sm 0 0 7).toInt < y.toInt ∧ y.toInt ≤ 199 ∧ 0 ≤ (sm 6 0 (200 * x.toNatClampNeg + y.toNatClampNeg)).toInt ∧ ¬ (sm 6 0 (200 * x.toNatClampNeg + y.toNatClampNeg)).toInt = w.toInt) := by
    by_cases q : 0 ≤ x.toInt ∧ x.toInt ≤ 5 ∧ 0 ≤ y.toInt ∧ y.toInt ≤ 199
    · have e := own q.1 q.2.1 y.toNatClampNeg (by have := gs_cl q.2.2.1; omega)
      have l := hbo q.1 q.2.1 q.2.2.1 q.2.2.2
      constructor <;> (intro h; omega)
    · constructor <;> (intro h; exfalso; omega)
  rcases hX with ⟨a, b, c⟩ | ⟨a, b, c, d⟩ | ⟨a, b, c, v, hv, d⟩ <;> rcases hM with ⟨e, f, g⟩ | ⟨e, f, g, h⟩ | ⟨e, f, g, h⟩
  · exact ⟨hR.fr c g, eqI (b.trans f.symm)⟩
  · exact absurd (iff.mpr e) a
  · exact absurd (iff.mpr e) a
  · exact absurd (iff.mp a) e
  · exact ⟨hR.fr d h, eqI (c.trans g.symm)⟩
  · have cr := gs_cl (x := rM) (by omega)
    exact absurd ((own e.1 e.2.1 rM.toNatClampNeg (by omega)).trans f.2.2) (b _ (by omega) (by omega))
  · exact absurd (iff.mp a) e
  · have cr := gs_cl (x := rX) (by omega)
    exact absurd ((own e.1 e.2.1 rX.toNatClampNeg (by omega)).symm.trans b.2.2) (f _ (by omega) (by omega))
  · have cr := gs_cl (x := rX) (by omega)
    have cm := gs_cl (x := rM) (by omega)
    have cy := gs_cl (x := y) (by omega)
    have cx := gs_cl (x := x) (by omega)
    have er : rX = rM := eqI (noBk.one c g (fun d h1 h2 => own e.1 e.2.1 d (by omega)) (by omega) (by omega) (by omega) (by omega) (by rw [show rX.toInt.toNat = rX.toNatClampNeg by omega]; exact b.2.2) (by show (sm 6 0 (200 * x.toNatClampNeg + rM.toInt.toNat)).toInt = _; rw [show rM.toInt.toNat = rM.toNatClampNeg by omega]; exact f.2.2) (by omega))
    subst er
    have d11 : ∀ w9 d9 : Nat, (ux 11 w9 d9).toInt = if w9 = x.toNatClampNeg ∧ d9 = rX.toNatClampNeg then (sx 11 x.toNatClampNeg y.toNatClampNeg).toInt else if w9 = x.toNatClampNeg ∧ d9 = y.toNatClampNeg then w.toInt else (sx 11 w9 d9).toInt := fun w9 d9 => by
      rw [d]
      by_cases q : w9 = x.toNatClampNeg
      · subst q
        by_cases q1 : d9 = rX.toNatClampNeg
        · rw [if_pos ⟨rfl, q1⟩, q1, gU_same]; exact hv
        · rw [if_neg (fun z => q1 z.2), gU_other q1]
          by_cases q2 : d9 = y.toNatClampNeg
          · rw [if_pos ⟨rfl, q2⟩, q2, gU_same]
          · rw [if_neg (fun z => q2 z.2), gU_other q2]
      · rw [if_neg (fun z => q z.1), if_neg (fun z => q z.1), gU_ne (fun z => q z.2), gU_ne (fun z => q z.2)]
    exact ⟨⟨(hR.k_date (nX.2 0 0 10 (show (10 : Nat) ∉ _ from by decide)) (nM.2 0 0 7 (show (7 : Nat) ∉ _ from by decide))), (hR.k_size (nX.2 1 0 1 (show (101 : Nat) ∉ _ from by decide)) (nM.2 0 0 9 (show (9 : Nat) ∉ _ from by decide))), (hR.k_tape (funext fun j9 => nX.2 2 0 j9 (show (200 : Nat) ∉ _ from by decide)) (funext fun j9 => nM.2 7 0 j9 (show (700 : Nat) ∉ _ from by decide))), (hR.k_cap (funext fun j9 => nX.2 5 0 j9 (show (500 : Nat) ∉ _ from by decide)) (funext fun j9 => nM.2 2 0 j9 (show (200 : Nat) ∉ _ from by decide))), (hR.k_rate (funext fun j9 => nX.2 6 0 j9 (show (600 : Nat) ∉ _ from by decide)) (funext fun j9 => nM.2 3 0 j9 (show (300 : Nat) ∉ _ from by decide))), (hR.k_lev (funext fun j9 => nX.2 13 15 j9 (show (1300 : Nat) ∉ _ from by decide)) (funext fun j9 => nM.2 4 0 j9 (show (400 : Nat) ∉ _ from by decide))), (hR.k_well (funext fun j9 => nX.2 5 0 j9 (show (500 : Nat) ∉ _ from by decide)) (funext fun j9 => nM.2 1 0 j9 (show (100 : Nat) ∉ _ from by decide))), (hR.k_mor (funext fun j9 => nX.2 5 0 j9 (show (500 : Nat) ∉ _ from by decide)) (funext fun j9 => nX.2 14 15 j9 (show (1400 : Nat) ∉ _ from by decide)) (funext fun j9 => nM.2 5 0 j9 (show (500 : Nat) ∉ _ from by decide))), (hR.k_rng (funext fun j9 => nX.2 5 0 j9 (show (500 : Nat) ∉ _ from by decide)) (funext fun j9 => nX.2 6 0 j9 (show (600 : Nat) ∉ _ from by decide)) (funext fun j9 => nX.2 13 15 j9 (show (1300 : Nat) ∉ _ from by decide)) (funext fun j9 => nX.2 14 15 j9 (show (1400 : Nat) ∉ _ from by decide))), (fun w9 d9 h9 h8 => by
      rw [d11 w9 d9, h]
      by_cases q : w9 = x.toNatClampNeg
      · subst q
        by_cases q1 : d9 = rX.toNatClampNeg
        · rw [if_pos ⟨rfl, q1⟩, q1, pk_un (by omega), pk_us]; exact own e.1 e.2.1 _ (by omega)
        · rw [if_neg (fun z => q1 z.2)]
          by_cases q2 : d9 = y.toNatClampNeg
          · rw [if_pos ⟨rfl, q2⟩, q2, pk_us]
          · rw [if_neg (fun z => q2 z.2), pk_un (by omega), pk_un (by omega)]; exact hR.own _ d9 h9 h8
      · rw [if_neg (fun z => q z.1), if_neg (fun z => q z.1), pk_un (by omega), pk_un (by omega)]; exact hR.own w9 d9 h9 h8), (fun w9 h9 => by
      rw [show ux 15 15 = sx 15 15 from (funext fun j9 => nX.2 15 15 j9 (show (1500 : Nat) ∉ _ from by decide)), show ux 0 0 10 = sx 0 0 10 from (nX.2 0 0 10 (show (10 : Nat) ∉ _ from by decide)), d11, if_neg (fun z => by omega), if_neg (fun z => by omega)]; exact hR.now w9 h9), (fun w9 d9 h9 h8 => by
      rw [d11 w9 d9]
      split
      · exact hR.orn _ _ (by omega) (by omega)
      · split
        · omega
        · exact hR.orn w9 d9 h9 h8), (hR.k_lsz (nX.2 16 0 1 (show (1601 : Nat) ∉ _ from by decide)) (nM.2 0 0 37 (show (37 : Nat) ∉ _ from by decide))), (hR.k_led (funext fun i9 => funext fun j9 => nX.2 18 i9 j9 (show (1800 : Nat) ∉ _ from by decide)) (funext fun j9 => nM.2 16 0 j9 (show (1600 : Nat) ∉ _ from by decide)) (funext fun j9 => nM.2 17 0 j9 (show (1700 : Nat) ∉ _ from by decide)) (funext fun j9 => nM.2 18 0 j9 (show (1800 : Nat) ∉ _ from by decide)) (funext fun j9 => nM.2 19 0 j9 (show (1900 : Nat) ∉ _ from by decide)) (funext fun j9 => nM.2 20 0 j9 (show (2000 : Nat) ∉ _ from by decide)) (funext fun j9 => nM.2 21 0 j9 (show (2100 : Nat) ∉ _ from by decide))), (hR.k_lrg (nX.2 16 0 1 (show (1601 : Nat) ∉ _ from by decide)) (funext fun i9 => funext fun j9 => nX.2 18 i9 j9 (show (1800 : Nat) ∉ _ from by decide))), (hR.k_sel (nX.2 0 0 7 (show (7 : Nat) ∉ _ from by decide)) (nX.2 0 0 8 (show (8 : Nat) ∉ _ from by decide))), (hR.k_law (lA.frame nX.2 (by decide)) (nX.2 0 0 7 (show (7 : Nat) ∉ _ from by decide)) (mA.frame nM.2 (by decide)) (nM.2 0 0 28 (show (28 : Nat) ∉ _ from by decide)) (nM.2 0 0 29 (show (29 : Nat) ∉ _ from by decide)))⟩, rfl⟩