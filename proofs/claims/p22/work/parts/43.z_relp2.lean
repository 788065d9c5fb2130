
set_option maxHeartbeats 1000000 in
theorem relp_step {sx sm ux um : gS} {x : Int32} {y : Int32} {rX rM : Int32} (hR : rAll sx sm) (hP : rPl sx sm) (hBX : gBd bX sx) (hBM : gBd bM sm) (nX : gBN bX kX [] sx ux) (nM : gBN bM kM [0] sm um)  (hX : PX_step  sx ux x y x.toInt y.toInt rX) (hM : PM_step  sm um x y x.toInt y.toInt rM) : rPl ux um ∧ rX = rM := by
  have hf := hP.fnd
  refine ⟨(rPl.k hP (funext fun j9 => nX.2 20 0 j9 (show (2000 : Nat) ∉ _ from by decide)) (funext fun j9 => nX.2 21 0 j9 (show (2100 : Nat) ∉ _ from by decide)) (funext fun j9 => nX.2 22 0 j9 (show (2200 : Nat) ∉ _ from by decide)) (funext fun j9 => nX.2 23 0 j9 (show (2300 : Nat) ∉ _ from by decide)) (funext fun j9 => nX.2 24 0 j9 (show (2400 : Nat) ∉ _ from by decide)) (funext fun i9 => funext fun j9 => nX.2 8 i9 j9 (show (800 : Nat) ∉ _ from by decide)) (zrX.fr hP.zr (funext fun j9 => nX.2 5 0 j9 (show (500 : Nat) ∉ _ from by decide)) (funext fun i9 => funext fun j9 => nX.2 13 i9 j9 (show (1300 : Nat) ∉ _ from by decide)) (funext fun i9 => funext fun j9 => nX.2 14 i9 j9 (show (1400 : Nat) ∉ _ from by decide)) (funext fun j9 => nX.2 20 0 j9 (show (2000 : Nat) ∉ _ from by decide)) (funext fun j9 => nX.2 21 0 j9 (show (2100 : Nat) ∉ _ from by decide))) (nX.2 38 0 11 (show (3811 : Nat) ∉ _ from by decide)) (nX.2 38 0 13 (show (3813 : Nat) ∉ _ from by decide)) (nX.2 38 0 14 (show (3814 : Nat) ∉ _ from by decide)) (funext fun j9 => nX.2 47 0 j9 (show (4700 : Nat) ∉ _ from by decide)) (funext fun j9 => nM.2 22 0 j9 (show (2200 : Nat) ∉ _ from by decide)) (funext fun j9 => nM.2 23 0 j9 (show (2300 : Nat) ∉ _ from by decide)) (funext fun j9 => nM.2 24 0 j9 (show (2400 : Nat) ∉ _ from by decide)) (funext fun j9 => nM.2 25 0 j9 (show (2500 : Nat) ∉ _ from by decide)) (funext fun j9 => nM.2 26 0 j9 (show (2600 : Nat) ∉ _ from by decide)) (funext fun j9 => nM.2 27 0 j9 (show (2700 : Nat) ∉ _ from by decide)) (funext fun j9 => nM.2 28 0 j9 (show (2800 : Nat) ∉ _ from by decide)) (funext fun j9 => nM.2 37 0 j9 (show (3700 : Nat) ∉ _ from by decide)) (funext fun j9 => nM.2 38 0 j9 (show (3800 : Nat) ∉ _ from by decide)) (nM.2 0 0 58 (show (58 : Nat) ∉ _ from by decide)) (nM.2 0 0 55 (show (55 : Nat) ∉ _ from by decide)) (nM.2 0 0 56 (show (56 : Nat) ∉ _ from by decide))), ?_⟩
  obtain ⟨hM, _⟩ := hM
  have b13 : (0 : Int) ≤ (sx 38 0 13).toInt ∧ (sx 38 0 13).toInt ≤ (199 : Int) := hBX 38 0 13
  have b14 : (0 : Int) ≤ (sx 38 0 14).toInt ∧ (sx 38 0 14).toInt ≤ (14 : Int) := hBX 38 0 14
  rcases hf with ⟨f1, f2⟩ | ⟨f1, f2, f3⟩
  · rcases hX with ⟨a, _⟩ | ⟨_, a⟩
    · exfalso; omega
    · rcases hM with ⟨b, _⟩ | ⟨_, b⟩
      · exfalso; omega
      · exact eqI (a.trans b.symm)
  · have e56 := congrArg Int32.toInt f2
    by_cases q : 0 ≤ x.toInt ∧ x.toInt ≤ 3 ∧ (sx 38 0 13).toInt < y.toInt ∧ y.toInt ≤ (sx 38 0 13).toInt + (sx 38 0 14).toInt
    · rcases hX with ⟨_, a⟩ | ⟨a, _⟩
      · have cx := gs_cl q.1
        have g := f3 (4 * (y.toInt - (sx 38 0 13).toInt - 1) + x.toInt).toNat (by omega)
        rw [← a, show (4 * (y.toInt - (sx 38 0 13).toInt - 1) + x.toInt).toNat % 4 = x.toNatClampNeg by omega] at g
        rcases hM with ⟨b, c⟩ | ⟨b, c⟩
        · rw [if_neg b.2.2.2.1] at g
          refine eqI (g.trans ?_)
          rw [c, show (4 * (y.toInt - (sm 0 0 55).toInt) + x.toInt).toNat = (4 * (y.toInt - (sx 38 0 13).toInt - 1) + x.toInt).toNat by omega]
        · by_cases z : (sm 38 0 x.toNatClampNeg).toInt = 0
          · rw [if_pos z] at g; exact eqI (g.trans c.symm)
          · exact absurd ⟨q.1, q.2.1, by omega, z, by omega, by omega⟩ b
      · exact absurd q a
    · rcases hX with ⟨a, _⟩ | ⟨_, a⟩
      · exact absurd a q
      · rcases hM with ⟨b, _⟩ | ⟨_, b⟩
        · exfalso; exact q ⟨b.1, b.2.1, by omega, by omega⟩
        · exact eqI (a.trans b.symm)
set_option maxHeartbeats 1000000 in
theorem relp_far {sx sm ux um : gS} {rX rM : Int32} (hR : rAll sx sm) (hP : rPl sx sm) (hBX : gBd bX sx) (hBM : gBd bM sm) (nX : gBN bX kX [] sx ux) (nM : gBN bM kM [0] sm um)  (hX : PX_far  sx ux   rX) (hM : PM_far  sm um   rM) : rPl ux um ∧ rX = rM := by
  exact ⟨(rPl.k hP (funext fun j9 => nX.2 20 0 j9 (show (2000 : Nat) ∉ _ from by decide)) (funext fun j9 => nX.2 21 0 j9 (show (2100 : Nat) ∉ _ from by decide)) (funext fun j9 => nX.2 22 0 j9 (show (2200 : Nat) ∉ _ from by decide)) (funext fun j9 => nX.2 23 0 j9 (show (2300 : Nat) ∉ _ from by decide)) (funext fun j9 => nX.2 24 0 j9 (show (2400 : Nat) ∉ _ from by decide)) (funext fun i9 => funext fun j9 => nX.2 8 i9 j9 (show (800 : Nat) ∉ _ from by decide)) (zrX.fr hP.zr (funext fun j9 => nX.2 5 0 j9 (show (500 : Nat) ∉ _ from by decide)) (funext fun i9 => funext fun j9 => nX.2 13 i9 j9 (show (1300 : Nat) ∉ _ from by decide)) (funext fun i9 => funext fun j9 => nX.2 14 i9 j9 (show (1400 : Nat) ∉ _ from by decide)) (funext fun j9 => nX.2 20 0 j9 (show (2000 : Nat) ∉ _ from by decide)) (funext fun j9 => nX.2 21 0 j9 (show (2100 : Nat) ∉ _ from by decide))) (nX.2 38 0 11 (show (3811 : Nat) ∉ _ from by decide)) (nX.2 38 0 13 (show (3813 : Nat) ∉ _ from by decide)) (nX.2 38 0 14 (show (3814 : Nat) ∉ _ from by decide)) (funext fun j9 => nX.2 47 0 j9 (show (4700 : Nat) ∉ _ from by decide)) (funext fun j9 => nM.2 22 0 j9 (show (2200 : Nat) ∉ _ from by decide)) (funext fun j9 => nM.2 23 0 j9 (show (2300 : Nat) ∉ _ from by decide)) (funext fun j9 => nM.2 24 0 j9 (show (2400 : Nat) ∉ _ from by decide)) (funext fun j9 => nM.2 25 0 j9 (show (2500 : Nat) ∉ _ from by decide)) (funext fun j9 => nM.2 26 0 j9 (show (2600 : Nat) ∉ _ from by decide)) (funext fun j9 => nM.2 27 0 j9 (show (2700 : Nat) ∉ _ from by decide)) (funext fun j9 => nM.2 28 0 j9 (show (2800 : Nat) ∉ _ from by decide)) (funext fun j9 => nM.2 37 0 j9 (show (3700 : Nat) ∉ _ from by decide)) (funext fun j9 => nM.2 38 0 j9 (show (3800 : Nat) ∉ _ from by decide)) (nM.2 0 0 58 (show (58 : Nat) ∉ _ from by decide)) (nM.2 0 0 55 (show (55 : Nat) ∉ _ from by decide)) (nM.2 0 0 56 (show (56 : Nat) ∉ _ from by decide))), hX.trans (hP.far.trans hM.1.symm)⟩