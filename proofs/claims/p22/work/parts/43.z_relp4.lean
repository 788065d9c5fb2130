
set_option maxHeartbeats 1000000 in
theorem relp_plan {sx sm ux um : gS} {rs : List Rl} {x : Int32} {y : Int32} {rX rM : Int32} (hR : rAll sx sm) (hP : rPl sx sm) (hBX : gBd bX sx) (hBM : gBd bM sm) (nX : gBN bX kX [1300, 1400, 1500, 3803, 3804, 3810, 3811, 3813, 3814, 4100, 4300, 4500, 4600, 4700] sx ux) (nM : gBN bM kM [0, 55, 56, 57, 58, 2900, 3000, 3100, 3200, 3300, 3400, 3500, 3600, 3700, 3800] sm um) {f g : Nat → Int64} (hX : (rX = 1 ∧ ux = sx ∧ ¬ (1 ≤ y.toInt ∧ y.toInt ≤ 50000)) ∨ (rX = 0 ∧ (1 ≤ y.toInt ∧ y.toInt ≤ 50000) ∧ (∃ r9 : Int32, ((¬ ((∃ h : Nat, h < 4 ∧ ¬ (sx 20 0 h).toInt = -1) ∧ 1 ≤ x.toInt ∧ x.toInt ≤ 14 ∧ (sx 0 0 10).toInt + x.toInt ≤ 199) ∧ r9.toInt = -1 ∧ ux = gU sx 38 0 10 0) ∨ (((∃ h : Nat, h < 4 ∧ ¬ (sx 20 0 h).toInt = -1) ∧ 1 ≤ x.toInt ∧ x.toInt ≤ 14 ∧ (sx 0 0 10).toInt + x.toInt ≤ 199) ∧ ∃ (as9 : List Int) (f9 : Int), sFE (evY rs sx) x.toInt y.toInt f9 r9.toInt as9 ∧ (ux 38 0 11).toInt = f9 ∧ zrX ux ∧ ((r9.toInt = 0 ∧ fdY sx ux as9 x) ∨ (1 ≤ r9.toInt ∧ ux 47 0 = sx 47 0 ∧ ux 38 0 13 = sx 38 0 13 ∧ ux 38 0 14 = sx 38 0 14)))) ∧ tdX sx ux ∧ g = vp_updL f (0 : Int32).toNatClampNeg (Int32.toInt64 r9))))  (hM : PM_plan rs sm um x y x.toInt y.toInt rM) : rPl ux um ∧ um 0 0 0 = rX ∧ (rX = 0 → g (0 : Int32).toNatClampNeg = rM.toInt64) := by
  have nv : ((∃ h : Nat, h < 4 ∧ ¬ (sx 20 0 h).toInt = -1) ∧ 1 ≤ x.toInt ∧ x.toInt ≤ 14 ∧ (sx 0 0 10).toInt + x.toInt ≤ 199) ↔ ((∃ h : Nat, h < 4 ∧ ¬ (sm 22 0 h).toInt = 0) ∧ 1 ≤ x.toInt ∧ x.toInt ≤ 14 ∧ (sm 0 0 7).toInt + x.toInt ≤ 199) := by
    rw [hR.date]
    exact ⟨fun ⟨⟨h, h4, hn⟩, h8⟩ => ⟨⟨h, h4, fun z => hn ((hP.her h4).mpr z)⟩, h8⟩, fun ⟨⟨h, h4, hn⟩, h8⟩ => ⟨⟨h, h4, fun z => hn ((hP.her h4).mp z)⟩, h8⟩⟩
  rcases hX with ⟨r1, e, hn⟩ | ⟨r1, hp, r9, hx, ht, hg⟩
  · rcases hM with ⟨a, b, c, d⟩ | ⟨a, _⟩ | ⟨a, _⟩
    · exact ⟨hP.fr e d, eqI (c.trans (by rw [r1]; decide)), fun z => absurd (r1.symm.trans z) (by decide)⟩
    · exact absurd a hn
    · exact absurd a hn
  · have z0 : (0 : Int32).toInt = 0 := by decide
    have gv : rM = r9 → g (0 : Int32).toNatClampNeg = rM.toInt64 := fun z => by rw [hg, z]; rfl
    rcases hM with ⟨a, _⟩ | ⟨_, n2, v2, t2, fr2⟩ | ⟨_, n2, t2, as2, f2, s2, q2, d2⟩
    · exact absurd hp a
    · rcases hx with ⟨n1, v1, e1⟩ | ⟨n1, _⟩
      · refine ⟨?_, eqI (by rw [t2, r1, z0]), fun _ => gv (eqI (v2.trans v1.symm))⟩
        have ek : ∀ k : Nat, k ≠ 38 → ux k = sx k := fun k hk => by rw [e1]; exact gU_k hk
        have ec : ∀ j : Nat, j ≠ 10 → ux 38 0 j = sx 38 0 j := fun j hj => by rw [e1]; exact gU_other hj
        have zr : zrX ux := zrX.fr hP.zr (congrFun (ek 5 (by decide)) 0) (ek 13 (by decide)) (ek 14 (by decide)) (congrFun (ek 20 (by decide)) 0) (congrFun (ek 21 (by decide)) 0)
        exact rPl.k hP (congrFun (ek 20 (by decide)) 0) (congrFun (ek 21 (by decide)) 0) (congrFun (ek 22 (by decide)) 0) (congrFun (ek 23 (by decide)) 0) (congrFun (ek 24 (by decide)) 0) (ek 8 (by decide)) zr (ec 11 (by decide)) (ec 13 (by decide)) (ec 14 (by decide)) (congrFun (ek 47 (by decide)) 0) (fr2.row (by decide)) (fr2.row (by decide)) (fr2.row (by decide)) (fr2.row (by decide)) (fr2.row (by decide)) (fr2.row (by decide)) (fr2.row (by decide)) (fr2.row (by decide)) (fr2.row (by decide)) (fr2 0 0 58 (by decide)) (fr2 0 0 55 (by decide)) (fr2 0 0 56 (by decide))
      · exact absurd (nv.mp n1) n2
    · rcases hx with ⟨n1, _⟩ | ⟨n1, as1, f1, s1, q1, z1, d1⟩
      · exact absurd (nv.mpr n2) n1
      · rw [hP.ev hR] at s1
        have g1 : ¬ r9.toInt = -1 := by rcases d1 with ⟨h, _⟩ | ⟨h, _⟩ <;> omega
        have g2 : ¬ rM.toInt = -1 := by rcases d2 with ⟨h, _⟩ | ⟨h, _⟩ <;> omega
        obtain ⟨ea, ef, er⟩ := sFE.one s1 s2 g1 g2
        subst ea
        have fa : ux 38 0 11 = um 0 0 58 := eqI (by rw [q1, q2, ef])
        have fn : fnR ux um := by
          rcases d1 with ⟨h1, p1⟩ | ⟨h1, p1, p2, p3⟩ <;> rcases d2 with ⟨h2, p4⟩ | ⟨h2, p4, p5, p6, p7⟩
          · exact fnR.fd hR hP p1 p4
          · exfalso; omega
          · exfalso; omega
          · exact hP.fnd.k p2 p3 p1 p4 p5 p6 p7
        exact ⟨(rPl.k2 hP (funext fun j9 => nX.2 20 0 j9 (show (2000 : Nat) ∉ _ from by decide)) (funext fun j9 => nX.2 21 0 j9 (show (2100 : Nat) ∉ _ from by decide)) (funext fun j9 => nX.2 22 0 j9 (show (2200 : Nat) ∉ _ from by decide)) (funext fun j9 => nX.2 23 0 j9 (show (2300 : Nat) ∉ _ from by decide)) (funext fun j9 => nX.2 24 0 j9 (show (2400 : Nat) ∉ _ from by decide)) (funext fun i9 => funext fun j9 => nX.2 8 i9 j9 (show (800 : Nat) ∉ _ from by decide)) z1 (funext fun j9 => nM.2 22 0 j9 (show (2200 : Nat) ∉ _ from by decide)) (funext fun j9 => nM.2 23 0 j9 (show (2300 : Nat) ∉ _ from by decide)) (funext fun j9 => nM.2 24 0 j9 (show (2400 : Nat) ∉ _ from by decide)) (funext fun j9 => nM.2 25 0 j9 (show (2500 : Nat) ∉ _ from by decide)) (funext fun j9 => nM.2 26 0 j9 (show (2600 : Nat) ∉ _ from by decide)) (funext fun j9 => nM.2 27 0 j9 (show (2700 : Nat) ∉ _ from by decide)) (funext fun j9 => nM.2 28 0 j9 (show (2800 : Nat) ∉ _ from by decide)) fa fn), eqI (by rw [t2, r1, z0]), fun _ => gv (eqI er.symm)⟩