
set_option maxHeartbeats 1000000 in
theorem relp_drawn {sx sm ux um : gS} {x : Int32} {y : Int32} {rX rM : Int32} (hR : rAll sx sm) (hP : rPl sx sm) (hBX : gBd bX sx) (hBM : gBd bM sm) (nX : gBN bX kX [] sx ux) (nM : gBN bM kM [0] sm um) {PX9 : Prop} (hX : PX9)  (hM : PM_drawn  sm um x y x.toInt y.toInt rM) : rPl ux um := by
  exact (rPl.k hP (funext fun j9 => nX.2 20 0 j9 (show (2000 : Nat) ∉ _ from by decide)) (funext fun j9 => nX.2 21 0 j9 (show (2100 : Nat) ∉ _ from by decide)) (funext fun j9 => nX.2 22 0 j9 (show (2200 : Nat) ∉ _ from by decide)) (funext fun j9 => nX.2 23 0 j9 (show (2300 : Nat) ∉ _ from by decide)) (funext fun j9 => nX.2 24 0 j9 (show (2400 : Nat) ∉ _ from by decide)) (funext fun i9 => funext fun j9 => nX.2 8 i9 j9 (show (800 : Nat) ∉ _ from by decide)) (zrX.fr hP.zr (funext fun j9 => nX.2 5 0 j9 (show (500 : Nat) ∉ _ from by decide)) (funext fun i9 => funext fun j9 => nX.2 13 i9 j9 (show (1300 : Nat) ∉ _ from by decide)) (funext fun i9 => funext fun j9 => nX.2 14 i9 j9 (show (1400 : Nat) ∉ _ from by decide)) (funext fun j9 => nX.2 20 0 j9 (show (2000 : Nat) ∉ _ from by decide)) (funext fun j9 => nX.2 21 0 j9 (show (2100 : Nat) ∉ _ from by decide))) (nX.2 38 0 11 (show (3811 : Nat) ∉ _ from by decide)) (nX.2 38 0 13 (show (3813 : Nat) ∉ _ from by decide)) (nX.2 38 0 14 (show (3814 : Nat) ∉ _ from by decide)) (funext fun j9 => nX.2 47 0 j9 (show (4700 : Nat) ∉ _ from by decide)) (funext fun j9 => nM.2 22 0 j9 (show (2200 : Nat) ∉ _ from by decide)) (funext fun j9 => nM.2 23 0 j9 (show (2300 : Nat) ∉ _ from by decide)) (funext fun j9 => nM.2 24 0 j9 (show (2400 : Nat) ∉ _ from by decide)) (funext fun j9 => nM.2 25 0 j9 (show (2500 : Nat) ∉ _ from by decide)) (funext fun j9 => nM.2 26 0 j9 (show (2600 : Nat) ∉ _ from by decide)) (funext fun j9 => nM.2 27 0 j9 (show (2700 : Nat) ∉ _ from by decide)) (funext fun j9 => nM.2 28 0 j9 (show (2800 : Nat) ∉ _ from by decide)) (funext fun j9 => nM.2 37 0 j9 (show (3700 : Nat) ∉ _ from by decide)) (funext fun j9 => nM.2 38 0 j9 (show (3800 : Nat) ∉ _ from by decide)) (nM.2 0 0 58 (show (58 : Nat) ∉ _ from by decide)) (nM.2 0 0 55 (show (55 : Nat) ∉ _ from by decide)) (nM.2 0 0 56 (show (56 : Nat) ∉ _ from by decide)))
set_option maxHeartbeats 1000000 in
theorem relp_herd {sx sm ux um : gS} {x : Int32} {y : Int32} {w : Int32} {v : Int32} {t : Int32} {rX rM : Int32} (hR : rAll sx sm) (hP : rPl sx sm) (hBX : gBd bX sx) (hBM : gBd bM sm) (nX : gBN bX kX [2000, 2100, 2200, 2300, 2400] sx ux) (nM : gBN bM kM [0, 2200, 2300, 2400, 2500, 2600, 2700] sm um)  (hX : PX_herd  sx ux x y w v t x.toInt y.toInt w.toInt v.toInt t.toInt rX) (hM : PM_herd  sm um x y w v t x.toInt y.toInt w.toInt v.toInt t.toInt rM) : rPl ux um := by
  have wl := hR.well t.toNatClampNeg
  rcases hX with ⟨_, a, x20, x21, x22, x23, x24⟩ | ⟨_, a, e⟩ <;> rcases hM with ⟨_, b, m22, m23, m24, m25, m26, m27⟩ | ⟨_, b, f⟩
  · have e5 : ux 5 0 = sx 5 0 := (funext fun j9 => nX.2 5 0 j9 (show (500 : Nat) ∉ _ from by decide))
    have hz := hP.zr
    have zr : zrX ux := by
      refine ⟨fun i w9 hi hw hn => ?_, fun h hh hn => ?_⟩
      · rw [e5] at hn
        rw [show ux 13 = sx 13 from (funext fun i9 => funext fun j9 => nX.2 13 i9 j9 (show (1300 : Nat) ∉ _ from by decide)), show ux 14 = sx 14 from (funext fun i9 => funext fun j9 => nX.2 14 i9 j9 (show (1400 : Nat) ∉ _ from by decide))]
        exact hz.1 i w9 hi hw hn
      · rw [x20] at hn
        rw [x21]
        by_cases q : h = x.toNatClampNeg
        · rw [q, pk_us]; omega
        · rw [pk_un q] at hn ⊢; exact hz.2 h hh hn
    refine ⟨fun h hh => ?_, ?_, ?_, ?_, ?_, fun h hh => ?_, fun h hh => ?_, ?_, ?_, zr, ?_, hP.fnd.k (nX.2 38 0 13 (show (3813 : Nat) ∉ _ from by decide)) (nX.2 38 0 14 (show (3814 : Nat) ∉ _ from by decide)) (funext fun j9 => nX.2 47 0 j9 (show (4700 : Nat) ∉ _ from by decide)) (funext fun j9 => nM.2 37 0 j9 (show (3700 : Nat) ∉ _ from by decide)) (funext fun j9 => nM.2 38 0 j9 (show (3800 : Nat) ∉ _ from by decide)) (nM.2 0 0 55 (show (55 : Nat) ∉ _ from by decide)) (nM.2 0 0 56 (show (56 : Nat) ∉ _ from by decide))⟩
    · rw [x20, m22, m23]
      by_cases q : h = x.toNatClampNeg
      · rw [q, pk_us, pk_us, pk_us, if_neg (by decide)]
      · rw [pk_un q, pk_un q, pk_un q]; exact hP.hcl h hh
    · rw [x21, m24, hP.hnd]
    · rw [x22, m25, hP.hla]
    · rw [x23, m26, hP.hpl]
    · rw [x24, m27, hP.hdr, hR.date]
    · rw [m22, m23, m24]
      by_cases q : h = x.toNatClampNeg
      · rw [q, pk_us, pk_us, pk_us]; exact fun _ => ⟨by omega, by omega⟩
      · rw [pk_un q, pk_un q, pk_un q]; exact hP.hrg h hh
    · rw [m22]
      by_cases q : h = x.toNatClampNeg
      · rw [q, pk_us]; exact Or.inr rfl
      · rw [pk_un q]; exact hP.hbz h hh
    · rw [show ux 8 = sx 8 from (funext fun i9 => funext fun j9 => nX.2 8 i9 j9 (show (800 : Nat) ∉ _ from by decide)), show um 28 0 = sm 28 0 from (funext fun j9 => nM.2 28 0 j9 (show (2800 : Nat) ∉ _ from by decide))]; exact hP.way
    · rw [show um 28 0 = sm 28 0 from (funext fun j9 => nM.2 28 0 j9 (show (2800 : Nat) ∉ _ from by decide))]; exact hP.wrg
    · rw [show ux 38 0 11 = sx 38 0 11 from (nX.2 38 0 11 (show (3811 : Nat) ∉ _ from by decide)), show um 0 0 58 = sm 0 0 58 from (nM.2 0 0 58 (show (58 : Nat) ∉ _ from by decide))]; exact hP.far
  · exfalso; omega
  · exfalso; omega
  · exact hP.fr e f
set_option maxHeartbeats 1000000 in
theorem relp_drop {sx sm ux um : gS} {x : Int32} {rX rM : Int32} (hR : rAll sx sm) (hP : rPl sx sm) (hBX : gBd bX sx) (hBM : gBd bM sm) (nX : gBN bX kX [2000] sx ux) (nM : gBN bM kM [0, 2200] sm um)  (hX : PX_drop  sx ux x x.toInt rX) (hM : PM_drop  sm um x x.toInt rM) : rPl ux um := by
  have her : 0 ≤ x.toInt → x.toInt ≤ 3 → ((sx 20 0 x.toNatClampNeg).toInt = -1 ↔ (sm 22 0 x.toNatClampNeg).toInt = 0) := fun h0 h3 => hP.her (by have := gs_cl h0; omega)
  rcases hX with ⟨_, a0, a3, an, x20⟩ | ⟨_, a, e⟩ <;> rcases hM with ⟨_, b0, b3, bn, m22⟩ | ⟨_, b, f⟩
  · have e5 : ux 5 0 = sx 5 0 := (funext fun j9 => nX.2 5 0 j9 (show (500 : Nat) ∉ _ from by decide))
    have hz := hP.zr
    have zr : zrX ux := by
      refine ⟨fun i w9 hi hw hn => ?_, fun h hh hn => ?_⟩
      · rw [e5] at hn
        rw [show ux 13 = sx 13 from (funext fun i9 => funext fun j9 => nX.2 13 i9 j9 (show (1300 : Nat) ∉ _ from by decide)), show ux 14 = sx 14 from (funext fun i9 => funext fun j9 => nX.2 14 i9 j9 (show (1400 : Nat) ∉ _ from by decide))]
        exact hz.1 i w9 hi hw hn
      · rw [x20] at hn
        rw [show ux 21 0 = sx 21 0 from (funext fun j9 => nX.2 21 0 j9 (show (2100 : Nat) ∉ _ from by decide))]
        by_cases q : h = x.toNatClampNeg
        · rw [q, pk_us] at hn; exact absurd (by decide) hn
        · rw [pk_un q] at hn; exact hz.2 h hh hn
    refine ⟨fun h hh => ?_, ?_, ?_, ?_, ?_, fun h hh => ?_, fun h hh => ?_, ?_, ?_, zr, ?_, hP.fnd.k (nX.2 38 0 13 (show (3813 : Nat) ∉ _ from by decide)) (nX.2 38 0 14 (show (3814 : Nat) ∉ _ from by decide)) (funext fun j9 => nX.2 47 0 j9 (show (4700 : Nat) ∉ _ from by decide)) (funext fun j9 => nM.2 37 0 j9 (show (3700 : Nat) ∉ _ from by decide)) (funext fun j9 => nM.2 38 0 j9 (show (3800 : Nat) ∉ _ from by decide)) (nM.2 0 0 55 (show (55 : Nat) ∉ _ from by decide)) (nM.2 0 0 56 (show (56 : Nat) ∉ _ from by decide))⟩
    · rw [x20, m22, show um 23 0 = sm 23 0 from (funext fun j9 => nM.2 23 0 j9 (show (2300 : Nat) ∉ _ from by decide))]
      by_cases q : h = x.toNatClampNeg
      · rw [q, pk_us, pk_us, if_pos (by decide)]; decide
      · rw [pk_un q, pk_un q]; exact hP.hcl h hh
    · rw [show ux 21 0 = sx 21 0 from (funext fun j9 => nX.2 21 0 j9 (show (2100 : Nat) ∉ _ from by decide)), show um 24 0 = sm 24 0 from (funext fun j9 => nM.2 24 0 j9 (show (2400 : Nat) ∉ _ from by decide))]; exact hP.hnd
    · rw [show ux 22 0 = sx 22 0 from (funext fun j9 => nX.2 22 0 j9 (show (2200 : Nat) ∉ _ from by decide)), show um 25 0 = sm 25 0 from (funext fun j9 => nM.2 25 0 j9 (show (2500 : Nat) ∉ _ from by decide))]; exact hP.hla
    · rw [show ux 23 0 = sx 23 0 from (funext fun j9 => nX.2 23 0 j9 (show (2300 : Nat) ∉ _ from by decide)), show um 26 0 = sm 26 0 from (funext fun j9 => nM.2 26 0 j9 (show (2600 : Nat) ∉ _ from by decide))]; exact hP.hpl
    · rw [show ux 24 0 = sx 24 0 from (funext fun j9 => nX.2 24 0 j9 (show (2400 : Nat) ∉ _ from by decide)), show um 27 0 = sm 27 0 from (funext fun j9 => nM.2 27 0 j9 (show (2700 : Nat) ∉ _ from by decide))]; exact hP.hdr
    · rw [m22, show um 23 0 = sm 23 0 from (funext fun j9 => nM.2 23 0 j9 (show (2300 : Nat) ∉ _ from by decide)), show um 24 0 = sm 24 0 from (funext fun j9 => nM.2 24 0 j9 (show (2400 : Nat) ∉ _ from by decide))]
      by_cases q : h = x.toNatClampNeg
      · rw [q, pk_us]; exact fun z => absurd (by decide) z
      · rw [pk_un q]; exact hP.hrg h hh
    · rw [m22]
      by_cases q : h = x.toNatClampNeg
      · rw [q, pk_us]; exact Or.inl (by decide)
      · rw [pk_un q]; exact hP.hbz h hh
    · rw [show ux 8 = sx 8 from (funext fun i9 => funext fun j9 => nX.2 8 i9 j9 (show (800 : Nat) ∉ _ from by decide)), show um 28 0 = sm 28 0 from (funext fun j9 => nM.2 28 0 j9 (show (2800 : Nat) ∉ _ from by decide))]; exact hP.way
    · rw [show um 28 0 = sm 28 0 from (funext fun j9 => nM.2 28 0 j9 (show (2800 : Nat) ∉ _ from by decide))]; exact hP.wrg
    · rw [show ux 38 0 11 = sx 38 0 11 from (nX.2 38 0 11 (show (3811 : Nat) ∉ _ from by decide)), show um 0 0 58 = sm 0 0 58 from (nM.2 0 0 58 (show (58 : Nat) ∉ _ from by decide))]; exact hP.far
  · have := her a0 a3; exfalso; omega
  · have := her b0 b3; exfalso; omega
  · exact hP.fr e f
set_option maxHeartbeats 1000000 in
theorem relp_way {sx sm ux um : gS} {x : Int32} {y : Int32} {w : Int32} {rX rM : Int32} (hR : rAll sx sm) (hP : rPl sx sm) (hBX : gBd bX sx) (hBM : gBd bM sm) (nX : gBN bX kX [800] sx ux) (nM : gBN bM kM [0, 2800] sm um)  (hX : PX_way  sx ux x y w x.toInt y.toInt w.toInt rX) (hM : PM_way  sm um x y w x.toInt y.toInt w.toInt rM) : rPl ux um := by
  rcases hX with ⟨_, a, e⟩ | ⟨_, a, e⟩ <;> rcases hM with ⟨_, b, m28⟩ | ⟨_, b, f⟩
  · have cx := gs_cl (x := x) a.1
    have cy := gs_cl (x := y) a.2.2.1
    have zr : zrX ux := zrX.fr hP.zr (funext fun j9 => nX.2 5 0 j9 (show (500 : Nat) ∉ _ from by decide)) (funext fun i9 => funext fun j9 => nX.2 13 i9 j9 (show (1300 : Nat) ∉ _ from by decide)) (funext fun i9 => funext fun j9 => nX.2 14 i9 j9 (show (1400 : Nat) ∉ _ from by decide)) (funext fun j9 => nX.2 20 0 j9 (show (2000 : Nat) ∉ _ from by decide)) (funext fun j9 => nX.2 21 0 j9 (show (2100 : Nat) ∉ _ from by decide))
    refine ⟨?_, ?_, ?_, ?_, ?_, ?_, ?_, fun i j hi hj => ?_, fun j hj => ?_, zr, ?_, hP.fnd.k (nX.2 38 0 13 (show (3813 : Nat) ∉ _ from by decide)) (nX.2 38 0 14 (show (3814 : Nat) ∉ _ from by decide)) (funext fun j9 => nX.2 47 0 j9 (show (4700 : Nat) ∉ _ from by decide)) (funext fun j9 => nM.2 37 0 j9 (show (3700 : Nat) ∉ _ from by decide)) (funext fun j9 => nM.2 38 0 j9 (show (3800 : Nat) ∉ _ from by decide)) (nM.2 0 0 55 (show (55 : Nat) ∉ _ from by decide)) (nM.2 0 0 56 (show (56 : Nat) ∉ _ from by decide))⟩
    · rw [show ux 20 0 = sx 20 0 from (funext fun j9 => nX.2 20 0 j9 (show (2000 : Nat) ∉ _ from by decide)), show um 22 0 = sm 22 0 from (funext fun j9 => nM.2 22 0 j9 (show (2200 : Nat) ∉ _ from by decide)), show um 23 0 = sm 23 0 from (funext fun j9 => nM.2 23 0 j9 (show (2300 : Nat) ∉ _ from by decide))]; exact hP.hcl
    · rw [show ux 21 0 = sx 21 0 from (funext fun j9 => nX.2 21 0 j9 (show (2100 : Nat) ∉ _ from by decide)), show um 24 0 = sm 24 0 from (funext fun j9 => nM.2 24 0 j9 (show (2400 : Nat) ∉ _ from by decide))]; exact hP.hnd
    · rw [show ux 22 0 = sx 22 0 from (funext fun j9 => nX.2 22 0 j9 (show (2200 : Nat) ∉ _ from by decide)), show um 25 0 = sm 25 0 from (funext fun j9 => nM.2 25 0 j9 (show (2500 : Nat) ∉ _ from by decide))]; exact hP.hla
    · rw [show ux 23 0 = sx 23 0 from (funext fun j9 => nX.2 23 0 j9 (show (2300 : Nat) ∉ _ from by decide)), show um 26 0 = sm 26 0 from (funext fun j9 => nM.2 26 0 j9 (show (2600 : Nat) ∉ _ from by decide))]; exact hP.hpl
    · rw [show ux 24 0 = sx 24 0 from (funext fun j9 => nX.2 24 0 j9 (show (2400 : Nat) ∉ _ from by decide)), show um 27 0 = sm 27 0 from (funext fun j9 => nM.2 27 0 j9 (show (2700 : Nat) ∉ _ from by decide))]; exact hP.hdr
    · rw [show um 22 0 = sm 22 0 from (funext fun j9 => nM.2 22 0 j9 (show (2200 : Nat) ∉ _ from by decide)), show um 23 0 = sm 23 0 from (funext fun j9 => nM.2 23 0 j9 (show (2300 : Nat) ∉ _ from by decide)), show um 24 0 = sm 24 0 from (funext fun j9 => nM.2 24 0 j9 (show (2400 : Nat) ∉ _ from by decide))]; exact hP.hrg
    · rw [show um 22 0 = sm 22 0 from (funext fun j9 => nM.2 22 0 j9 (show (2200 : Nat) ∉ _ from by decide))]; exact hP.hbz
    · rw [e, m28]
      by_cases q : i = x.toNatClampNeg
      · rw [q]
        by_cases q2 : j = y.toNatClampNeg
        · rw [q2, gU_same, pk_us]
        · rw [gU_other q2, pk_un (by omega)]; exact hP.way _ _ (by omega) hj
      · rw [congrFun (gU_ne (fun z => q z.2)) j, pk_un (by omega)]; exact hP.way i j hi hj
    · rw [m28]
      by_cases q : j = 6 * x.toNatClampNeg + y.toNatClampNeg
      · rw [q, pk_us]; exact ⟨by omega, by omega⟩
      · rw [pk_un q]; exact hP.wrg j hj
    · rw [show ux 38 0 11 = sx 38 0 11 from (nX.2 38 0 11 (show (3811 : Nat) ∉ _ from by decide)), show um 0 0 58 = sm 0 0 58 from (nM.2 0 0 58 (show (58 : Nat) ∉ _ from by decide))]; exact hP.far
  · exact absurd a b
  · exact absurd b a
  · exact hP.fr e f