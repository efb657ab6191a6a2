theorem st_machine {go : Int32} {cnt : Int32} {vec : Int32} {k1 : Int32} {r1 : Int32} {cnt2 : Int32} {vec2 : Int32} {fS2 : Nat → Int32} {fS : Nat → Int32} {nc : Nat} {fC2 : Nat → Int32} {fC : Nat → Int32} {fT2 : Nat → Int32} {fT : Nat → Int32} {us2 : Int32} {sv2 : Value} {go2 : Int32} {ak2 : Int32} {be2 : Int32} {bw2 : Int64} {pt2 : Int32} {ln2 : Int32} {us : Int32} {sv : Value} {ak : Int32} {be : Int32} {bw : Int64} {pt : Int32} {ln : Int32} {rg : Int32} {rc : Int32} {rv : Int32} {r2 : Int32} {rc2 : Int32} {rv2 : Int32} {uS2 : Nat → Int32} {uS : Nat → Int32} {uC2 : Nat → Int32} {uC : Nat → Int32} {uK2 : Nat → Int32} {uK : Nat → Int32} {rf2 : Int32} {rd2 : Int32} {re2 : Int32} {rb2 : Int32} {rf : Int32} {rd : Int32} {re : Int32} {rb : Int32} {np : Nat} {pu : Int32} {rp : Int32} {fPo : Nat → Int32} {fKi : Nat → Int32} {fAb : Nat → Int32} {fBe : Nat → Int32} {fM : Nat → Int32} {uCe : Nat → Int32} {uA : Nat → Int32} {uB : Nat → Int32} {uM : Nat → Int32} {FD : Nat → Int64} {uG : Nat → Int32} {CT : Nat → Int32} {FK : Nat → Nat → Int32} {n0 : Nat} {AA : Nat → Nat} {rl : Int32} {rq : Int32} {rz : Int64} {fOr : Nat → Int32} {uO : Nat → Int32} {nv : Nat} {nf : Nat} (h_M : i_M nc nv cnt vec rc rv fS fC fT uS uC) (h_R : i_R np nc pu rp fPo fKi fAb fBe fM uCe uA uB uM) (h_F : i_F nf us rf FD uG) (h_K : i_K nf nv CT FK uK) (h_S : i_S nf nv n0 AA sv go ak be bw pt ln rd rg re rl rq rb rz fOr uO)  (h1 : (go = 0 ∧ q_addOk cnt vec k1 ∧ r1 = cnt ∧ cnt2 = cnt + 1 ∧ vec2 = vec * k1 ∧ fS2 = upd fS nc k1 ∧ fC2 = upd fC nc 0 ∧ fT2 = q_fill (upd fS nc k1) (nc + 1) fT ((vec * k1).toNatClampNeg - 1) ∧ us2 = 0 ∧ sv2 = .null ∧ go2 = 0 ∧ ak2 = -1 ∧ be2 = -1 ∧ bw2 = (-9223372036854775808) ∧ pt2 = 0 ∧ ln2 = 0) ∨ ((¬ go = 0 ∨ ¬ q_addOk cnt vec k1) ∧ r1 = -1 ∧ cnt2 = cnt ∧ vec2 = vec ∧ fS2 = fS ∧ fC2 = fC ∧ fT2 = fT ∧ us2 = us ∧ sv2 = sv ∧ go2 = go ∧ ak2 = ak ∧ be2 = be ∧ bw2 = bw ∧ pt2 = pt ∧ ln2 = ln)) (h2 : (rg = 0 ∧ q_addOk rc rv k1 ∧ r2 = rc ∧ rc2 = rc + 1 ∧ rv2 = rv * k1 ∧ uS2 = upd uS nc k1 ∧ uC2 = upd uC nc 0 ∧ uK2 = q_z uK 0 256 ∧ rf2 = 0 ∧ rd2 = -1 ∧ re2 = 0 ∧ rb2 = -1) ∨ (¬ (rg = 0 ∧ q_addOk rc rv k1) ∧ r2 = -1 ∧ rc2 = rc ∧ rv2 = rv ∧ uS2 = uS ∧ uC2 = uC ∧ uK2 = uK ∧ rf2 = rf ∧ rd2 = rd ∧ re2 = re ∧ rb2 = rb)) : r1 = r2 ∧ ∃ nc2 nv2 nf2 : Nat, i_M nc2 nv2 cnt2 vec2 rc2 rv2 fS2 fC2 fT2 uS2 uC2 ∧ i_R np nc2 pu rp fPo fKi fAb fBe fM uCe uA uB uM ∧ i_F nf2 us2 rf2 FD uG ∧ i_K nf2 nv2 CT FK uK2 ∧ i_S nf2 nv2 n0 AA sv2 go2 ak2 be2 bw2 pt2 ln2 rd2 rg re2 rl rq rb2 rz fOr uO := by
  obtain ⟨e1, e2, hnc, e3, e4, h5, h6, e7, e8, hS, hT⟩ := id h_M
  obtain ⟨s1, s2, s3, s4, s5, s6, s7⟩ := id h_S
  have er : rc = cnt := e2.trans e1.symm
  have ev : rv = vec := e4.trans e3.symm
  rw [s1, er, ev] at h2
  by_cases q : go = 0 ∧ q_addOk cnt vec k1
  · obtain ⟨a1, a2, a3, a4, a5, a6, a7, a8, a9, b1, b2, b3, b4, b5, b6, b7⟩ := h1.resolve_right (fun z => z.1.elim (fun w => w q.1) (fun w => w q.2))
    obtain ⟨c1, c2, c3, c4, c5, c6, c7, c8, c9, d1, d2, d3⟩ := h2.resolve_right (fun z => z.1 q)
    obtain ⟨f1, kk, f2, f3, f4, f5, f6⟩ := q_add_fit a2 e1 e3 hnc h6 h5
    have hS2 : q_okS (upd fS nc k1) (nc + 1) := by
      intro j hj
      rw [e_upd]
      by_cases w : j = nc
      · rw [if_pos w, f2, nI_clamp (by omega)]; exact ⟨rfl, f3, f4⟩
      · rw [if_neg w]; exact hS j (by omega)
    have hak := i_S_go0 h_S q.1
    refine ⟨by rw [a3, c3], nc + 1, nv * kk, 0, ⟨by rw [a4, e1]; exact nI_1 nc, by rw [c4, e1]; exact nI_1 nc, f1, by rw [a5]; exact f5, by rw [c5]; exact f5, by have := Nat.mul_le_mul h5 f3; omega, f6, by rw [a6, c6, e7], by rw [a7, c7, e8], by rw [a6]; exact hS2, ?_⟩, ?_, ⟨by rw [a9]; rfl, by rw [c9]; rfl, Nat.zero_le _, fun j hj => absurd hj (Nat.not_lt_zero _)⟩, ⟨fun j hj => absurd hj (Nat.not_lt_zero _), fun j hj => absurd hj (Nat.not_lt_zero _), fun j _ hj v hv => ?_⟩, ?_⟩
    · have w := e_fill (T := fT) f1 hS2 hT.2 (nv * kk - 1)
      rw [a8, f5, nI_clamp (by omega), a6]
      have w1 : 1 ≤ nv * kk := by have := Nat.mul_le_mul h5 f3; omega
      exact ⟨fun v hv m hm => w.1 v (by omega) m hm, w.2⟩
    · obtain ⟨g1, g2, g3, g4, g5, g6, g7⟩ := h_R
      exact ⟨g1, g2, g3, ⟨g4.1, g4.2.1, g4.2.2.1, fun j hj => g4.2.2.2 j (by omega)⟩, g5, g6, g7⟩
    · rw [c8, e_z, if_pos (by omega)]
    · refine ⟨by rw [s1, q.1, b2], Or.inl b2, by rw [s3, hak, b3], s4, Or.inl b3, Or.inl ⟨b4, d3, b5⟩, Or.inl ⟨b1, d1, b2, d2, b4⟩⟩
  · obtain ⟨a1, a3, a4, a5, a6, a7, a8, a9, b1, b2, b3, b4, b5, b6, b7⟩ := h1.resolve_left (fun z => q ⟨z.1, z.2.1⟩)
    obtain ⟨c1, c3, c4, c5, c6, c7, c8, c9, d1, d2, d3⟩ := h2.resolve_left (fun z => q ⟨z.1, z.2.1⟩)
    subst a4 a5 a6 a7 a8 a9 b1 b2 b3 b4 b5 b6 b7 c6 c7 c8 c9 d1 d2 d3
    exact ⟨by rw [a3, c3], nc, nv, nf, by rw [c4, c5]; rw [er, ev] at h_M; exact h_M, h_R, h_F, h_K, h_S⟩
theorem st_worth {go : Int32} {p1 : Int32} {k1 : Int32} {x1 : Int32} {r1 : Int32} {fW2 : Nat → Int32} {fW : Nat → Int32} {rg : Int32} {r2 : Int32} {uW2 : Nat → Int32} {uW : Nat → Int32} (h_W : i_W fW uW) (hgo : rg = go) (h1 : ((go = 0 ∧ ¬ q_pl p1 k1 = -1 ∧ ¬ x1 < -1000 ∧ x1 ≤ 1000) ∧ r1 = 1 ∧ fW2 = upd fW (q_pl p1 k1).toNatClampNeg x1) ∨ (¬ (go = 0 ∧ ¬ q_pl p1 k1 = -1 ∧ ¬ x1 < -1000 ∧ x1 ≤ 1000) ∧ r1 = 0 ∧ fW2 = fW)) (h2 : ((rg = 0 ∧ ¬ q_pl p1 k1 = -1 ∧ ¬ x1 < -1000 ∧ x1 ≤ 1000) ∧ r2 = 1 ∧ uW2 = upd uW (q_pl p1 k1).toNatClampNeg x1) ∨ (¬ (rg = 0 ∧ ¬ q_pl p1 k1 = -1 ∧ ¬ x1 < -1000 ∧ x1 ≤ 1000) ∧ r2 = 0 ∧ uW2 = uW)) : r1 = r2 ∧ i_W fW2 uW2 := by
  obtain ⟨e1, e2⟩ := id h_W
  rw [hgo] at h2
  by_cases q : (go = 0 ∧ ¬ q_pl p1 k1 = -1 ∧ ¬ x1 < -1000 ∧ x1 ≤ 1000)
  · obtain ⟨_, a, b⟩ := h1.resolve_right (fun z => z.1 q)
    obtain ⟨_, d, e⟩ := h2.resolve_right (fun z => z.1 q)
    refine ⟨by rw [a, d], by rw [b, e, e1], fun j hj => ?_⟩
    rw [b, e_upd]
    by_cases w : j = (q_pl p1 k1).toNatClampNeg
    · rw [if_pos w]; exact q.2.2.2
    · rw [if_neg w]; exact e2 j hj
  · obtain ⟨_, a, b⟩ := h1.resolve_left (fun z => q z.1)
    obtain ⟨_, d, e⟩ := h2.resolve_left (fun z => q z.1)
    exact ⟨by rw [a, d], by rw [b, e]; exact h_W⟩
theorem st_purity {go : Int32} {p1 : Int32} {k1 : Int32} {pu : Int32} {o1 : Int32} {u1 : Int32} {r1 : Int32} {pu2 : Int32} {fPo2 : Nat → Int32} {fPo : Nat → Int32} {np : Nat} {fKi2 : Nat → Int32} {fKi : Nat → Int32} {fAb2 : Nat → Int32} {fAb : Nat → Int32} {fBe2 : Nat → Int32} {fBe : Nat → Int32} {rg : Int32} {rp : Int32} {r2 : Int32} {rp2 : Int32} {uCe2 : Nat → Int32} {uCe : Nat → Int32} {uA2 : Nat → Int32} {uA : Nat → Int32} {uB2 : Nat → Int32} {uB : Nat → Int32} {nc : Nat} {fM : Nat → Int32} {uM : Nat → Int32} (h_R : i_R np nc pu rp fPo fKi fAb fBe fM uCe uA uB uM) (hgo : rg = go) (h1 : (go = 0 ∧ ¬ q_pl p1 k1 = -1 ∧ ((q_puOk pu o1 u1 ∧ r1 = pu ∧ pu2 = pu + 1 ∧ fPo2 = upd fPo np p1 ∧ fKi2 = upd fKi np k1 ∧ fAb2 = upd fAb np o1 ∧ fBe2 = upd fBe np u1) ∨ (¬ q_puOk pu o1 u1 ∧ r1 = -1 ∧ pu2 = pu ∧ fPo2 = fPo ∧ fKi2 = fKi ∧ fAb2 = fAb ∧ fBe2 = fBe))) ∨ ((¬ go = 0 ∨ q_pl p1 k1 = -1) ∧ r1 = -1 ∧ pu2 = pu ∧ fPo2 = fPo ∧ fKi2 = fKi ∧ fAb2 = fAb ∧ fBe2 = fBe)) (h2 : ((rg = 0 ∧ ¬ q_pl p1 k1 = -1 ∧ q_puOk rp o1 u1) ∧ r2 = rp ∧ rp2 = rp + 1 ∧ uCe2 = upd uCe np (q_pl p1 k1) ∧ uA2 = upd uA np o1 ∧ uB2 = upd uB np u1) ∨ (¬ (rg = 0 ∧ ¬ q_pl p1 k1 = -1 ∧ q_puOk rp o1 u1) ∧ r2 = -1 ∧ rp2 = rp ∧ uCe2 = uCe ∧ uA2 = uA ∧ uB2 = uB)) : r1 = r2 ∧ ∃ np2 : Nat, i_R np2 nc pu2 rp2 fPo2 fKi2 fAb2 fBe2 fM uCe2 uA2 uB2 uM := by
  obtain ⟨e1, e2, hnp, hr, e3, e4, e5⟩ := id h_R
  have er : rp = pu := e2.trans e1.symm
  rw [hgo, er] at h2
  by_cases q : (go = 0 ∧ ¬ q_pl p1 k1 = -1 ∧ q_puOk pu o1 u1)
  · obtain ⟨_, _, w⟩ := h1.resolve_right (fun z => z.1.elim (fun y => y q.1) (fun y => q.2.1 y))
    obtain ⟨_, a1, a2, a3, a4, a5, a6⟩ := w.resolve_right (fun z => z.1 q.2.2)
    obtain ⟨_, b1, b2, b3, b4, b5⟩ := h2.resolve_right (fun z => z.1 q)
    have hk := q_pl_ok q.2.1
    have hlt : np < 4 := lp_lt (N := 4) q.2.2.1 e1 rfl (by omega)
    have i1 := ix_ge hk.1
    have i2 := ix_ge hk.2.2.1
    refine ⟨by rw [a1, b1], np + 1, by rw [a2, e1]; exact nI_1 np, by rw [b2, e1]; exact nI_1 np, by omega, ⟨fun j hj => ?_, fun j hj => ?_, hr.2.2⟩, by rw [a5, b4, e3], by rw [a6, b5, e4], e5⟩
    · rw [a3, a4, e_upd, e_upd]
      by_cases w2 : j = np
      · rw [if_pos w2, if_pos w2]; exact ⟨⟨i1, hk.2.2.2.2.2.2.2.1⟩, ⟨i2, hk.2.2.2.2.2.2.2.2⟩⟩
      · rw [if_neg w2, if_neg w2]; exact hr.1 j (by omega)
    · rw [a3, a4, b3, e_upd, e_upd, e_upd]
      by_cases w2 : j = np
      · rw [if_pos w2, if_pos w2, if_pos w2]; exact hk.2.2.2.2.2.2.1
      · rw [if_neg w2, if_neg w2, if_neg w2]; exact hr.2.1 j (by omega)
  · obtain ⟨_, b1, b2, b3, b4, b5⟩ := h2.resolve_left (fun z => q z.1)
    have w : r1 = -1 ∧ pu2 = pu ∧ fPo2 = fPo ∧ fKi2 = fKi ∧ fAb2 = fAb ∧ fBe2 = fBe := by
      rcases h1 with ⟨x1, x2, x3⟩ | ⟨_, x3⟩
      · exact (x3.resolve_left (fun z => q ⟨x1, x2, z.1⟩)).2
      · exact x3
    obtain ⟨a1, a2, a3, a4, a5, a6⟩ := w
    exact ⟨by rw [a1, b1], np, by rw [a2, a3, a4, a5, a6, b2, b3, b4, b5]; rw [er] at h_R; exact h_R⟩
theorem st_most {go : Int32} {m1 : Int32} {cnt : Int32} {x1 : Int32} {r1 : Int32} {fM2 : Nat → Int32} {fM : Nat → Int32} {rg : Int32} {rc : Int32} {r2 : Int32} {uM2 : Nat → Int32} {uM : Nat → Int32} {np : Nat} {nc : Nat} {pu : Int32} {rp : Int32} {fPo : Nat → Int32} {fKi : Nat → Int32} {fAb : Nat → Int32} {fBe : Nat → Int32} {uCe : Nat → Int32} {uA : Nat → Int32} {uB : Nat → Int32} (h_R : i_R np nc pu rp fPo fKi fAb fBe fM uCe uA uB uM) (hgo : rg = go) (hrc2 : rc = cnt) (hcn : cnt = nI nc) (hnc : nc ≤ 5) (h1 : ((go = 0 ∧ ¬ m1 < 0 ∧ ¬ cnt ≤ m1 ∧ ¬ x1 < -1 ∧ x1 ≤ 1000000) ∧ r1 = 1 ∧ fM2 = upd fM m1.toNatClampNeg x1) ∨ (¬ (go = 0 ∧ ¬ m1 < 0 ∧ ¬ cnt ≤ m1 ∧ ¬ x1 < -1 ∧ x1 ≤ 1000000) ∧ r1 = 0 ∧ fM2 = fM)) (h2 : ((rg = 0 ∧ ¬ m1 < 0 ∧ ¬ rc ≤ m1 ∧ ¬ x1 < -1 ∧ x1 ≤ 1000000) ∧ r2 = 1 ∧ uM2 = upd uM m1.toNatClampNeg x1) ∨ (¬ (rg = 0 ∧ ¬ m1 < 0 ∧ ¬ rc ≤ m1 ∧ ¬ x1 < -1 ∧ x1 ≤ 1000000) ∧ r2 = 0 ∧ uM2 = uM)) : r1 = r2 ∧ i_R np nc pu rp fPo fKi fAb fBe fM2 uCe uA uB uM2 := by
  obtain ⟨e1, e2, hnp, hr, e3, e4, e5⟩ := id h_R
  rw [hgo, hrc2] at h2
  by_cases q : (go = 0 ∧ ¬ m1 < 0 ∧ ¬ cnt ≤ m1 ∧ ¬ x1 < -1 ∧ x1 ≤ 1000000)
  · obtain ⟨_, a, b⟩ := h1.resolve_right (fun z => z.1 q)
    obtain ⟨_, d, e⟩ := h2.resolve_right (fun z => z.1 q)
    have hm := ix_lt q.2.1 q.2.2.1 hcn (by omega)
    refine ⟨by rw [a, d], e1, e2, hnp, ⟨hr.1, hr.2.1, fun j hj => ?_, fun j hj hj5 => ?_⟩, e3, e4, by rw [b, e, e5]⟩
    · rw [b, e_upd]
      by_cases w : j = m1.toNatClampNeg
      · rw [if_pos w]
        by_cases y : x1 < 0
        · refine Or.inl ?_
          have y1 := Int32.lt_iff_toInt_lt.mp y
          have y2 : ¬ x1.toInt < (-1 : Int32).toInt := fun z => q.2.2.2.1 (Int32.lt_iff_toInt_lt.mpr z)
          have t0 : (0 : Int32).toInt = 0 := by decide
          have t1 : (-1 : Int32).toInt = -1 := by decide
          exact Int32.toInt_inj.mp (by omega)
        · exact Or.inr y
      · rw [if_neg w]; exact hr.2.2.1 j hj
    · rw [b, e_upd, if_neg (by omega)]; exact hr.2.2.2 j hj hj5
  · obtain ⟨_, a, b⟩ := h1.resolve_left (fun z => q z.1)
    obtain ⟨_, d, e⟩ := h2.resolve_left (fun z => q z.1)
    exact ⟨by rw [a, d], by rw [b, e]; exact h_R⟩
