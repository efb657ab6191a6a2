theorem e_4 {α : Type} (F : Nat → α) : ∀ j, j < 4 → q_4 (F 0) (F 1) (F 2) (F 3) j = F j := by
  intro j hj
  rcases (show j = 0 ∨ j = 1 ∨ j = 2 ∨ j = 3 by omega) with rfl | rfl | rfl | rfl <;> rfl
theorem e_kc0 {uK : Nat → Int32} {b : Nat} : ∀ {n : Nat}, (∀ v, v < n → uK (b + v) = 0) → q_kc uK b n = 0
  | 0, _ => rfl
  | n + 1, h => by
    simp only [q_kc]
    rw [e_kc0 (fun v hv => h v (by omega)), if_pos (h n (by omega))]
    rfl
theorem e_fa_up {uG : Nat → Int32} {g : Int64} {nf : Nat} {y : Int32} (hnf : nf ≤ 4) (hy : y.toInt64 = g) : ∀ n j, n + j = nf → q_fa uG g n j = -1 → q_fa (upd uG nf y) g (n + 1) j = nI nf
  | 0, j, h, _ => by
    rw [q_fa, e_upd, if_pos (show j = nf by omega), if_pos hy, show j = nf by omega]
  | n + 1, j, h, q => by
    rw [q_fa] at q
    by_cases c : (uG j).toInt64 = g
    · rw [if_pos c] at q
      exact absurd q (e_nIm1 (by omega))
    · rw [if_neg c] at q
      rw [q_fa, e_upd, if_neg (show ¬ j = nf by omega), if_neg c]
      exact e_fa_up hnf hy n (j + 1) (by omega) q
theorem st_feed {go : Int32} {g1 : Int64} {cnt : Int32} {us : Int32} {FD : Nat → Int64} {AA : Nat → Nat} {us2 : Int32} {fe0 : Int64} {fe1 : Int64} {fe2 : Int64} {fe3 : Int64} {cu0 : Int32} {CT : Nat → Int32} {cu1 : Int32} {cu2 : Int32} {cu3 : Int32} {fL0 : Nat → Int32} {FK : Nat → Nat → Int32} {fL1 : Nat → Int32} {fL2 : Nat → Int32} {fL3 : Nat → Int32} {nf : Nat} {r1 : Int32} {sv2 : Value} {sv : Value} {go2 : Int32} {ak2 : Int32} {ak : Int32} {be2 : Int32} {be : Int32} {bw2 : Int64} {bw : Int64} {pt2 : Int32} {pt : Int32} {ln2 : Int32} {ln : Int32} {fOr2 : Nat → Int32} {fOr : Nat → Int32} {vec : Int32} {fT : Nat → Int32} {fC : Nat → Int32} {nc : Nat} {nv : Nat} {rg : Int32} {rc : Int32} {uG : Nat → Int32} {rf : Int32} {r2 : Int32} {uG2 : Nat → Int32} {rf2 : Int32} {rd2 : Int32} {rl2 : Int32} {rq2 : Int32} {rb2 : Int32} {rg2 : Int32} {re2 : Int32} {uO2 : Nat → Int32} {uS : Nat → Int32} {uC : Nat → Int32} {uO : Nat → Int32} {rd : Int32} {rl : Int32} {rq : Int32} {rb : Int32} {re : Int32} {uK : Nat → Int32} {rz : Int64} {rv : Int32} {fS : Nat → Int32} {n0 : Nat} (h_M : i_M nc nv cnt vec rc rv fS fC fT uS uC) (h_F : i_F nf us rf FD uG) (h_K : i_K nf nv CT FK uK) (h_S : i_S nf nv n0 AA sv go ak be bw pt ln rd rg re rl rq rb rz fOr uO)  (h1 : ((go = 0 ∧ ¬ g1 < 1 ∧ ¬ 1000000 < g1 ∧ ¬ cnt = 0) ∧ ∃ ro : Option Nat, (((∃ j, q_find us (FD 0) (FD 1) (FD 2) (FD 3) g1 = some j ∧ j < 4 ∧ ro = some (q_4 (AA 0) (AA 1) (AA 2) (AA 3) j)) ∧ us2 = us ∧ fe0 = (FD 0) ∧ fe1 = (FD 1) ∧ fe2 = (FD 2) ∧ fe3 = (FD 3) ∧ cu0 = (CT 0) ∧ cu1 = (CT 1) ∧ cu2 = (CT 2) ∧ cu3 = (CT 3) ∧ fL0 = (FK 0) ∧ fL1 = (FK 1) ∧ fL2 = (FK 2) ∧ fL3 = (FK 3)) ∨ (q_find us (FD 0) (FD 1) (FD 2) (FD 3) g1 = none ∧ ¬ nf < 4 ∧ ro = none ∧ us2 = us ∧ fe0 = (FD 0) ∧ fe1 = (FD 1) ∧ fe2 = (FD 2) ∧ fe3 = (FD 3) ∧ cu0 = (CT 0) ∧ cu1 = (CT 1) ∧ cu2 = (CT 2) ∧ cu3 = (CT 3) ∧ fL0 = (FK 0) ∧ fL1 = (FK 1) ∧ fL2 = (FK 2) ∧ fL3 = (FK 3)) ∨ (q_find us (FD 0) (FD 1) (FD 2) (FD 3) g1 = none ∧ nf < 4 ∧ ro = some (q_4 (AA 0) (AA 1) (AA 2) (AA 3) nf) ∧ us2 = us + 1 ∧ (∀ j, j < 4 → q_4 fe0 fe1 fe2 fe3 j = if j = nf then g1 else q_4 (FD 0) (FD 1) (FD 2) (FD 3) j) ∧ (∀ j, j < 4 → q_4 cu0 cu1 cu2 cu3 j = if j = nf then 0 else q_4 (CT 0) (CT 1) (CT 2) (CT 3) j) ∧ (∀ j, j < 4 → q_4 fL0 fL1 fL2 fL3 j = if j = nf then q_z (q_4 (FK 0) (FK 1) (FK 2) (FK 3) nf) 0 64 else q_4 (FK 0) (FK 1) (FK 2) (FK 3) j))) ∧ ((ro = none ∧ r1 = 0 ∧ sv2 = sv ∧ go2 = go ∧ ak2 = ak ∧ be2 = be ∧ bw2 = bw ∧ pt2 = pt ∧ ln2 = ln ∧ fOr2 = fOr) ∨ (∃ aY : Nat, ro = some aY ∧ r1 = 1 ∧ sv2 = .ref aY ∧ go2 = 1 ∧ ak2 = -1 ∧ be2 = -1 ∧ bw2 = (-9223372036854775808) ∧ pt2 = 0 ∧ ln2 = nI (q_out (q_kk cnt vec fT fC nc) nv fOr (nc + 1)).2 ∧ fOr2 = (q_out (q_kk cnt vec fT fC nc) nv fOr (nc + 1)).1))) ∨ (¬ (go = 0 ∧ ¬ g1 < 1 ∧ ¬ 1000000 < g1 ∧ ¬ cnt = 0) ∧ r1 = 0 ∧ us2 = us ∧ fe0 = (FD 0) ∧ fe1 = (FD 1) ∧ fe2 = (FD 2) ∧ fe3 = (FD 3) ∧ cu0 = (CT 0) ∧ cu1 = (CT 1) ∧ cu2 = (CT 2) ∧ cu3 = (CT 3) ∧ fL0 = (FK 0) ∧ fL1 = (FK 1) ∧ fL2 = (FK 2) ∧ fL3 = (FK 3) ∧ sv2 = sv ∧ go2 = go ∧ ak2 = ak ∧ be2 = be ∧ bw2 = bw ∧ pt2 = pt ∧ ln2 = ln ∧ fOr2 = fOr)) (h2 : ((rg = 0 ∧ ¬ rc = 0 ∧ ¬ g1 < 1 ∧ ¬ 1000000 < g1 ∧ ¬ (q_fa uG g1 nf 0 < 0 ∧ rf = 4)) ∧ r2 = 1 ∧ ((q_fa uG g1 nf 0 < 0 ∧ nf < 4 ∧ uG2 = upd uG nf g1.toInt32 ∧ rf2 = rf + 1 ∧ rd2 = q_fa uG2 g1 (nf + 1) 0) ∨ (¬ q_fa uG g1 nf 0 < 0 ∧ uG2 = uG ∧ rf2 = rf ∧ rd2 = q_fa uG g1 nf 0)) ∧ rl2 = 0 ∧ rq2 = -1 ∧ rb2 = -1 ∧ rg2 = 1 ∧ re2 = 0 ∧ uO2 = (q_out (q_kr uS uC nc) nv uO (nc + 1)).1) ∨ (¬ (rg = 0 ∧ ¬ rc = 0 ∧ ¬ g1 < 1 ∧ ¬ 1000000 < g1 ∧ ¬ (q_fa uG g1 nf 0 < 0 ∧ rf = 4)) ∧ r2 = 0 ∧ uG2 = uG ∧ rf2 = rf ∧ rd2 = rd ∧ rl2 = rl ∧ rq2 = rq ∧ rb2 = rb ∧ rg2 = rg ∧ re2 = re ∧ uO2 = uO)) : r1 = r2 ∧ ∃ nf2 n02 : Nat, i_F nf2 us2 rf2 (q_4 fe0 fe1 fe2 fe3) uG2 ∧ i_K nf2 nv (q_4 cu0 cu1 cu2 cu3) (q_4 fL0 fL1 fL2 fL3) uK ∧ i_S nf2 nv n02 AA sv2 go2 ak2 be2 bw2 pt2 ln2 rd2 rg2 re2 rl2 rq2 rb2 rz fOr2 uO2 := by
  obtain ⟨e1, e2, hnc, e3, e4, h5, h6, e7, e8, hS, hT⟩ := h_M
  obtain ⟨f1, f2, f3, f4⟩ := id h_F
  obtain ⟨s1, s2, s3, s4, s5, s6, s7⟩ := id h_S
  have er : rc = cnt := e2.trans e1.symm
  have ef : rf = us := f2.trans f1.symm
  rw [s1, er, ef, e7, e8, s4] at h2
  have kk : ∀ v, v < nv → q_kk cnt vec fT fC nc v = q_kr fS fC nc v := by
    intro v hv
    unfold q_kk q_kr
    rw [e_chg e1 hnc e3 h6 hT hv nc (Nat.le_refl _)]
  have ho := e_out (f := fOr) kk (nc + 1)
  have hon := e_out_n (f := fOr) (kk := q_kr fS fC nc) (nv := nv) (nc := nc) (fun v _ => (q_kr_le hnc).1)
  have hov := fun i hi => e_out_v (kk := q_kr fS fC nc) (nv := nv) (f := fOr) (nc + 1) i hi
  have us4 : us = 4 ↔ nf = 4 := by
    rw [f1]
    exact ⟨fun z => (nI_eq (a := nf) (b := 4) (by omega) (by omega)).mp z, fun z => by rw [z]; rfl⟩
  have same : ∀ (fe0 fe1 fe2 fe3 : Int64) (cu0 cu1 cu2 cu3 : Int32) (fL0 fL1 fL2 fL3 : Nat → Int32), fe0 = FD 0 → fe1 = FD 1 → fe2 = FD 2 → fe3 = FD 3 → cu0 = CT 0 → cu1 = CT 1 → cu2 = CT 2 → cu3 = CT 3 → fL0 = FK 0 → fL1 = FK 1 → fL2 = FK 2 → fL3 = FK 3 → i_F nf us us (q_4 fe0 fe1 fe2 fe3) uG ∧ i_K nf nv (q_4 cu0 cu1 cu2 cu3) (q_4 fL0 fL1 fL2 fL3) uK := by
    intro fe0 fe1 fe2 fe3 cu0 cu1 cu2 cu3 fL0 fL1 fL2 fL3 x0 x1 x2 x3 y0 y1 y2 y3 z0 z1 z2 z3
    subst x0 x1 x2 x3 y0 y1 y2 y3 z0 z1 z2 z3
    refine ⟨⟨f1, f1, f3, fun j hj => ?_⟩, fun j hj v hv => ?_, fun j hj => ?_, h_K.2.2⟩
    · rw [e_4 FD j (by omega)]; exact f4 j hj
    · rw [e_4 FK j (by omega)]; exact h_K.1 j hj v hv
    · rw [e_4 CT j (by omega)]; exact h_K.2.1 j hj
  have hfnd := e_find (g := g1) f1 f3 (fun j hj => (f4 j hj).1)
  by_cases q0 : (go = 0 ∧ ¬ g1 < 1 ∧ ¬ 1000000 < g1 ∧ ¬ cnt = 0)
  · obtain ⟨_, ro, op, nx⟩ := h1.resolve_right (fun z => z.1 q0)
    rcases hfnd with ⟨n1, n2⟩ | ⟨j, hj, n1, n2⟩
    · have fneg : q_fa uG g1 nf 0 < 0 := by rw [n2]; decide
      by_cases q4 : nf = 4
      · obtain ⟨_, y1, y2, y3, y4, y5, y6, y7, y8, y9, y10⟩ := h2.resolve_left (fun z => z.1.2.2.2.2 ⟨fneg, us4.mpr q4⟩)
        rcases op with ⟨⟨j, oj, _⟩, _⟩ | ⟨o1, o2, o3, o4, o5⟩ | ⟨_, o2, _⟩
        · rw [n1] at oj; cases oj
        · obtain ⟨_, m1, m2⟩ := nx.resolve_right (fun ⟨aY, z, _⟩ => by rw [o3] at z; cases z)
          obtain ⟨p0, p1, p2, p3, p4, p5, p6, p7, p8, p9, p10, p11⟩ := o5
          obtain ⟨t1, t2⟩ := same _ _ _ _ _ _ _ _ _ _ _ _ p0 p1 p2 p3 p4 p5 p6 p7 p8 p9 p10 p11
          obtain ⟨m2, m3, m4, m5, m6, m7, m8, m9⟩ := m2
          refine ⟨by rw [m1, y1], nf, n0, by rw [o4, y2, y3]; exact t1, t2, ?_⟩
          rw [m2, m3, m4, m5, m6, m7, m8, m9, y4, y5, y6, y7, y8, y9, y10]
          rw [s1, s4] at h_S
          exact h_S
        · omega
      · have fok2 : (go = 0 ∧ ¬ cnt = 0 ∧ ¬ g1 < 1 ∧ ¬ 1000000 < g1 ∧ ¬ (q_fa uG g1 nf 0 < 0 ∧ us = 4)) := ⟨q0.1, q0.2.2.2, q0.2.1, q0.2.2.1, fun z => q4 (us4.mp z.2)⟩
        obtain ⟨_, y1, y2, y3, y4, y5, y6, y7, y8⟩ := h2.resolve_right (fun z => z.1 fok2)
        obtain ⟨_, z1, z2, z3, z4⟩ := y2.resolve_right (fun z => z.1 fneg)
        rcases op with ⟨⟨j, oj, _⟩, _⟩ | ⟨o1, o2, o3, o4, o5⟩ | ⟨o1, o2, o3, o4, o5, o6, o7⟩
        · rw [n1] at oj; cases oj
        · omega
        · obtain ⟨aY, m0, m1, m2, m3, m4, m5, m6, m7, m8, m9⟩ := nx.resolve_left (fun z => by rw [o3] at z; cases z.1)
          have eY : aY = AA nf := by
            rw [o3] at m0
            rw [← Option.some.inj m0, e_4 AA nf (by omega)]
          have g0 : 0 ≤ g1.toInt ∧ 1 ≤ g1.toInt ∧ g1.toInt ≤ 1000000 := by
            have c1 : (1 : Int64).toInt = 1 := by decide
            have c2 : (1000000 : Int64).toInt = 1000000 := by decide
            have d1 := Int64.le_iff_toInt_le.mp (Int64.not_lt.mp q0.2.1)
            have d2 := Int64.le_iff_toInt_le.mp (Int64.not_lt.mp q0.2.2.1)
            omega
          have gi : g1.toInt32.toInt = g1.toInt := by rw [Int64.toInt_toInt32, Int.bmod_eq_of_le (by omega) (by omega)]
          have gl : g1.toInt32.toInt64 = g1 := Int64.toInt_inj.mp (by rw [Int32.toInt_toInt64, gi])
          have rdv : rd2 = nI nf := by
            rw [z4, z2]
            exact e_fa_up f3 gl nf 0 (by omega) n2
          rw [ho, hon] at m8
          rw [ho] at m9
          refine ⟨by rw [m1, y1], nf + 1, 0, ⟨by rw [o4, f1]; exact nI_1 nf, by rw [z3, f1]; exact nI_1 nf, by omega, fun j hj => ?_⟩, ⟨fun j hj v hv => ?_, fun j hj => ?_, fun j h1 h2 v hv => h_K.2.2 j (by omega) h2 v hv⟩, ⟨by rw [y6, m3], Or.inr m3, by rw [y4, m4], by rw [y8, m9], Or.inl m4, Or.inl ⟨m5, y5, m6⟩, Or.inr ⟨nf, by omega, by rw [m2, eY], rdv, by rw [y7, m3]; rfl, fun _ => m7, by rw [y3]; rfl, Nat.zero_le _, m8, fun i hi => by rw [m9]; exact hov i (by rw [hon]; exact hi)⟩⟩⟩
          · rw [o5 j (by omega), z2, e_upd, e_4 FD j (by omega)]
            by_cases w : j = nf
            · rw [if_pos w, if_pos w, gi]; exact ⟨gl.symm, g0.2⟩
            · rw [if_neg w, if_neg w]; exact f4 j (by omega)
          · rw [o7 j (by omega), e_4 FK j (by omega)]
            by_cases w : j = nf
            · rw [if_pos w, e_z, if_pos (by omega), w, h_K.2.2 nf (Nat.le_refl _) (by omega) v hv]
              exact ⟨rfl, Or.inl rfl, fun _ => rfl⟩
            · rw [if_neg w]; exact h_K.1 j (by omega) v hv
          · rw [o6 j (by omega), e_4 CT j (by omega)]
            by_cases w : j = nf
            · rw [if_pos w, w]
              exact (e_kc0 (fun v hv => h_K.2.2 nf (Nat.le_refl _) (by omega) v hv)).symm
            · rw [if_neg w]; exact h_K.2.1 j (by omega)
    · have fpos : ¬ q_fa uG g1 nf 0 < 0 := by rw [n2]; exact nI_pos (by omega)
      have fok2 : (go = 0 ∧ ¬ cnt = 0 ∧ ¬ g1 < 1 ∧ ¬ 1000000 < g1 ∧ ¬ (q_fa uG g1 nf 0 < 0 ∧ us = 4)) := ⟨q0.1, q0.2.2.2, q0.2.1, q0.2.2.1, fun z => fpos z.1⟩
      obtain ⟨_, y1, y2, y3, y4, y5, y6, y7, y8⟩ := h2.resolve_right (fun z => z.1 fok2)
      obtain ⟨_, z2, z3, z4⟩ := y2.resolve_left (fun z => fpos z.1)
      rcases op with ⟨⟨j', oj, _, oj2⟩, o4, o5⟩ | ⟨o1, _⟩ | ⟨o1, _⟩
      · rw [n1] at oj
        have ej : j = j' := Option.some.inj oj
        subst ej
        obtain ⟨aY, m0, m1, m2, m3, m4, m5, m6, m7, m8, m9⟩ := nx.resolve_left (fun z => by rw [oj2] at z; cases z.1)
        have eY : aY = AA j := by
          rw [oj2] at m0
          rw [← Option.some.inj m0, e_4 AA j (by omega)]
        obtain ⟨p0, p1, p2, p3, p4, p5, p6, p7, p8, p9, p10, p11⟩ := o5
        obtain ⟨t1, t2⟩ := same _ _ _ _ _ _ _ _ _ _ _ _ p0 p1 p2 p3 p4 p5 p6 p7 p8 p9 p10 p11
        rw [ho, hon] at m8
        rw [ho] at m9
        exact ⟨by rw [m1, y1], nf, 0, by rw [o4, z2, z3]; exact t1, t2, ⟨by rw [y6, m3], Or.inr m3, by rw [y4, m4], by rw [y8, m9], Or.inl m4, Or.inl ⟨m5, y5, m6⟩, Or.inr ⟨j, hj, by rw [m2, eY], by rw [z4, n2], by rw [y7, m3]; rfl, fun _ => m7, by rw [y3]; rfl, Nat.zero_le _, m8, fun i hi => by rw [m9]; exact hov i (by rw [hon]; exact hi)⟩⟩⟩
      · rw [n1] at o1; cases o1
      · rw [n1] at o1; cases o1
  · obtain ⟨_, x1, o4, o5⟩ := h1.resolve_left (fun z => q0 z.1)
    obtain ⟨_, y1, y2, y3, y4, y5, y6, y7, y8, y9, y10⟩ := h2.resolve_left (fun z => q0 ⟨z.1.1, z.1.2.2.1, z.1.2.2.2.1, z.1.2.1⟩)
    obtain ⟨p0, p1, p2, p3, p4, p5, p6, p7, p8, p9, p10, p11, m2, m3, m4, m5, m6, m7, m8, m9⟩ := o5
    obtain ⟨t1, t2⟩ := same _ _ _ _ _ _ _ _ _ _ _ _ p0 p1 p2 p3 p4 p5 p6 p7 p8 p9 p10 p11
    refine ⟨by rw [x1, y1], nf, n0, by rw [o4, y2, y3]; exact t1, t2, ?_⟩
    rw [m2, m3, m4, m5, m6, m7, m8, m9, y4, y5, y6, y7, y8, y9, y10]
    rw [s1, s4] at h_S
    exact h_S
