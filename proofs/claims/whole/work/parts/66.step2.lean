theorem e_ask {nc nv : Nat} {cnt vec rc rv : Int32} {fS fC fT uS uC : Nat → Int32} {q m : Int32} (h : i_M nc nv cnt vec rc rv fS fC fT uS uC) (hq : q = -1 ∨ ∃ a, a < nv ∧ q = nI a) : q_sin cnt vec fT q m = q_ask uS nc rc q m := by
  obtain ⟨e1, e2, hnc, e3, e4, h5, h6, e7, e8, hS, hT⟩ := h
  rw [e7, e2, ← e1]
  rcases hq with rfl | ⟨a, ha, rfl⟩
  · rw [q_sin, if_pos (by decide), q_ask, if_pos (by decide)]
  · by_cases c1 : m < 0
    · rw [q_sin, if_neg (nI_pos (by omega)), if_neg (by rw [e3]; exact nI_ge ha (by omega)), if_pos c1, q_ask, if_neg (nI_pos (by omega)), if_pos c1]
    · by_cases c2 : cnt ≤ m
      · rw [q_sin, if_neg (nI_pos (by omega)), if_neg (by rw [e3]; exact nI_ge ha (by omega)), if_neg c1, if_pos c2, q_ask, if_neg (nI_pos (by omega)), if_neg c1, if_pos c2]
      · have hm := ix_lt c1 c2 e1 (by omega)
        rw [q_sin, if_neg (nI_pos (by omega)), if_neg (by rw [e3]; exact nI_ge ha (by omega)), if_neg c1, if_neg c2, q_ask, if_neg (nI_pos (by omega)), if_neg c1, if_neg c2, nI_clamp (by omega)]
        exact hT.1 a ha _ hm
theorem e_find {us : Int32} {FD : Nat → Int64} {uG : Nat → Int32} {nf : Nat} {g : Int64} (hus : us = nI nf) (hnf : nf ≤ 4) (h : ∀ j, j < nf → FD j = (uG j).toInt64) : (q_find us (FD 0) (FD 1) (FD 2) (FD 3) g = none ∧ q_fa uG g nf 0 = -1) ∨ ∃ j, j < nf ∧ q_find us (FD 0) (FD 1) (FD 2) (FD 3) g = some j ∧ q_fa uG g nf 0 = nI j := by
  rcases (show nf = 0 ∨ nf = 1 ∨ nf = 2 ∨ nf = 3 ∨ nf = 4 by omega) with e | e | e | e | e <;> subst e
  · subst hus
    exact Or.inl ⟨by rw [q_find, if_pos (show nI 0 ≤ 0 by decide)], by rw [q_fa]⟩
  · subst hus
    by_cases c0 : (uG 0).toInt64 = g
    · exact Or.inr ⟨0, by decide, by rw [q_find, if_neg (show ¬ nI 1 ≤ 0 by decide), if_pos (show FD 0 = g by rw [h 0 (by decide)]; exact c0)], by rw [q_fa, if_pos c0]⟩
    exact Or.inl ⟨by rw [q_find, if_neg (show ¬ nI 1 ≤ 0 by decide), if_neg (show ¬ FD 0 = g by rw [h 0 (by decide)]; exact c0), if_pos (show nI 1 ≤ 1 by decide)], by rw [q_fa, if_neg c0, q_fa]⟩
  · subst hus
    by_cases c0 : (uG 0).toInt64 = g
    · exact Or.inr ⟨0, by decide, by rw [q_find, if_neg (show ¬ nI 2 ≤ 0 by decide), if_pos (show FD 0 = g by rw [h 0 (by decide)]; exact c0)], by rw [q_fa, if_pos c0]⟩
    by_cases c1 : (uG 1).toInt64 = g
    · exact Or.inr ⟨1, by decide, by rw [q_find, if_neg (show ¬ nI 2 ≤ 0 by decide), if_neg (show ¬ FD 0 = g by rw [h 0 (by decide)]; exact c0), if_neg (show ¬ nI 2 ≤ 1 by decide), if_pos (show FD 1 = g by rw [h 1 (by decide)]; exact c1)], by rw [q_fa, if_neg c0, q_fa, if_pos c1]⟩
    exact Or.inl ⟨by rw [q_find, if_neg (show ¬ nI 2 ≤ 0 by decide), if_neg (show ¬ FD 0 = g by rw [h 0 (by decide)]; exact c0), if_neg (show ¬ nI 2 ≤ 1 by decide), if_neg (show ¬ FD 1 = g by rw [h 1 (by decide)]; exact c1), if_pos (show nI 2 ≤ 2 by decide)], by rw [q_fa, if_neg c0, q_fa, if_neg c1, q_fa]⟩
  · subst hus
    by_cases c0 : (uG 0).toInt64 = g
    · exact Or.inr ⟨0, by decide, by rw [q_find, if_neg (show ¬ nI 3 ≤ 0 by decide), if_pos (show FD 0 = g by rw [h 0 (by decide)]; exact c0)], by rw [q_fa, if_pos c0]⟩
    by_cases c1 : (uG 1).toInt64 = g
    · exact Or.inr ⟨1, by decide, by rw [q_find, if_neg (show ¬ nI 3 ≤ 0 by decide), if_neg (show ¬ FD 0 = g by rw [h 0 (by decide)]; exact c0), if_neg (show ¬ nI 3 ≤ 1 by decide), if_pos (show FD 1 = g by rw [h 1 (by decide)]; exact c1)], by rw [q_fa, if_neg c0, q_fa, if_pos c1]⟩
    by_cases c2 : (uG 2).toInt64 = g
    · exact Or.inr ⟨2, by decide, by rw [q_find, if_neg (show ¬ nI 3 ≤ 0 by decide), if_neg (show ¬ FD 0 = g by rw [h 0 (by decide)]; exact c0), if_neg (show ¬ nI 3 ≤ 1 by decide), if_neg (show ¬ FD 1 = g by rw [h 1 (by decide)]; exact c1), if_neg (show ¬ nI 3 ≤ 2 by decide), if_pos (show FD 2 = g by rw [h 2 (by decide)]; exact c2)], by rw [q_fa, if_neg c0, q_fa, if_neg c1, q_fa, if_pos c2]⟩
    exact Or.inl ⟨by rw [q_find, if_neg (show ¬ nI 3 ≤ 0 by decide), if_neg (show ¬ FD 0 = g by rw [h 0 (by decide)]; exact c0), if_neg (show ¬ nI 3 ≤ 1 by decide), if_neg (show ¬ FD 1 = g by rw [h 1 (by decide)]; exact c1), if_neg (show ¬ nI 3 ≤ 2 by decide), if_neg (show ¬ FD 2 = g by rw [h 2 (by decide)]; exact c2), if_pos (show nI 3 ≤ 3 by decide)], by rw [q_fa, if_neg c0, q_fa, if_neg c1, q_fa, if_neg c2, q_fa]⟩
  · subst hus
    by_cases c0 : (uG 0).toInt64 = g
    · exact Or.inr ⟨0, by decide, by rw [q_find, if_neg (show ¬ nI 4 ≤ 0 by decide), if_pos (show FD 0 = g by rw [h 0 (by decide)]; exact c0)], by rw [q_fa, if_pos c0]⟩
    by_cases c1 : (uG 1).toInt64 = g
    · exact Or.inr ⟨1, by decide, by rw [q_find, if_neg (show ¬ nI 4 ≤ 0 by decide), if_neg (show ¬ FD 0 = g by rw [h 0 (by decide)]; exact c0), if_neg (show ¬ nI 4 ≤ 1 by decide), if_pos (show FD 1 = g by rw [h 1 (by decide)]; exact c1)], by rw [q_fa, if_neg c0, q_fa, if_pos c1]⟩
    by_cases c2 : (uG 2).toInt64 = g
    · exact Or.inr ⟨2, by decide, by rw [q_find, if_neg (show ¬ nI 4 ≤ 0 by decide), if_neg (show ¬ FD 0 = g by rw [h 0 (by decide)]; exact c0), if_neg (show ¬ nI 4 ≤ 1 by decide), if_neg (show ¬ FD 1 = g by rw [h 1 (by decide)]; exact c1), if_neg (show ¬ nI 4 ≤ 2 by decide), if_pos (show FD 2 = g by rw [h 2 (by decide)]; exact c2)], by rw [q_fa, if_neg c0, q_fa, if_neg c1, q_fa, if_pos c2]⟩
    by_cases c3 : (uG 3).toInt64 = g
    · exact Or.inr ⟨3, by decide, by rw [q_find, if_neg (show ¬ nI 4 ≤ 0 by decide), if_neg (show ¬ FD 0 = g by rw [h 0 (by decide)]; exact c0), if_neg (show ¬ nI 4 ≤ 1 by decide), if_neg (show ¬ FD 1 = g by rw [h 1 (by decide)]; exact c1), if_neg (show ¬ nI 4 ≤ 2 by decide), if_neg (show ¬ FD 2 = g by rw [h 2 (by decide)]; exact c2), if_neg (show ¬ nI 4 ≤ 3 by decide), if_pos (show FD 3 = g by rw [h 3 (by decide)]; exact c3)], by rw [q_fa, if_neg c0, q_fa, if_neg c1, q_fa, if_neg c2, q_fa, if_pos c3]⟩
    exact Or.inl ⟨by rw [q_find, if_neg (show ¬ nI 4 ≤ 0 by decide), if_neg (show ¬ FD 0 = g by rw [h 0 (by decide)]; exact c0), if_neg (show ¬ nI 4 ≤ 1 by decide), if_neg (show ¬ FD 1 = g by rw [h 1 (by decide)]; exact c1), if_neg (show ¬ nI 4 ≤ 2 by decide), if_neg (show ¬ FD 2 = g by rw [h 2 (by decide)]; exact c2), if_neg (show ¬ nI 4 ≤ 3 by decide), if_neg (show ¬ FD 3 = g by rw [h 3 (by decide)]; exact c3)], by rw [q_fa, if_neg c0, q_fa, if_neg c1, q_fa, if_neg c2, q_fa, if_neg c3, q_fa]⟩
theorem st_asked {r1 : Int32} {cnt : Int32} {vec : Int32} {fT : Nat → Int32} {ak : Int32} {m1 : Int32} {r2 : Int32} {uS : Nat → Int32} {nc : Nat} {rc : Int32} {rq : Int32} {nv : Nat} {rv : Int32} {fS : Nat → Int32} {fC : Nat → Int32} {uC : Nat → Int32} {nf : Nat} {n0 : Nat} {AA : Nat → Nat} {sv : Value} {go : Int32} {be : Int32} {bw : Int64} {pt : Int32} {ln : Int32} {rd : Int32} {rg : Int32} {re : Int32} {rl : Int32} {rb : Int32} {rz : Int64} {fOr : Nat → Int32} {uO : Nat → Int32} (h_M : i_M nc nv cnt vec rc rv fS fC fT uS uC) (h_S : i_S nf nv n0 AA sv go ak be bw pt ln rd rg re rl rq rb rz fOr uO)  (h1 : r1 = q_sin cnt vec fT ak m1) (h2 : r2 = q_ask uS nc rc rq m1) : r1 = r2 := by
  obtain ⟨s1, s2, s3, s4, s5, s6, s7⟩ := h_S
  rw [h1, h2, s3]
  exact e_ask h_M (s5.imp id (fun z => z.2))
theorem st_best {r1 : Int32} {cnt : Int32} {vec : Int32} {fT : Nat → Int32} {be : Int32} {m1 : Int32} {r2 : Int32} {uS : Nat → Int32} {nc : Nat} {rc : Int32} {rb : Int32} {nv : Nat} {rv : Int32} {fS : Nat → Int32} {fC : Nat → Int32} {uC : Nat → Int32} {nf : Nat} {n0 : Nat} {AA : Nat → Nat} {sv : Value} {go : Int32} {ak : Int32} {bw : Int64} {pt : Int32} {ln : Int32} {rd : Int32} {rg : Int32} {re : Int32} {rl : Int32} {rq : Int32} {rz : Int64} {fOr : Nat → Int32} {uO : Nat → Int32} (h_M : i_M nc nv cnt vec rc rv fS fC fT uS uC) (h_S : i_S nf nv n0 AA sv go ak be bw pt ln rd rg re rl rq rb rz fOr uO)  (h1 : r1 = q_sin cnt vec fT be m1) (h2 : r2 = q_ask uS nc rc rb m1) : r1 = r2 := by
  obtain ⟨s1, s2, s3, s4, s5, s6, s7⟩ := h_S
  have er : rb = be := s6.elim (fun z => z.2.1.trans z.1.symm) (fun z => z.2.1)
  rw [h1, h2, er]
  exact e_ask h_M (s6.imp (fun z => z.1) (fun z => z.1))
theorem st_sum {r1 : Int64} {bw : Int64} {r2 : Int64} {rb : Int32} {rz : Int64} {nf : Nat} {nv : Nat} {n0 : Nat} {AA : Nat → Nat} {sv : Value} {go : Int32} {ak : Int32} {be : Int32} {pt : Int32} {ln : Int32} {rd : Int32} {rg : Int32} {re : Int32} {rl : Int32} {rq : Int32} {fOr : Nat → Int32} {uO : Nat → Int32} (h_S : i_S nf nv n0 AA sv go ak be bw pt ln rd rg re rl rq rb rz fOr uO) (hnv : nv ≤ 64) (h1 : r1 = bw) (h2 : r2 = if rb < 0 then (-9223372036854775808) else rz) : r1 = r2 := by
  obtain ⟨s1, s2, s3, s4, s5, s6, s7⟩ := h_S
  rw [h1, h2]
  rcases s6 with ⟨a, b, d⟩ | ⟨⟨a, ha, e⟩, b, d⟩
  · rw [if_pos (by rw [b]; decide), d]
  · rw [b, e, d, if_neg (nI_pos (by omega))]
theorem st_bound {r1 : Int64} {FD : Nat → Int64} {jf : Nat} {fW : Nat → Int32} {r2 : Int64} {uG : Nat → Int32} {uW : Nat → Int32} {nf : Nat} {us : Int32} {rf : Int32} (h_W : i_W fW uW) (h_F : i_F nf us rf FD uG) (hj : jf < nf) (h1 : r1 = (FD jf) * (q_mx fW 9).toInt64) (h2 : r2 = ((uG jf).toInt64 * (q_mx uW 9).toInt64)) : r1 = r2 := by
  obtain ⟨e1, e2⟩ := h_W
  obtain ⟨f1, f2, f3, f4⟩ := h_F
  rw [h1, h2, (f4 jf hj).1, e1]
theorem st_changes {r1 : Int32} {be : Int32} {cnt : Int32} {vec : Int32} {fT : Nat → Int32} {fC : Nat → Int32} {nc : Nat} {r2 : Int32} {rb : Int32} {uS : Nat → Int32} {uC : Nat → Int32} {nv : Nat} {rc : Int32} {rv : Int32} {fS : Nat → Int32} {nf : Nat} {n0 : Nat} {AA : Nat → Nat} {sv : Value} {go : Int32} {ak : Int32} {bw : Int64} {pt : Int32} {ln : Int32} {rd : Int32} {rg : Int32} {re : Int32} {rl : Int32} {rq : Int32} {rz : Int64} {fOr : Nat → Int32} {uO : Nat → Int32} (h_M : i_M nc nv cnt vec rc rv fS fC fT uS uC) (h_S : i_S nf nv n0 AA sv go ak be bw pt ln rd rg re rl rq rb rz fOr uO)  (h1 : r1 = if be = -1 then -1 else q_chg cnt vec fT fC be nc) (h2 : r2 = if rb < 0 then -1 else q_chr uS uC nc rb.toNatClampNeg nc) : r1 = r2 := by
  obtain ⟨e1, e2, hnc, e3, e4, h5, h6, e7, e8, hS, hT⟩ := h_M
  obtain ⟨s1, s2, s3, s4, s5, s6, s7⟩ := h_S
  rw [h1, h2, e7, e8]
  rcases s6 with ⟨a, b, d⟩ | ⟨⟨a, ha, e⟩, b, d⟩
  · rw [if_pos a, if_pos (by rw [b]; decide)]
  · rw [b, e, if_neg (e_nIm1 (by omega)), if_neg (nI_pos (by omega)), nI_clamp (by omega)]
    exact e_chg e1 hnc e3 h6 hT ha nc (Nat.le_refl _)
theorem st_take {go : Int32} {be : Int32} {r1 : Int32} {cnt : Int32} {vec : Int32} {fT : Nat → Int32} {fC : Nat → Int32} {nc : Nat} {fC2 : Nat → Int32} {rg : Int32} {rb : Int32} {r2 : Int32} {uS : Nat → Int32} {uC : Nat → Int32} {uC2 : Nat → Int32} {nv : Nat} {rc : Int32} {rv : Int32} {fS : Nat → Int32} {nf : Nat} {n0 : Nat} {AA : Nat → Nat} {sv : Value} {ak : Int32} {bw : Int64} {pt : Int32} {ln : Int32} {rd : Int32} {re : Int32} {rl : Int32} {rq : Int32} {rz : Int64} {fOr : Nat → Int32} {uO : Nat → Int32} (h_M : i_M nc nv cnt vec rc rv fS fC fT uS uC) (h_S : i_S nf nv n0 AA sv go ak be bw pt ln rd rg re rl rq rb rz fOr uO)  (h1 : (go = 0 ∧ ¬ be = -1 ∧ r1 = q_chg cnt vec fT fC be nc ∧ fC2 = q_bec cnt vec fT fC be nc) ∨ ((¬ go = 0 ∨ be = -1) ∧ r1 = -1 ∧ fC2 = fC)) (h2 : (rg = 0 ∧ ¬ rb < 0 ∧ r2 = q_chr uS uC nc rb.toNatClampNeg nc ∧ uC2 = q_ber uS uC nc rb.toNatClampNeg nc) ∨ ((¬ rg = 0 ∨ rb < 0) ∧ r2 = -1 ∧ uC2 = uC)) : r1 = r2 ∧ i_M nc nv cnt vec rc rv fS fC2 fT uS uC2 := by
  obtain ⟨e1, e2, hnc, e3, e4, h5, h6, e7, e8, hS, hT⟩ := id h_M
  obtain ⟨s1, s2, s3, s4, s5, s6, s7⟩ := h_S
  rw [s1, e7, e8] at h2
  rcases s6 with ⟨a, b, d⟩ | ⟨⟨a, ha, e⟩, b, d⟩
  · obtain ⟨_, x1, x2⟩ := h1.resolve_left (fun z => z.2.1 a)
    obtain ⟨_, y1, y2⟩ := h2.resolve_left (fun z => z.2.1 (by rw [b]; decide))
    exact ⟨by rw [x1, y1], by rw [x2, y2]; rw [e8] at h_M; exact h_M⟩
  · have n1 : ¬ be = -1 := by rw [e]; exact e_nIm1 (by omega)
    have n2 : ¬ rb < 0 := by rw [b, e]; exact nI_pos (by omega)
    by_cases q : go = 0
    · obtain ⟨_, _, x1, x2⟩ := h1.resolve_right (fun z => z.1.elim (fun w => w q) n1)
      obtain ⟨_, _, y1, y2⟩ := h2.resolve_right (fun z => z.1.elim (fun w => w q) n2)
      rw [b, e, nI_clamp (by omega)] at y1 y2
      rw [e] at x1 x2
      refine ⟨by rw [x1, y1]; exact e_chg e1 hnc e3 h6 hT ha nc (Nat.le_refl _), e1, e2, hnc, e3, e4, h5, h6, e7, ?_, hS, hT⟩
      rw [x2, y2]
      exact (e_bec e1 hnc e3 h6 hT ha nc (Nat.le_refl _)).symm
    · obtain ⟨_, x1, x2⟩ := h1.resolve_left (fun z => q z.1)
      obtain ⟨_, y1, y2⟩ := h2.resolve_left (fun z => q z.1)
      exact ⟨by rw [x1, y1], by rw [x2, y2]; rw [e8] at h_M; exact h_M⟩
theorem st_kept {r1 : Int32} {us : Int32} {FD : Nat → Int64} {g1 : Int64} {CT : Nat → Int32} {r2 : Int32} {uG : Nat → Int32} {nf : Nat} {uK : Nat → Int32} {rf : Int32} {nv : Nat} {FK : Nat → Nat → Int32} (h_F : i_F nf us rf FD uG) (h_K : i_K nf nv CT FK uK)  (h1 : r1 = match q_find us (FD 0) (FD 1) (FD 2) (FD 3) g1 with | none => 0 | some j => q_4 (CT 0) (CT 1) (CT 2) (CT 3) j) (h2 : r2 = if q_fa uG g1 nf 0 < 0 then 0 else q_kc uK (64 * (q_fa uG g1 nf 0).toNatClampNeg) 64) : r1 = r2 := by
  obtain ⟨f1, f2, f3, f4⟩ := h_F
  rw [h1, h2]
  rcases e_find (g := g1) f1 f3 (fun j hj => (f4 j hj).1) with ⟨a, b⟩ | ⟨j, hj, a, b⟩
  · rw [a, b, if_pos (by decide)]
  · rw [a, b, if_neg (nI_pos (by omega)), nI_clamp (by omega), ← h_K.2.1 j hj]
    rcases (show j = 0 ∨ j = 1 ∨ j = 2 ∨ j = 3 by omega) with rfl | rfl | rfl | rfl <;> rfl
