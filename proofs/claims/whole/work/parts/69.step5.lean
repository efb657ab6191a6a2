theorem e_kc {uK uJ : Nat → Int32} {b : Nat} : ∀ n, (∀ v, v < n → uK (b + v) = uJ (b + v)) → q_kc uK b n = q_kc uJ b n
  | 0, _ => rfl
  | n + 1, h => by
    simp only [q_kc]
    rw [e_kc n (fun v hv => h v (by omega)), h n (by omega)]
theorem e_kc_up {uK : Nat → Int32} {b a : Nat} (h : uK (b + a) = 0) : ∀ n, q_kc (upd uK (b + a) 1) b n = if a < n then q_kc uK b n + 1 else q_kc uK b n
  | 0 => by rw [if_neg (by omega)]; rfl
  | n + 1 => by
    simp only [q_kc]
    rw [e_kc_up h n, e_upd]
    rcases Nat.lt_trichotomy a n with r | r | r
    · rw [if_pos r, if_pos (show a < n + 1 by omega), if_neg (show ¬ b + n = b + a by omega)]
      rw [Int32.add_assoc, Int32.add_comm 1, ← Int32.add_assoc]
    · subst r
      rw [if_neg (Nat.lt_irrefl _), if_pos (show a < a + 1 by omega), if_pos rfl, h, if_neg (by decide), if_pos rfl, Int32.add_zero]
    · rw [if_neg (show ¬ a < n by omega), if_neg (show ¬ a < n + 1 by omega), if_neg (show ¬ b + n = b + a by omega)]
theorem e_upid {α : Type} (f : Nat → α) (k : Nat) : va_up f k (f k) = f := by
  funext j
  rw [e_up2]
  by_cases w : j = k
  · rw [if_pos w, w]
  · rw [if_neg w]
theorem i_K_keep {nf nv jf : Nat} {CT : Nat → Int32} {FK : Nat → Nat → Int32} {uK uK2 fK2 : Nat → Int32} {ak ct2 : Int32} (h : i_K nf nv CT FK uK) (hj : jf < nf) (hnv : nv ≤ 64) (hak : ak = -1 ∨ ∃ a, a < nv ∧ ak = nI a)
    (K1 : (ak = -1 ∧ fK2 = FK jf ∧ ct2 = CT jf) ∨ (¬ ak = -1 ∧ ((FK jf ak.toNatClampNeg = 0 ∧ fK2 = upd (FK jf) ak.toNatClampNeg 1 ∧ ct2 = CT jf + 1) ∨ (¬ FK jf ak.toNatClampNeg = 0 ∧ fK2 = FK jf ∧ ct2 = CT jf)))) (K2 : (ak < 0 ∧ uK2 = uK) ∨ (¬ ak < 0 ∧ uK2 = upd uK (64 * jf + ak.toNatClampNeg) 1)) : i_K nf nv (va_up CT jf ct2) (va_up FK jf fK2) uK2 := by
  rcases hak with rfl | ⟨a, ha, rfl⟩
  · obtain ⟨_, e1, e2⟩ := K1.resolve_right (fun z => z.1 rfl)
    obtain ⟨_, e3⟩ := K2.resolve_right (fun z => z.1 (by decide))
    rw [e1, e2, e3, e_upid, e_upid]
    exact h
  · have k1 := (K1.resolve_left (fun z => e_nIm1 (by omega) z.1)).2
    have k2 := (K2.resolve_left (fun z => nI_pos (by omega) z.1)).2
    rw [nI_clamp (by omega)] at k1 k2
    obtain ⟨h1, h2, h3⟩ := h
    obtain ⟨v1, v2, v3⟩ := h1 jf hj a (by omega)
    rcases k1 with ⟨c1, c2, c3⟩ | ⟨c1, c2, c3⟩
    · have z0 : uK (64 * jf + a) = 0 := by rw [← v1]; exact c1
      refine ⟨fun j hj2 v hv => ?_, fun j hj2 => ?_, fun j h4 h5 v hv => ?_⟩
      · obtain ⟨w1, w2, w3⟩ := h1 j hj2 v hv
        rw [e_up2, k2, e_upd]
        by_cases q : j = jf
        · rw [if_pos q, c2, e_upd]
          by_cases q2 : v = a
          · rw [if_pos q2, if_pos (by rw [q, q2])]
            exact ⟨rfl, Or.inr rfl, fun z => by omega⟩
          · rw [if_neg q2, if_neg (by omega), ← q]
            exact ⟨w1, w2, w3⟩
        · rw [if_neg q, if_neg (by omega)]
          exact ⟨w1, w2, w3⟩
      · rw [e_up2, k2]
        by_cases q : j = jf
        · rw [if_pos q, q, e_kc_up z0, if_pos (by omega), c3, h2 jf hj]
        · rw [if_neg q, h2 j hj2]
          refine e_kc 64 (fun v hv => ?_)
          rw [e_upd, if_neg (by omega)]
      · rw [k2, e_upd, if_neg (by omega)]
        exact h3 j h4 h5 v hv
    · have z1 : uK (64 * jf + a) = 1 := by rw [← v1]; exact v2.resolve_left c1
      have e : uK2 = uK := by
        rw [k2]
        funext k
        rw [e_upd]
        by_cases q : k = 64 * jf + a
        · rw [if_pos q, q, z1]
        · rw [if_neg q]
      rw [c2, c3, e, e_upid, e_upid]
      exact ⟨h1, h2, h3⟩
theorem i_G_z {FG FO : Nat → Nat → Int32} {uCa uL : Nat → Int32} {jf jv : Nat} (h : i_G FG FO uCa uL) (hjv : jv < 64) : i_G (va_up FG jf (q_z (FG jf) (jv * 9) 9)) (va_up FO jf (q_z (FO jf) (jv * 5) 5)) (q_z uCa (9 * (64 * jf + jv)) 9) (q_z uL (5 * (64 * jf + jv)) 5) := by
  intro j hj v hv
  obtain ⟨⟨a, b⟩, d⟩ := h j hj v hv
  refine ⟨⟨fun k hk => ?_, fun k hk => ?_⟩, fun k hk => ?_⟩
  · rw [e_up2, e_z]
    by_cases w : j = jf
    · rw [if_pos w, e_z, ← w]
      by_cases w2 : v = jv
      · rw [if_pos (by omega), if_pos (by omega)]
      · rw [if_neg (by omega), if_neg (by omega)]; exact a k hk
    · rw [if_neg w, if_neg (by omega)]; exact a k hk
  · rw [e_up2, e_z]
    by_cases w : j = jf
    · rw [if_pos w, e_z, ← w]
      by_cases w2 : v = jv
      · rw [if_pos (by omega), if_pos (by omega)]
      · rw [if_neg (by omega), if_neg (by omega)]; exact b k hk
    · rw [if_neg w, if_neg (by omega)]; exact b k hk
  · rw [e_up2]
    by_cases w : j = jf
    · rw [if_pos w, e_z, ← w]
      by_cases w2 : v = jv
      · rw [if_pos (by omega)]; decide
      · rw [if_neg (by omega)]; exact d k hk
    · rw [if_neg w]; exact d k hk
theorem st_next {go : Int32} {r1 : Int32} {go2 : Int32} {ak2 : Int32} {ak : Int32} {be2 : Int32} {be : Int32} {bw2 : Int64} {bw : Int64} {pt2 : Int32} {pt : Int32} {fG2 : Nat → Int32} {FG : Nat → Nat → Int32} {jf : Nat} {fO2 : Nat → Int32} {FO : Nat → Nat → Int32} {fK2 : Nat → Int32} {FK : Nat → Nat → Int32} {ct2 : Int32} {CT : Nat → Int32} {fOr : Nat → Int32} {FD : Nat → Int64} {fW : Nat → Int32} {fPo : Nat → Int32} {fKi : Nat → Int32} {fAb : Nat → Int32} {fBe : Nat → Int32} {fM : Nat → Int32} {np : Nat} {pu : Int32} {nv : Nat} {n0 : Nat} {rg : Int32} {r2 : Int32} {rq : Int32} {uK2 : Nat → Int32} {uK : Nat → Int32} {rb2 : Int32} {uO : Nat → Int32} {uG : Nat → Int32} {uW : Nat → Int32} {uCe : Nat → Int32} {uA : Nat → Int32} {uB : Nat → Int32} {uM : Nat → Int32} {uCa : Nat → Int32} {uL : Nat → Int32} {nc : Nat} {rb : Int32} {rz : Int64} {rz2 : Int64} {rl2 : Int32} {rg2 : Int32} {re2 : Int32} {re : Int32} {rq2 : Int32} {uCa2 : Nat → Int32} {uL2 : Nat → Int32} {nf : Nat} {AA : Nat → Nat} {sv : Value} {ln : Int32} {rd : Int32} {cnt : Int32} {vec : Int32} {rc : Int32} {rv : Int32} {fS : Nat → Int32} {fC : Nat → Int32} {fT : Nat → Int32} {uS : Nat → Int32} {uC : Nat → Int32} {rp : Int32} {us : Int32} {rf : Int32} {rl : Int32} (h_M : i_M nc nv cnt vec rc rv fS fC fT uS uC) (h_R : i_R np nc pu rp fPo fKi fAb fBe fM uCe uA uB uM) (h_W : i_W fW uW) (h_F : i_F nf us rf FD uG) (h_K : i_K nf nv CT FK uK) (h_G : i_G FG FO uCa uL) (h_S : i_S nf nv n0 AA sv go ak be bw pt ln rd rg re rl rq rb rz fOr uO) (hj : jf < nf) (hg : ¬ go = 0) (h1 : (go = 0 ∧ r1 = -1 ∧ go2 = go ∧ ak2 = ak ∧ be2 = be ∧ bw2 = bw ∧ pt2 = pt ∧ fG2 = (FG jf) ∧ fO2 = (FO jf) ∧ fK2 = (FK jf) ∧ ct2 = (CT jf)) ∨ (¬ go = 0 ∧ ((ak = -1 ∧ fK2 = (FK jf) ∧ ct2 = (CT jf)) ∨ (¬ ak = -1 ∧ (((FK jf) ak.toNatClampNeg = 0 ∧ fK2 = upd (FK jf) ak.toNatClampNeg 1 ∧ ct2 = (CT jf) + 1) ∨ (¬ (FK jf) ak.toNatClampNeg = 0 ∧ fK2 = (FK jf) ∧ ct2 = (CT jf))))) ∧ (be2 = (q_go fK2 fOr ((FD jf) * (q_mx fW 9).toInt64) (fun v s => q_wg (q_kept (FG jf) (FO jf) fPo fKi fAb fBe fM np v.toNatClampNeg) (q_told pu fM 5) (q_wo (FG jf) fW v.toNatClampNeg 9) v s) (nv - n0) n0 (be, bw)).2.1.1 ∧ bw2 = (q_go fK2 fOr ((FD jf) * (q_mx fW 9).toInt64) (fun v s => q_wg (q_kept (FG jf) (FO jf) fPo fKi fAb fBe fM np v.toNatClampNeg) (q_told pu fM 5) (q_wo (FG jf) fW v.toNatClampNeg 9) v s) (nv - n0) n0 (be, bw)).2.1.2 ∧ (((q_go fK2 fOr ((FD jf) * (q_mx fW 9).toInt64) (fun v s => q_wg (q_kept (FG jf) (FO jf) fPo fKi fAb fBe fM np v.toNatClampNeg) (q_told pu fM 5) (q_wo (FG jf) fW v.toNatClampNeg 9) v s) (nv - n0) n0 (be, bw)).2.2 = true ∧ r1 = 1 ∧ go2 = go ∧ ak2 = fOr (q_go fK2 fOr ((FD jf) * (q_mx fW 9).toInt64) (fun v s => q_wg (q_kept (FG jf) (FO jf) fPo fKi fAb fBe fM np v.toNatClampNeg) (q_told pu fM 5) (q_wo (FG jf) fW v.toNatClampNeg 9) v s) (nv - n0) n0 (be, bw)).1 ∧ fG2 = q_z (FG jf) ((fOr (q_go fK2 fOr ((FD jf) * (q_mx fW 9).toInt64) (fun v s => q_wg (q_kept (FG jf) (FO jf) fPo fKi fAb fBe fM np v.toNatClampNeg) (q_told pu fM 5) (q_wo (FG jf) fW v.toNatClampNeg 9) v s) (nv - n0) n0 (be, bw)).1).toNatClampNeg * 9) 9 ∧ fO2 = q_z (FO jf) ((fOr (q_go fK2 fOr ((FD jf) * (q_mx fW 9).toInt64) (fun v s => q_wg (q_kept (FG jf) (FO jf) fPo fKi fAb fBe fM np v.toNatClampNeg) (q_told pu fM 5) (q_wo (FG jf) fW v.toNatClampNeg 9) v s) (nv - n0) n0 (be, bw)).1).toNatClampNeg * 5) 5 ∧ pt2 = nI (q_go fK2 fOr ((FD jf) * (q_mx fW 9).toInt64) (fun v s => q_wg (q_kept (FG jf) (FO jf) fPo fKi fAb fBe fM np v.toNatClampNeg) (q_told pu fM 5) (q_wo (FG jf) fW v.toNatClampNeg 9) v s) (nv - n0) n0 (be, bw)).1) ∨ ((q_go fK2 fOr ((FD jf) * (q_mx fW 9).toInt64) (fun v s => q_wg (q_kept (FG jf) (FO jf) fPo fKi fAb fBe fM np v.toNatClampNeg) (q_told pu fM 5) (q_wo (FG jf) fW v.toNatClampNeg 9) v s) (nv - n0) n0 (be, bw)).2.2 = false ∧ r1 = 0 ∧ go2 = 0 ∧ ak2 = (-1) ∧ fG2 = (FG jf) ∧ fO2 = (FO jf) ∧ pt2 = pt))))) (h2 : (rg = 0 ∧ r2 = -1) ∨ (¬ rg = 0 ∧ ((rq < 0 ∧ uK2 = uK) ∨ (¬ rq < 0 ∧ uK2 = upd uK (64 * jf + rq.toNatClampNeg) 1)) ∧ (rb2 = (q_gor (fun v => uK2 (64 * jf + v)) uO ((uG jf).toInt64 * (q_mx uW 9).toInt64) (fun v s => q_loo (q_st (fun k => q_ke uCe uA uB uM uCa uL nc np (64 * jf + v.toNatClampNeg) k) (-1) 9) (q_wor uCa uW (64 * jf + v.toNatClampNeg) 9) v s) (nv - n0) n0 (rb, rz)).2.1.1 ∧ rz2 = (q_gor (fun v => uK2 (64 * jf + v)) uO ((uG jf).toInt64 * (q_mx uW 9).toInt64) (fun v s => q_loo (q_st (fun k => q_ke uCe uA uB uM uCa uL nc np (64 * jf + v.toNatClampNeg) k) (-1) 9) (q_wor uCa uW (64 * jf + v.toNatClampNeg) 9) v s) (nv - n0) n0 (rb, rz)).2.1.2 ∧ rl2 = nI (q_gor (fun v => uK2 (64 * jf + v)) uO ((uG jf).toInt64 * (q_mx uW 9).toInt64) (fun v s => q_loo (q_st (fun k => q_ke uCe uA uB uM uCa uL nc np (64 * jf + v.toNatClampNeg) k) (-1) 9) (q_wor uCa uW (64 * jf + v.toNatClampNeg) 9) v s) (nv - n0) n0 (rb, rz)).1 ∧ (((q_gor (fun v => uK2 (64 * jf + v)) uO ((uG jf).toInt64 * (q_mx uW 9).toInt64) (fun v s => q_loo (q_st (fun k => q_ke uCe uA uB uM uCa uL nc np (64 * jf + v.toNatClampNeg) k) (-1) 9) (q_wor uCa uW (64 * jf + v.toNatClampNeg) 9) v s) (nv - n0) n0 (rb, rz)).2.2 = true ∧ r2 = 1 ∧ rg2 = rg ∧ re2 = re ∧ rq2 = uO (q_gor (fun v => uK2 (64 * jf + v)) uO ((uG jf).toInt64 * (q_mx uW 9).toInt64) (fun v s => q_loo (q_st (fun k => q_ke uCe uA uB uM uCa uL nc np (64 * jf + v.toNatClampNeg) k) (-1) 9) (q_wor uCa uW (64 * jf + v.toNatClampNeg) 9) v s) (nv - n0) n0 (rb, rz)).1 ∧ uCa2 = q_z uCa (9 * (64 * jf + (uO (q_gor (fun v => uK2 (64 * jf + v)) uO ((uG jf).toInt64 * (q_mx uW 9).toInt64) (fun v s => q_loo (q_st (fun k => q_ke uCe uA uB uM uCa uL nc np (64 * jf + v.toNatClampNeg) k) (-1) 9) (q_wor uCa uW (64 * jf + v.toNatClampNeg) 9) v s) (nv - n0) n0 (rb, rz)).1).toNatClampNeg)) 9 ∧ uL2 = q_z uL (5 * (64 * jf + (uO (q_gor (fun v => uK2 (64 * jf + v)) uO ((uG jf).toInt64 * (q_mx uW 9).toInt64) (fun v s => q_loo (q_st (fun k => q_ke uCe uA uB uM uCa uL nc np (64 * jf + v.toNatClampNeg) k) (-1) 9) (q_wor uCa uW (64 * jf + v.toNatClampNeg) 9) v s) (nv - n0) n0 (rb, rz)).1).toNatClampNeg)) 5) ∨ ((q_gor (fun v => uK2 (64 * jf + v)) uO ((uG jf).toInt64 * (q_mx uW 9).toInt64) (fun v s => q_loo (q_st (fun k => q_ke uCe uA uB uM uCa uL nc np (64 * jf + v.toNatClampNeg) k) (-1) 9) (q_wor uCa uW (64 * jf + v.toNatClampNeg) 9) v s) (nv - n0) n0 (rb, rz)).2.2 = false ∧ r2 = 0 ∧ rg2 = 0 ∧ re2 = 1 ∧ rq2 = -1 ∧ uCa2 = uCa ∧ uL2 = uL))))) : r1 = r2 ∧ ∃ n02 : Nat, i_K nf nv (va_up CT jf ct2) (va_up FK jf fK2) uK2 ∧ i_G (va_up FG jf fG2) (va_up FO jf fO2) uCa2 uL2 ∧ i_S nf nv n02 AA sv go2 ak2 be2 bw2 pt2 ln rd rg2 re2 rl2 rq2 rb2 rz2 fOr uO := by
  obtain ⟨e1, e2, hnc, e3, e4, h5, h6, e7, e8, hS, hT⟩ := h_M
  obtain ⟨g1, g2, hnp, hr, g3, g4, g5⟩ := h_R
  obtain ⟨w1, w2⟩ := h_W
  obtain ⟨f1, f2, f3, f4⟩ := h_F
  obtain ⟨s1, s2, s3, s4, s5, s6, s7⟩ := h_S
  obtain ⟨u1, u2, u3⟩ := f4 jf hj
  obtain ⟨j', j1, j2, j3, j4, j5, j6, j7, j8, j9⟩ := s7.resolve_left (fun z => hg z.2.2.1)
  rw [g3, g4, g5, w1, s1, s3, s4] at h2
  rw [g1, u1] at h1
  obtain ⟨_, K1, b1, b2, b4⟩ := h1.resolve_left (fun z => hg z.1)
  obtain ⟨_, K2, d1, d2, d3, d4⟩ := h2.resolve_left (fun z => hg z.1)
  have hak : ak = -1 ∨ ∃ a, a < nv ∧ ak = nI a := s5.imp id (fun z => z.2)
  have hK2 := i_K_keep h_K hj h6 hak K1 K2
  have hbs : e_bs (be, bw) (rb, rz) := by
    rcases s6 with ⟨x, y, z⟩ | ⟨⟨a, ha, x⟩, y, z⟩
    · exact Or.inl ⟨x, y, z⟩
    · refine Or.inr ⟨?_, ?_, ?_⟩
      · show ¬ be < 0
        rw [x]; exact nI_pos (by omega)
      · show ¬ be = -1
        rw [x]; exact e_nIm1 (by omega)
      · rw [y, z]
  have hb := e_bnd (g := uG jf) w2 (by omega) u3
  have fkk : ∀ v, v < 64 → fK2 v = uK2 (64 * jf + v) := by
    intro v hv
    have q := (hK2.1 jf hj v hv).1
    rw [e_up2, if_pos rfl] at q
    exact q
  have ho : ∀ j, j < nv → fK2 (fOr j).toNatClampNeg = (fun v => uK2 (64 * jf + v)) (fOr j).toNatClampNeg ∧ ∀ s t, e_bs s t → e_bs ((fun v s => q_wg (q_kept (FG jf) (FO jf) fPo fKi fAb fBe fM np v.toNatClampNeg) (q_told (nI np) fM 5) (q_wo (FG jf) fW v.toNatClampNeg 9) v s) (fOr j) s) ((fun v s => q_loo (q_st (fun k => q_ke uCe fAb fBe fM uCa uL nc np (64 * jf + v.toNatClampNeg) k) (-1) 9) (q_wor uCa fW (64 * jf + v.toNatClampNeg) 9) v s) (fOr j) t) := by
    intro j hj2
    obtain ⟨a, ha, ea⟩ := j9 j hj2
    refine ⟨fkk _ (by rw [ea, nI_clamp (by omega)]; omega), fun s t h => ?_⟩
    have hcp := (h_G jf (by omega) a (by omega)).1
    show e_bs (q_wg (q_kept (FG jf) (FO jf) fPo fKi fAb fBe fM np (fOr j).toNatClampNeg) (q_told (nI np) fM 5) (q_wo (FG jf) fW (fOr j).toNatClampNeg 9) (fOr j) s) (q_loo (q_st (fun k => q_ke uCe fAb fBe fM uCa uL nc np (64 * jf + (fOr j).toNatClampNeg) k) (-1) 9) (q_wor uCa fW (64 * jf + (fOr j).toNatClampNeg) 9) (fOr j) t)
    rw [ea, nI_clamp (by omega), ← e_wo (fW := fW) hcp 9 (Nat.le_refl _)]
    exact e_wg (nI_pos (by omega)) (e_nIm1 (by omega)) (e_stand hnp hnc hr hcp) h
  obtain ⟨E1, E2, E3⟩ := e_go (fK := fK2) (uK := fun v => uK2 (64 * jf + v)) (fOr := fOr) (bnd := (uG jf).toInt64 * (q_mx fW 9).toInt64) (wg := (fun v s => q_wg (q_kept (FG jf) (FO jf) fPo fKi fAb fBe fM np v.toNatClampNeg) (q_told (nI np) fM 5) (q_wo (FG jf) fW v.toNatClampNeg 9) v s)) (lk := (fun v s => q_loo (q_st (fun k => q_ke uCe fAb fBe fM uCa uL nc np (64 * jf + v.toNatClampNeg) k) (-1) 9) (q_wor uCa fW (64 * jf + v.toNatClampNeg) 9) v s)) hb (B := nv) ho (nv - n0) n0 (be, bw) (rb, rz) (by omega) hbs
  have EI := e_go_in (fK := fK2) (fOr := fOr) (bnd := (uG jf).toInt64 * (q_mx fW 9).toInt64) (wg := (fun v s => q_wg (q_kept (FG jf) (FO jf) fPo fKi fAb fBe fM np v.toNatClampNeg) (q_told (nI np) fM 5) (q_wo (FG jf) fW v.toNatClampNeg 9) v s)) (nv - n0) n0 (be, bw)
  have EB := e_go_b (fK := fK2) (fOr := fOr) (bnd := (uG jf).toInt64 * (q_mx fW 9).toInt64) (wg := (fun v s => q_wg (q_kept (FG jf) (FO jf) fPo fKi fAb fBe fM np v.toNatClampNeg) (q_told (nI np) fM 5) (q_wo (FG jf) fW v.toNatClampNeg 9) v s)) (B := nv) (P := fun y => y = -1 ∨ ∃ a, a < nv ∧ y = nI a) (fun j hj2 s hs => by
    show (fun y => y = -1 ∨ ∃ a, a < nv ∧ y = nI a) (q_wg _ _ _ _ s).1
    unfold q_wg
    repeat' split
    all_goals first | exact hs | exact Or.inr (j9 j hj2)) (nv - n0) n0 (be, bw) (by omega) (s6.imp (fun z => z.1) (fun z => z.1))
  rw [← E1] at d3
  rw [← E1, ← E3] at d4
  generalize q_go fK2 fOr ((uG jf).toInt64 * (q_mx fW 9).toInt64) (fun v s => q_wg (q_kept (FG jf) (FO jf) fPo fKi fAb fBe fM np v.toNatClampNeg) (q_told (nI np) fM 5) (q_wo (FG jf) fW v.toNatClampNeg 9) v s) (nv - n0) n0 (be, bw) = GC at b1 b2 b4 d3 d4 E1 E2 E3 EI EB
  generalize q_gor (fun v => uK2 (64 * jf + v)) fOr ((uG jf).toInt64 * (q_mx fW 9).toInt64) (fun v s => q_loo (q_st (fun k => q_ke uCe fAb fBe fM uCa uL nc np (64 * jf + v.toNatClampNeg) k) (-1) 9) (q_wor uCa fW (64 * jf + v.toNatClampNeg) 9) v s) (nv - n0) n0 (rb, rz) = GR at d1 d2 E1 E2 E3
  obtain ⟨ga, ⟨gb, gc⟩, gd⟩ := GC
  obtain ⟨ha, ⟨hb2, hc⟩, hd⟩ := GR
  simp only at b1 b2 b4 d1 d2 d3 d4 E1 E2 E3 EI EB
  have best : (be2 = -1 ∧ rb2 = -1 ∧ bw2 = -9223372036854775808) ∨ ((∃ a, a < nv ∧ be2 = nI a) ∧ rb2 = be2 ∧ rz2 = bw2) := by
    rw [b1, b2, d1, d2]
    rcases E2 with ⟨x, y, z⟩ | ⟨x, y, z⟩
    · exact Or.inl ⟨x, y, z⟩
    · obtain ⟨z1, z2⟩ := Prod.mk.inj z
      exact Or.inr ⟨EB.resolve_left y, z1.symm, z2.symm⟩
  have go1 : go = 1 := s2.resolve_left hg
  rcases b4 with ⟨x1, x2, x3, x4, x5, x6, x7⟩ | ⟨x1, x2, x3, x4, x5, x6, _⟩
  · obtain ⟨y1, y2, y3, y4, y5, y6, y7⟩ := d4.resolve_right (fun z => by rw [x1] at z; exact absurd z.1 (by decide))
    have hga : ga < nv := by have := EI.2.2 x1; omega
    obtain ⟨a, ha2, ea⟩ := j9 ga hga
    have ec : (fOr ga).toNatClampNeg = a := by rw [ea, nI_clamp (by omega)]
    rw [ec] at x5 x6 y6 y7
    refine ⟨by rw [x2, y2], ga, hK2, ?_, ⟨by rw [x3, y3], Or.inr (by rw [x3]; exact go1), by rw [x4, y5], s4, Or.inr ⟨by rw [x3]; exact go1, a, ha2, by rw [x4, ea]⟩, best, Or.inr ⟨j', j1, j2, j3, by rw [y4, x3]; exact j4, fun _ => x7, d3, by omega, j8, j9⟩⟩⟩
    rw [x5, x6, y6, y7]
    exact i_G_z h_G (by omega)
  · obtain ⟨y1, y2, y3, y4, y5, y6, y7⟩ := d4.resolve_left (fun z => by rw [x1] at z; exact absurd z.1 (by decide))
    refine ⟨by rw [x2, y2], ga, hK2, ?_, ⟨by rw [x3, y3], Or.inl x3, by rw [x4, y5], s4, Or.inl x4, best, Or.inr ⟨j', j1, j2, j3, by rw [y4, x3]; rfl, fun z => absurd x3 z, d3, by omega, j8, j9⟩⟩⟩
    rw [x5, x6, y6, y7, e_upid, e_upid]
    exact h_G
