theorem e_stand3 {fG fO fPo fKi fAb fBe fM uCe uCa uL : Nat → Int32} {np nc jv jt : Nat} (hnp : np ≤ 4) (hnc : nc ≤ 5) (hr : e_ru fPo fKi uCe fM np nc) (h : e_cp fG fO uCa uL jv jt) :
    q_kept fG fO fPo fKi fAb fBe fM np jv &&& q_told (nI np) fM 5 = q_told (nI np) fM 5 ↔ ¬ q_st (fun k => q_ke uCe fAb fBe fM uCa uL nc np jt k) (-1) 9 = 0 := by
  have hself : q_told (nI np) fM 5 &&& q_told (nI np) fM 5 = q_told (nI np) fM 5 := e_sub.mpr (fun _ _ q => q)
  rw [e_set hnp hnc hr h hself, e_st]
  constructor
  · intro q i hi
    refine Or.inr ?_
    cases ht : e_b (q_told (nI np) fM 5) i with
    | true => exact q i hi ht
    | false => rw [((e_ke (fAb := fAb) (fBe := fBe) hnp hnc hr h hi).2 ht).1]; decide
  · intro q i hi _
    exact (q i hi).resolve_left (e_nIm1 (by omega))
theorem e_gwr {FK FG FO : Nat → Nat → Int32} {CT : Nat → Int32} {nf nv np nc jf : Nat} {fPo fKi fAb fBe fM uCe uCa uL uK fW : Nat → Int32} {set x : Int32} (hnv : nv ≤ 64) (hj : jf < nf) (hjf : jf < 4) (hK : i_K nf nv CT FK uK) (hG : i_G FG FO uCa uL) (hs : ∀ v, v < 64 → (q_kept (FG jf) (FO jf) fPo fKi fAb fBe fM np v &&& set = set ↔ ¬ q_st (fun k => q_ke uCe fAb fBe fM uCa uL nc np (64 * jf + v) k) x 9 = 0)) :
    q_gw (FK jf) (q_kept (FG jf) (FO jf) fPo fKi fAb fBe fM np) (fun v => q_wo (FG jf) fW v 9) set 64 = q_gr (fun v => uK (64 * jf + v)) (fun v => q_st (fun k => q_ke uCe fAb fBe fM uCa uL nc np (64 * jf + v) k) x 9) (fun v => q_wor uCa fW (64 * jf + v) 9) nv := by
  have e := e_gw_cut (fK := FK jf) (kept := q_kept (FG jf) (FO jf) fPo fKi fAb fBe fM np) (wo := fun v => q_wo (FG jf) fW v 9) (set := set) (nv := nv) (fun v h1 h2 => (hK.1 jf hj v h2).2.2 h1) (64 - nv) (by omega)
  rw [show nv + (64 - nv) = 64 by omega] at e
  rw [e]
  exact e_gw nv (fun v hv => (hK.1 jf hj v (by omega)).1) (fun v hv => hs v (by omega)) (fun v hv => e_wo (hG jf hjf v (by omega)).1 9 (Nat.le_refl _))
theorem st_room {go : Int32} {m1 : Int32} {cnt : Int32} {FK : Nat → Nat → Int32} {jf : Nat} {FG : Nat → Nat → Int32} {FO : Nat → Nat → Int32} {fPo : Nat → Int32} {fKi : Nat → Int32} {fAb : Nat → Int32} {fBe : Nat → Int32} {fM : Nat → Int32} {np : Nat} {fW : Nat → Int32} {pu : Int32} {r1 : Int64} {rc : Int32} {uK : Nat → Int32} {uCe : Nat → Int32} {uA : Nat → Int32} {uB : Nat → Int32} {uM : Nat → Int32} {uCa : Nat → Int32} {uL : Nat → Int32} {nc : Nat} {uW : Nat → Int32} {nv : Nat} {r2 : Int64} {vec : Int32} {rv : Int32} {fS : Nat → Int32} {fC : Nat → Int32} {fT : Nat → Int32} {uS : Nat → Int32} {uC : Nat → Int32} {rp : Int32} {nf : Nat} {us : Int32} {rf : Int32} {FD : Nat → Int64} {uG : Nat → Int32} {CT : Nat → Int32} (h_M : i_M nc nv cnt vec rc rv fS fC fT uS uC) (h_R : i_R np nc pu rp fPo fKi fAb fBe fM uCe uA uB uM) (h_W : i_W fW uW) (h_F : i_F nf us rf FD uG) (h_K : i_K nf nv CT FK uK) (h_G : i_G FG FO uCa uL) (hj : jf < nf) (hgo : go = 0) (h1 : (go = 0 ∧ ¬ m1 < 0 ∧ ¬ cnt ≤ m1 ∧ ((q_gw (FK jf) (q_kept (FG jf) (FO jf) fPo fKi fAb fBe fM np) (fun v => q_wo (FG jf) fW v 9) (q_told pu fM 5) 64 = (-9223372036854775808) ∧ r1 = (-9223372036854775808)) ∨ (¬ q_gw (FK jf) (q_kept (FG jf) (FO jf) fPo fKi fAb fBe fM np) (fun v => q_wo (FG jf) fW v 9) (q_told pu fM 5) 64 = (-9223372036854775808) ∧ r1 = q_gw (FK jf) (q_kept (FG jf) (FO jf) fPo fKi fAb fBe fM np) (fun v => q_wo (FG jf) fW v 9) ((q_told pu fM 5) &&& ((1 <<< ((4 + m1) &&& 31)) ^^^ (-1))) 64 - q_gw (FK jf) (q_kept (FG jf) (FO jf) fPo fKi fAb fBe fM np) (fun v => q_wo (FG jf) fW v 9) (q_told pu fM 5) 64))) ∨ ((¬ go = 0 ∨ m1 < 0 ∨ cnt ≤ m1) ∧ r1 = (-9223372036854775808))) (h2 : (¬ m1 < 0 ∧ ¬ rc ≤ m1 ∧ ((q_gr (fun v => uK (64 * jf + v)) (fun v => q_st (fun k => q_ke uCe uA uB uM uCa uL nc np (64 * jf + v) k) (-1) 9) (fun v => q_wor uCa uW (64 * jf + v) 9) nv = (-9223372036854775808) ∧ r2 = (-9223372036854775808)) ∨ (¬ q_gr (fun v => uK (64 * jf + v)) (fun v => q_st (fun k => q_ke uCe uA uB uM uCa uL nc np (64 * jf + v) k) (-1) 9) (fun v => q_wor uCa uW (64 * jf + v) 9) nv = (-9223372036854775808) ∧ r2 = q_gr (fun v => uK (64 * jf + v)) (fun v => q_st (fun k => q_ke uCe uA uB uM uCa uL nc np (64 * jf + v) k) (4 + m1) 9) (fun v => q_wor uCa uW (64 * jf + v) 9) nv - q_gr (fun v => uK (64 * jf + v)) (fun v => q_st (fun k => q_ke uCe uA uB uM uCa uL nc np (64 * jf + v) k) (-1) 9) (fun v => q_wor uCa uW (64 * jf + v) 9) nv))) ∨ ((m1 < 0 ∨ rc ≤ m1) ∧ r2 = (-9223372036854775808))) : r1 = r2 := by
  obtain ⟨e1, e2, hnc, e3, e4, h5, h6, e7, e8, hS, hT⟩ := h_M
  obtain ⟨g1, g2, hnp, hr, g3, g4, g5⟩ := h_R
  obtain ⟨w1, w2⟩ := h_W
  obtain ⟨f1, f2, f3, f4⟩ := h_F
  have er : rc = cnt := e2.trans e1.symm
  rw [er, g3, g4, g5, w1] at h2
  rw [g1] at h1
  have hA := e_gwr (fW := fW) (fAb := fAb) (fBe := fBe) (set := q_told (nI np) fM 5) (x := -1) h6 hj (by omega) h_K h_G (fun v hv => e_stand3 (fAb := fAb) (fBe := fBe) hnp hnc hr (h_G jf (by omega) v hv).1)
  by_cases q : m1 < 0 ∨ cnt ≤ m1
  · have a := (h1.resolve_left (fun z => q.elim z.2.1 z.2.2.1)).2
    have b := (h2.resolve_left (fun z => q.elim z.1 z.2.1)).2
    rw [a, b]
  · have n1 : ¬ m1 < 0 := fun z => q (Or.inl z)
    have n2 : ¬ cnt ≤ m1 := fun z => q (Or.inr z)
    have hjm := ix_lt n1 n2 e1 (by omega)
    have em := ix_ge n1
    obtain ⟨_, _, _, a⟩ := h1.resolve_right (fun z => z.1.elim (fun w => w hgo) q)
    obtain ⟨_, _, b⟩ := h2.resolve_right (fun z => q z.1)
    generalize m1.toNatClampNeg = jm at *
    subst em
    have hB := e_gwr (fW := fW) (fAb := fAb) (fBe := fBe) (set := q_told (nI np) fM 5 &&& (((1 : Int32) <<< ((4 + nI jm) &&& 31)) ^^^ (-1 : Int32))) (x := 4 + nI jm) h6 hj (by omega) h_K h_G (fun v hv => e_stand2 (fAb := fAb) (fBe := fBe) hnp hnc hr (h_G jf (by omega) v hv).1 (by omega))
    rw [hA, hB] at a
    rcases a with ⟨a1, a2⟩ | ⟨a1, a2⟩ <;> rcases b with ⟨b1, b2⟩ | ⟨b1, b2⟩
    · rw [a2, b2]
    · exact absurd a1 b1
    · exact absurd b1 a1
    · rw [a2, b2]
theorem st_clash {go : Int32} {r1 : Int32} {FK : Nat → Nat → Int32} {jf : Nat} {FG : Nat → Nat → Int32} {FO : Nat → Nat → Int32} {fPo : Nat → Int32} {fKi : Nat → Int32} {fAb : Nat → Int32} {fBe : Nat → Int32} {fM : Nat → Int32} {np : Nat} {fKR : Nat → Int32} {pu : Int32} {k1 : Int32} {fKR2 : Nat → Int32} {r2 : Int32} {uM : Nat → Int32} {nc : Nat} {uK : Nat → Int32} {uCe : Nat → Int32} {uA : Nat → Int32} {uB : Nat → Int32} {uCa : Nat → Int32} {uL : Nat → Int32} {nv : Nat} {cnt : Int32} {vec : Int32} {rc : Int32} {rv : Int32} {fS : Nat → Int32} {fC : Nat → Int32} {fT : Nat → Int32} {uS : Nat → Int32} {uC : Nat → Int32} {rp : Int32} {nf : Nat} {us : Int32} {rf : Int32} {FD : Nat → Int64} {uG : Nat → Int32} {CT : Nat → Int32} (h_M : i_M nc nv cnt vec rc rv fS fC fT uS uC) (h_R : i_R np nc pu rp fPo fKi fAb fBe fM uCe uA uB uM) (h_F : i_F nf us rf FD uG) (h_K : i_K nf nv CT FK uK) (h_G : i_G FG FO uCa uL) (hj : jf < nf) (hgo : go = 0) (h1 : (go = 0 ∧ r1 = q_na (if q_nk (q_lk (FK jf) (q_kept (FG jf) (FO jf) fPo fKi fAb fBe fM np) fKR 64).1 (q_told pu fM 5) (q_lk (FK jf) (q_kept (FG jf) (FO jf) fPo fKi fAb fBe fM np) fKR 64).2 = true then (q_fc (q_told pu fM 5) (fun z => q_nk (q_lk (FK jf) (q_kept (FG jf) (FO jf) fPo fKi fAb fBe fM np) fKR 64).1 z (q_lk (FK jf) (q_kept (FG jf) (FO jf) fPo fKi fAb fBe fM np) fKR 64).2) 511).2 else 0) k1 9 0 0 ∧ fKR2 = (q_lk (FK jf) (q_kept (FG jf) (FO jf) fPo fKi fAb fBe fM np) fKR 64).1) ∨ (¬ go = 0 ∧ r1 = -1 ∧ fKR2 = fKR)) (h2 : r2 = q_nr (q_cl (q_tr (fun j => q_it uM nc np j) 9) (fun z => q_cb (fun v => q_ca z (uK (64 * jf + v)) (fun k => q_ke uCe uA uB uM uCa uL nc np (64 * jf + v) k) 9) nv) 511) k1 9 0 0) : r1 = r2 := by
  obtain ⟨e1, e2, hnc, e3, e4, h5, h6, e7, e8, hS, hT⟩ := h_M
  obtain ⟨g1, g2, hnp, hr, g3, g4, g5⟩ := h_R
  obtain ⟨f1, f2, f3, f4⟩ := h_F
  rw [g3, g4, g5] at h2
  rw [g1] at h1
  obtain ⟨_, a, _⟩ := h1.resolve_right (fun z => z.1 hgo)
  rw [a, h2]
  exact e_clash hnp hnc h6 hr (fun v hv => (h_G jf (by omega) v hv).1) (fun v hv => (h_K.1 jf hj v hv).1) (fun v h1 h2 => (h_K.1 jf hj v h2).2.2 h1)
