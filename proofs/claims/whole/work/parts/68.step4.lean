theorem e_oth {fG fO uCa uL : Nat → Int32} {jv jt jk : Nat} (h : e_cp fG fO uCa uL jv jt) (hp : ∀ k, k < 9 → ¬ fG (jv * 9 + k) < 0) : ∀ n, n ≤ 9 → q_oth fG jv jk n = q_othr uCa (9 * jt) jk n ∧ 0 ≤ (q_oth fG jv jk n).toInt ∧ (q_oth fG jv jk n).toInt ≤ n * 2147483648
  | 0, _ => ⟨rfl, by rw [q_oth]; decide, by rw [q_oth]; decide⟩
  | n + 1, q => by
    obtain ⟨a, b, d⟩ := e_oth h hp n (by omega)
    simp only [q_oth, q_othr]
    by_cases w : n = jk
    · rw [if_pos w, if_pos w]
      exact ⟨by rw [a]; exact (Int64.add_zero _).symm, b, by omega⟩
    · rw [if_neg w, if_neg w]
      have p0 : 0 ≤ (fG (jv * 9 + n)).toInt := by
        have := fun z => hp n (by omega) (Int32.lt_iff_toInt_lt.mpr z)
        have t0 : (0 : Int32).toInt = 0 := by decide
        rcases Int.lt_or_le (fG (jv * 9 + n)).toInt 0 with y | y
        · exact absurd (by rw [t0]; exact y) this
        · exact y
      have p1 : (fG (jv * 9 + n)).toInt < 2147483648 := Int32.toInt_lt _
      have e : (q_oth fG jv jk n + (fG (jv * 9 + n)).toInt64).toInt = (q_oth fG jv jk n).toInt + (fG (jv * 9 + n)).toInt := by
        rw [Int64.toInt_add, Int32.toInt_toInt64, Int.bmod_eq_of_le (by omega) (by omega)]
      refine ⟨by rw [a, h.1 n (by omega)], by rw [e]; omega, by rw [e]; omega⟩
theorem e_tg {a F S : Int64} (ha : ¬ a < 0) (h1 : 0 ≤ F.toInt) (h2 : F.toInt ≤ 1000000) (h3 : 0 ≤ S.toInt) (h4 : S.toInt ≤ 9 * 2147483648) : (a ≤ F ∧ S + a ≤ F) ↔ a ≤ F - S := by
  have t0 : (0 : Int64).toInt = 0 := by decide
  have a0 : 0 ≤ a.toInt := by
    rcases Int.lt_or_le a.toInt 0 with y | y
    · exact absurd (Int64.lt_iff_toInt_lt.mpr (by rw [t0]; exact y)) ha
    · exact y
  have e1 : (F - S).toInt = F.toInt - S.toInt := by rw [Int64.toInt_sub, Int.bmod_eq_of_le (by omega) (by omega)]
  rw [Int64.le_iff_toInt_le, Int64.le_iff_toInt_le, Int64.le_iff_toInt_le, e1]
  constructor
  · rintro ⟨x, y⟩
    rw [Int64.toInt_add, Int.bmod_eq_of_le (by omega) (by omega)] at y
    omega
  · intro x
    refine ⟨by omega, ?_⟩
    rw [Int64.toInt_add, Int.bmod_eq_of_le (by omega) (by omega)]
    omega
theorem e_to32 {a : Int64} (ha : ¬ a < 0) (h : a.toInt ≤ 1000000) : ¬ a.toInt32 < 0 := by
  have t0 : (0 : Int64).toInt = 0 := by decide
  have t1 : (0 : Int32).toInt = 0 := by decide
  have a0 : 0 ≤ a.toInt := by
    rcases Int.lt_or_le a.toInt 0 with y | y
    · exact absurd (Int64.lt_iff_toInt_lt.mpr (by rw [t0]; exact y)) ha
    · exact y
  intro q
  have q1 := Int32.lt_iff_toInt_lt.mp q
  rw [Int64.toInt_toInt32, Int.bmod_eq_of_le (by omega) (by omega), t1] at q1
  omega
theorem e_up2 {α : Type} (f : Nat → α) (k j : Nat) (v : α) : va_up f k v j = if j = k then v else f j := rfl
theorem i_G_g {FG FO : Nat → Nat → Int32} {uCa uL : Nat → Int32} {jf jv jk : Nat} {y : Int32} (h : i_G FG FO uCa uL) (hjv : jv < 64) (hjk : jk < 9) (hy : ¬ y < 0) : i_G (va_up FG jf (upd (FG jf) (jv * 9 + jk) y)) FO (upd uCa (9 * (64 * jf + jv) + jk) y) uL := by
  intro j hj v hv
  obtain ⟨⟨a, b⟩, d⟩ := h j hj v hv
  refine ⟨⟨fun k hk => ?_, b⟩, fun k hk => ?_⟩
  · rw [e_up2, e_upd]
    by_cases w : j = jf
    · rw [if_pos w, e_upd, ← w]
      by_cases w2 : v * 9 + k = jv * 9 + jk
      · rw [if_pos w2, if_pos (by omega)]
      · rw [if_neg w2, if_neg (by omega)]; exact a k hk
    · rw [if_neg w, if_neg (by omega)]; exact a k hk
  · rw [e_up2]
    by_cases w : j = jf
    · rw [if_pos w, e_upd, ← w]
      by_cases w2 : v * 9 + k = jv * 9 + jk
      · rw [if_pos w2]; exact hy
      · rw [if_neg w2]; exact d k hk
    · rw [if_neg w]; exact d k hk
theorem i_G_o {FG FO : Nat → Nat → Int32} {uCa uL : Nat → Int32} {jf jv jk : Nat} {y : Int32} (h : i_G FG FO uCa uL) (hjv : jv < 64) (hjk : jk < 5) : i_G FG (va_up FO jf (upd (FO jf) (jv * 5 + jk) y)) uCa (upd uL (5 * (64 * jf + jv) + jk) y) := by
  intro j hj v hv
  obtain ⟨⟨a, b⟩, d⟩ := h j hj v hv
  refine ⟨⟨a, fun k hk => ?_⟩, d⟩
  rw [e_up2, e_upd]
  by_cases w : j = jf
  · rw [if_pos w, e_upd, ← w]
    by_cases w2 : v * 5 + k = jv * 5 + jk
    · rw [if_pos w2, if_pos (by omega)]
    · rw [if_neg w2, if_neg (by omega)]; exact b k hk
  · rw [if_neg w, if_neg (by omega)]; exact b k hk
theorem i_G_id {FG FO : Nat → Nat → Int32} {uCa uL : Nat → Int32} (h : i_G FG FO uCa uL) (jf : Nat) : i_G (va_up FG jf (FG jf)) FO uCa uL ∧ i_G FG (va_up FO jf (FO jf)) uCa uL := by
  have e : ∀ (f : Nat → Nat → Int32), va_up f jf (f jf) = f := by
    intro f
    funext j
    rw [e_up2]
    by_cases w : j = jf
    · rw [if_pos w, w]
    · rw [if_neg w]
  rw [e, e]
  exact ⟨h, h⟩
theorem st_answer {ak : Int32} {p1 : Int32} {k1 : Int32} {FD : Nat → Int64} {jf : Nat} {FG : Nat → Nat → Int32} {a1 : Int64} {r1 : Int32} {fG2 : Nat → Int32} {uG : Nat → Int32} {uCa : Nat → Int32} {rq : Int32} {r2 : Int32} {uCa2 : Nat → Int32} {FO : Nat → Nat → Int32} {uL : Nat → Int32} {nf : Nat} {us : Int32} {rf : Int32} (h_F : i_F nf us rf FD uG) (h_G : i_G FG FO uCa uL) (hj : jf < nf) (hrq : rq = ak) (hak : ¬ ak = -1) (hak2 : ak.toNatClampNeg < 64) (h1 : (¬ ak = -1 ∧ ¬ q_pl p1 k1 = -1 ∧ ((q_tgOk (FD jf) (FG jf) ak.toNatClampNeg ((q_pl p1 k1).toNatClampNeg) a1 ∧ r1 = 1 ∧ fG2 = upd (FG jf) (ak.toNatClampNeg * 9 + ((q_pl p1 k1).toNatClampNeg)) a1.toInt32) ∨ (¬ q_tgOk (FD jf) (FG jf) ak.toNatClampNeg ((q_pl p1 k1).toNatClampNeg) a1 ∧ r1 = 0 ∧ fG2 = (FG jf)))) ∨ ((ak = -1 ∨ q_pl p1 k1 = -1) ∧ r1 = 0 ∧ fG2 = (FG jf))) (h2 : ((¬ q_pl p1 k1 = -1 ∧ ¬ a1 < 0 ∧ a1 ≤ (uG jf).toInt64 - q_othr uCa (9 * (64 * jf + rq.toNatClampNeg)) (q_pl p1 k1).toNatClampNeg 9) ∧ r2 = 1 ∧ uCa2 = upd uCa (9 * (64 * jf + rq.toNatClampNeg) + (q_pl p1 k1).toNatClampNeg) a1.toInt32) ∨ (¬ (¬ q_pl p1 k1 = -1 ∧ ¬ a1 < 0 ∧ a1 ≤ (uG jf).toInt64 - q_othr uCa (9 * (64 * jf + rq.toNatClampNeg)) (q_pl p1 k1).toNatClampNeg 9) ∧ r2 = 0 ∧ uCa2 = uCa)) : r1 = r2 ∧ i_G (va_up FG jf fG2) FO uCa2 uL := by
  obtain ⟨f1, f2, f3, f4⟩ := h_F
  obtain ⟨u1, u2, u3⟩ := f4 jf hj
  rw [hrq] at h2
  by_cases p : q_pl p1 k1 = -1
  · obtain ⟨_, a, b⟩ := h1.resolve_left (fun z => z.2.1 p)
    obtain ⟨_, d, e⟩ := h2.resolve_left (fun z => z.1.1 p)
    exact ⟨by rw [a, d], by rw [b, e]; exact (i_G_id h_G jf).1⟩
  · obtain ⟨_, _, w⟩ := h1.resolve_right (fun z => z.1.elim hak p)
    have hk := q_pl_ok p
    have hv : ak.toNatClampNeg < 64 := hak2
    obtain ⟨ge, gp⟩ := h_G jf (by omega) ak.toNatClampNeg hv
    obtain ⟨s1, s2, s3⟩ := e_oth (jk := (q_pl p1 k1).toNatClampNeg) ge gp 9 (Nat.le_refl _)
    have key : q_tgOk (FD jf) (FG jf) ak.toNatClampNeg (q_pl p1 k1).toNatClampNeg a1 ↔ (¬ q_pl p1 k1 = -1 ∧ ¬ a1 < 0 ∧ a1 ≤ (uG jf).toInt64 - q_othr uCa (9 * (64 * jf + ak.toNatClampNeg)) (q_pl p1 k1).toNatClampNeg 9) := by
      rw [u1, ← s1]
      constructor
      · rintro ⟨x, y, z⟩
        exact ⟨p, x, (e_tg x (by rw [Int32.toInt_toInt64]; omega) (by rw [Int32.toInt_toInt64]; omega) s2 (by omega)).mp ⟨y, z⟩⟩
      · rintro ⟨_, x, y⟩
        have := (e_tg x (by rw [Int32.toInt_toInt64]; omega) (by rw [Int32.toInt_toInt64]; omega) s2 (by omega)).mpr y
        exact ⟨x, this.1, this.2⟩
    by_cases q : q_tgOk (FD jf) (FG jf) ak.toNatClampNeg (q_pl p1 k1).toNatClampNeg a1
    · obtain ⟨_, a, b⟩ := w.resolve_right (fun z => z.1 q)
      obtain ⟨_, d, e⟩ := h2.resolve_right (fun z => z.1 (key.mp q))
      refine ⟨by rw [a, d], ?_⟩
      rw [b, e]
      refine i_G_g h_G hv hk.2.2.2.2.2.1 (e_to32 q.1 ?_)
      have := Int64.le_iff_toInt_le.mp q.2.1
      rw [u1, Int32.toInt_toInt64] at this
      omega
    · obtain ⟨_, a, b⟩ := w.resolve_left (fun z => q z.1)
      obtain ⟨_, d, e⟩ := h2.resolve_left (fun z => q (key.mpr z.1))
      exact ⟨by rw [a, d], by rw [b, e]; exact (i_G_id h_G jf).1⟩
theorem st_load {ak : Int32} {m1 : Int32} {cnt : Int32} {x1 : Int32} {r1 : Int32} {fO2 : Nat → Int32} {FO : Nat → Nat → Int32} {jf : Nat} {rc : Int32} {r2 : Int32} {uL2 : Nat → Int32} {uL : Nat → Int32} {rq : Int32} {FG : Nat → Nat → Int32} {uCa : Nat → Int32} {nf : Nat} {us : Int32} {rf : Int32} {FD : Nat → Int64} {uG : Nat → Int32} {nc : Nat} (h_F : i_F nf us rf FD uG) (h_G : i_G FG FO uCa uL) (hj : jf < nf) (hrq : rq = ak) (hak : ¬ ak = -1) (hak2 : ak.toNatClampNeg < 64) (hrc2 : rc = cnt) (hcn : cnt = nI nc) (hnc : nc ≤ 5) (h1 : (¬ ak = -1 ∧ ¬ m1 < 0 ∧ ¬ cnt ≤ m1 ∧ (((¬ x1 < 0 ∧ x1 ≤ 1000000) ∧ r1 = 1 ∧ fO2 = upd (FO jf) (ak.toNatClampNeg * 5 + m1.toNatClampNeg) x1) ∨ (¬ (¬ x1 < 0 ∧ x1 ≤ 1000000) ∧ r1 = 0 ∧ fO2 = (FO jf)))) ∨ ((ak = -1 ∨ m1 < 0 ∨ cnt ≤ m1) ∧ r1 = 0 ∧ fO2 = (FO jf))) (h2 : ((¬ m1 < 0 ∧ ¬ rc ≤ m1 ∧ ¬ x1 < 0 ∧ x1 ≤ 1000000) ∧ r2 = 1 ∧ uL2 = upd uL (5 * (64 * jf + rq.toNatClampNeg) + m1.toNatClampNeg) x1) ∨ (¬ (¬ m1 < 0 ∧ ¬ rc ≤ m1 ∧ ¬ x1 < 0 ∧ x1 ≤ 1000000) ∧ r2 = 0 ∧ uL2 = uL)) : r1 = r2 ∧ i_G FG (va_up FO jf fO2) uCa uL2 := by
  obtain ⟨f1, f2, f3, f4⟩ := h_F
  rw [hrq, hrc2] at h2
  by_cases p : m1 < 0 ∨ cnt ≤ m1
  · obtain ⟨_, a, b⟩ := h1.resolve_left (fun z => p.elim z.2.1 z.2.2.1)
    obtain ⟨_, d, e⟩ := h2.resolve_left (fun z => p.elim z.1.1 z.1.2.1)
    exact ⟨by rw [a, d], by rw [b, e]; exact (i_G_id h_G jf).2⟩
  · have n1 : ¬ m1 < 0 := fun z => p (Or.inl z)
    have n2 : ¬ cnt ≤ m1 := fun z => p (Or.inr z)
    obtain ⟨_, _, _, w⟩ := h1.resolve_right (fun z => z.1.elim hak p)
    by_cases q : ¬ x1 < 0 ∧ x1 ≤ 1000000
    · obtain ⟨_, a, b⟩ := w.resolve_right (fun z => z.1 q)
      obtain ⟨_, d, e⟩ := h2.resolve_right (fun z => z.1 ⟨n1, n2, q.1, q.2⟩)
      refine ⟨by rw [a, d], ?_⟩
      rw [b, e]
      exact i_G_o h_G hak2 (by have := ix_lt n1 n2 hcn (by omega); omega)
    · obtain ⟨_, a, b⟩ := w.resolve_left (fun z => q z.1)
      obtain ⟨_, d, e⟩ := h2.resolve_left (fun z => q ⟨z.1.2.2.1, z.1.2.2.2⟩)
      exact ⟨by rw [a, d], by rw [b, e]; exact (i_G_id h_G jf).2⟩
