/-! Standing, weighing, the walk through the order, the greatest worth. -/
theorem e_nIm1 {i : Nat} (h : i < 100) : ¬ nI i = -1 := by
  intro q
  have := congrArg Int32.toInt q
  rw [nI_toInt (by omega)] at this
  have e : (-1 : Int32).toInt = -1 := by decide
  omega
theorem e_stand {fG fO fPo fKi fAb fBe fM uCe uCa uL : Nat → Int32} {np nc jv jt : Nat} (hnp : np ≤ 4) (hnc : nc ≤ 5) (hr : e_ru fPo fKi uCe fM np nc) (h : e_cp fG fO uCa uL jv jt) :
    q_kept fG fO fPo fKi fAb fBe fM np jv = q_told (nI np) fM 5 ↔ ¬ q_st (fun k => q_ke uCe fAb fBe fM uCa uL nc np jt k) (-1) 9 = 0 := by
  rw [e_st]
  constructor
  · intro q i hi
    obtain ⟨h1, h2⟩ := e_ke (fAb := fAb) (fBe := fBe) hnp hnc hr h hi
    refine Or.inr ?_
    cases ht : e_b (q_told (nI np) fM 5) i with
    | true => exact (h1 ht).mp (by rw [q]; exact ht)
    | false => rw [(h2 ht).1]; decide
  · intro q
    refine e_bext (fun i hi => ?_)
    rcases Nat.lt_or_ge i 9 with h9 | h9
    · obtain ⟨h1, h2⟩ := e_ke (fAb := fAb) (fBe := fBe) hnp hnc hr h h9
      cases ht : e_b (q_told (nI np) fM 5) i with
      | true => exact (h1 ht).mpr ((q i h9).resolve_left (e_nIm1 (by omega)))
      | false => exact (h2 ht).2
    · obtain ⟨h1, h2⟩ := e_hi (fG := fG) (fO := fO) (fPo := fPo) (fKi := fKi) (fAb := fAb) (fBe := fBe) (fM := fM) (jv := jv) hnp h9 hi
      rw [h1, h2]
/-- a set of told rules that a row keeps -/
theorem e_set {fG fO fPo fKi fAb fBe fM uCe uCa uL : Nat → Int32} {np nc jv jt : Nat} {z : Int32} (hnp : np ≤ 4) (hnc : nc ≤ 5) (hr : e_ru fPo fKi uCe fM np nc) (h : e_cp fG fO uCa uL jv jt) (hz : z &&& q_told (nI np) fM 5 = z) :
    q_kept fG fO fPo fKi fAb fBe fM np jv &&& z = z ↔ ∀ i, i < 9 → e_b z i = true → ¬ q_ke uCe fAb fBe fM uCa uL nc np jt i = 0 := by
  have hz' : ∀ i, i < 32 → e_b z i = true → e_b (q_told (nI np) fM 5) i = true := by
    intro i hi q
    rw [← hz, e_band] at q
    exact (Bool.and_eq_true _ _ ▸ q).2
  rw [e_sub]
  constructor
  · intro q i hi hb
    exact ((e_ke (fAb := fAb) (fBe := fBe) hnp hnc hr h hi).1 (hz' i (by omega) hb)).mp (q i (by omega) hb)
  · intro q i hi hb
    rcases Nat.lt_or_ge i 9 with h9 | h9
    · exact ((e_ke (fAb := fAb) (fBe := fBe) hnp hnc hr h h9).1 (hz' i hi hb)).mpr (q i h9 hb)
    · have := (e_hi (fG := fG) (fO := fO) (fPo := fPo) (fKi := fKi) (fAb := fAb) (fBe := fBe) (fM := fM) (jv := jv) hnp h9 hi).1
      rw [hz' i hi hb] at this
      cases this
theorem e_but {fM : Nat → Int32} {np jm i : Nat} (hjm : jm < 5) (hi : i < 32) : e_b (q_told (nI np) fM 5 &&& (((1 : Int32) <<< ((4 + nI jm) &&& 31)) ^^^ (-1 : Int32))) i = (e_b (q_told (nI np) fM 5) i && !decide (i = 4 + jm)) := by
  rw [e_band, e_bxor, e_four, e_bone (by omega) hi, e_bm1 i hi, Bool.xor_true]
theorem e_stand2 {fG fO fPo fKi fAb fBe fM uCe uCa uL : Nat → Int32} {np nc jv jt jm : Nat} (hnp : np ≤ 4) (hnc : nc ≤ 5) (hr : e_ru fPo fKi uCe fM np nc) (h : e_cp fG fO uCa uL jv jt) (hjm : jm < 5) :
    q_kept fG fO fPo fKi fAb fBe fM np jv &&& (q_told (nI np) fM 5 &&& (((1 : Int32) <<< ((4 + nI jm) &&& 31)) ^^^ (-1 : Int32))) = (q_told (nI np) fM 5 &&& (((1 : Int32) <<< ((4 + nI jm) &&& 31)) ^^^ (-1 : Int32))) ↔ ¬ q_st (fun k => q_ke uCe fAb fBe fM uCa uL nc np jt k) (4 + nI jm) 9 = 0 := by
  have hz : (q_told (nI np) fM 5 &&& (((1 : Int32) <<< ((4 + nI jm) &&& 31)) ^^^ (-1 : Int32))) &&& q_told (nI np) fM 5 = (q_told (nI np) fM 5 &&& (((1 : Int32) <<< ((4 + nI jm) &&& 31)) ^^^ (-1 : Int32))) := by
    refine e_bext (fun i hi => ?_)
    rw [e_band, e_but hjm hi]
    cases e_b (q_told (nI np) fM 5) i <;> simp
  rw [e_set hnp hnc hr h hz, e_st, e_four]
  constructor
  · intro q i hi
    by_cases hj : i = 4 + jm
    · exact Or.inl (by rw [hj])
    · refine Or.inr ?_
      cases ht : e_b (q_told (nI np) fM 5) i with
      | true => exact q i hi (by rw [← e_four, e_but hjm (by omega), ht, decide_eq_false hj]; rfl)
      | false => rw [((e_ke (fAb := fAb) (fBe := fBe) hnp hnc hr h hi).2 ht).1]; decide
  · intro q i hi hb
    rw [← e_four, e_but hjm (by omega)] at hb
    have hb2 : ¬ i = 4 + jm := by
      intro z
      rw [decide_eq_true z] at hb
      simp at hb
    exact (q i hi).resolve_left (fun z => hb2 ((nI_eq (by omega) (by omega)).mp z))
/-- the best of both so far -/
abbrev e_bs (s t : Int32 × Int64) : Prop := (s.1 = -1 ∧ t.1 = -1 ∧ s.2 = -9223372036854775808) ∨ (¬ s.1 < 0 ∧ ¬ s.1 = -1 ∧ s = t)
theorem e_wg {kept told st v : Int32} {wo : Int64} {s t : Int32 × Int64} (hv : ¬ v < 0) (hv1 : ¬ v = -1) (hk : kept = told ↔ ¬ st = 0) (h : e_bs s t) : e_bs (q_wg kept told wo v s) (q_loo st wo v t) := by
  unfold q_wg q_loo
  by_cases q : st = 0
  · rw [if_neg (fun z => (hk.mp z) q), if_pos q]; exact h
  · rw [if_pos (hk.mpr q), if_neg q]
    rcases h with ⟨a, b, _⟩ | ⟨a, b, e⟩
    · rw [if_pos a, if_pos (by rw [b]; decide)]; exact Or.inr ⟨hv, hv1, rfl⟩
    · subst e
      rw [if_neg b, if_neg a]
      by_cases w : wo ≤ s.2
      · rw [if_pos w]; exact Or.inr ⟨a, b, rfl⟩
      · rw [if_neg w]; exact Or.inr ⟨hv, hv1, rfl⟩
theorem e_go {fK uK fOr : Nat → Int32} {bnd : Int64} {wg lk : Int32 → Int32 × Int64 → Int32 × Int64} (hb : ¬ bnd = -9223372036854775808) {B : Nat} (ho : ∀ j, j < B → fK (fOr j).toNatClampNeg = uK (fOr j).toNatClampNeg ∧ ∀ s t, e_bs s t → e_bs (wg (fOr j) s) (lk (fOr j) t)) :
    ∀ n a s t, n + a ≤ B → e_bs s t → (q_go fK fOr bnd wg n a s).1 = (q_gor uK fOr bnd lk n a t).1 ∧ e_bs (q_go fK fOr bnd wg n a s).2.1 (q_gor uK fOr bnd lk n a t).2.1 ∧ (q_go fK fOr bnd wg n a s).2.2 = (q_gor uK fOr bnd lk n a t).2.2
  | 0, a, s, t, _, h => ⟨rfl, h, rfl⟩
  | n + 1, a, s, t, hB, h => by
    obtain ⟨h1, h2⟩ := ho a (by omega)
    have hc : s.2 = bnd ↔ (¬ t.1 < 0 ∧ t.2 = bnd) := by
      rcases h with ⟨_, y, z⟩ | ⟨x, _, e⟩
      · exact ⟨fun q => absurd (q.symm.trans z) hb, fun q => absurd (by rw [y]; decide) q.1⟩
      · rw [← e]; exact ⟨fun q => ⟨x, q⟩, fun q => q.2⟩
    simp only [q_go, q_gor]
    by_cases q : s.2 = bnd
    · rw [if_pos q, if_pos (hc.mp q)]; exact ⟨rfl, h, rfl⟩
    · rw [if_neg q, if_neg (fun z => q (hc.mpr z)), ← h1]
      by_cases k : fK (fOr a).toNatClampNeg = 0
      · rw [if_pos k, if_pos k]; exact ⟨rfl, h, rfl⟩
      · rw [if_neg k, if_neg k]
        exact e_go hb ho n (a + 1) _ _ (by omega) (h2 s t h)
/-- where the walk stops to ask, it is within the order -/
theorem e_go_in {fK fOr : Nat → Int32} {bnd : Int64} {wg : Int32 → Int32 × Int64 → Int32 × Int64} : ∀ n a s, a ≤ (q_go fK fOr bnd wg n a s).1 ∧ (q_go fK fOr bnd wg n a s).1 ≤ a + n ∧ ((q_go fK fOr bnd wg n a s).2.2 = true → (q_go fK fOr bnd wg n a s).1 < a + n)
  | 0, a, s => ⟨Nat.le_refl _, Nat.le_refl _, fun q => by cases q⟩
  | n + 1, a, s => by
    simp only [q_go]
    by_cases q : s.2 = bnd
    · rw [if_pos q]; exact ⟨Nat.le_refl _, by show a ≤ _; omega, fun z => by cases z⟩
    · rw [if_neg q]
      by_cases k : fK (fOr a).toNatClampNeg = 0
      · rw [if_pos k]; exact ⟨Nat.le_refl _, by show a ≤ _; omega, fun _ => by show a < _; omega⟩
      · rw [if_neg k]
        obtain ⟨h1, h2, h3⟩ := e_go_in (fK := fK) (fOr := fOr) (bnd := bnd) (wg := wg) n (a + 1) (wg (fOr a) s)
        exact ⟨by omega, by omega, fun z => by have := h3 z; omega⟩
/-- the best is one of the order's vectors, or what it was -/
theorem e_go_b {fK fOr : Nat → Int32} {bnd : Int64} {wg : Int32 → Int32 × Int64 → Int32 × Int64} {B : Nat} {P : Int32 → Prop} (hw : ∀ j, j < B → ∀ s, P s.1 → P (wg (fOr j) s).1) : ∀ n a s, n + a ≤ B → P s.1 → P (q_go fK fOr bnd wg n a s).2.1.1
  | 0, a, s, _, h => h
  | n + 1, a, s, hB, h => by
    simp only [q_go]
    by_cases q : s.2 = bnd
    · rw [if_pos q]; exact h
    · rw [if_neg q]
      by_cases k : fK (fOr a).toNatClampNeg = 0
      · rw [if_pos k]; exact h
      · rw [if_neg k]; exact e_go_b hw n (a + 1) _ (by omega) (hw a (by omega) s h)
theorem e_gw {fK uK kept st : Nat → Int32} {wo wo' : Nat → Int64} {set : Int32} : ∀ n, (∀ v, v < n → fK v = uK v) → (∀ v, v < n → (kept v &&& set = set ↔ ¬ st v = 0)) → (∀ v, v < n → wo v = wo' v) → q_gw fK kept wo set n = q_gr uK st wo' n
  | 0, _, _, _ => rfl
  | n + 1, h1, h2, h3 => by
    have ih := e_gw n (fun v hv => h1 v (by omega)) (fun v hv => h2 v (by omega)) (fun v hv => h3 v (by omega))
    simp only [q_gw, q_gr]
    rw [ih, h1 n (by omega), h3 n (by omega)]
    by_cases a : uK n = 0
    · rw [if_pos a, if_pos a]
    · rw [if_neg a, if_neg a]
      by_cases b : st n = 0
      · rw [if_pos b, if_neg (fun z => ((h2 n (by omega)).mp z) b)]
      · rw [if_neg b, if_pos ((h2 n (by omega)).mpr b)]
        by_cases c : wo' n ≤ q_gr uK st wo' n
        · rw [if_pos c]
          by_cases d : wo' n < q_gr uK st wo' n
          · rw [if_pos d]
          · rw [if_neg d]; exact Int64.le_antisymm c (Int64.not_lt.mp d)
        · rw [if_neg c, if_neg (fun z => c (Int64.le_of_lt z))]
theorem e_gw_cut {fK kept : Nat → Int32} {wo : Nat → Int64} {set : Int32} {nv : Nat} (h : ∀ v, nv ≤ v → v < 64 → fK v = 0) : ∀ d, nv + d ≤ 64 → q_gw fK kept wo set (nv + d) = q_gw fK kept wo set nv
  | 0, _ => rfl
  | d + 1, q => by
    rw [show nv + (d + 1) = (nv + d) + 1 by omega, q_gw, if_pos (h _ (by omega) (by omega))]
    exact e_gw_cut h d (by omega)
/-- the bound is no number that stands for none -/
theorem e_mx {fW : Nat → Int32} (h : ∀ j, j < 9 → fW j ≤ 1000) : ∀ n, n ≤ 9 → 0 ≤ (q_mx fW n).toInt ∧ (q_mx fW n).toInt ≤ 1000
  | 0, _ => by rw [q_mx]; decide
  | n + 1, q => by
    have ih := e_mx h n (by omega)
    simp only [q_mx]
    split
    · rename_i c
      have c1 := Int32.lt_iff_toInt_lt.mp c
      have c2 := Int32.le_iff_toInt_le.mp (h n (by omega))
      have e : (1000 : Int32).toInt = 1000 := by decide
      omega
    · exact ih
theorem e_bnd {g : Int32} {fW : Nat → Int32} (h : ∀ j, j < 9 → fW j ≤ 1000) (h1 : 0 ≤ g.toInt) (h2 : g.toInt ≤ 1000000) : ¬ g.toInt64 * (q_mx fW 9).toInt64 = -9223372036854775808 := by
  obtain ⟨a, b⟩ := e_mx h 9 (Nat.le_refl _)
  intro q
  have q2 := congrArg Int64.toInt q
  rw [Int64.toInt_mul, Int32.toInt_toInt64, Int32.toInt_toInt64] at q2
  have e : (-9223372036854775808 : Int64).toInt = -9223372036854775808 := by decide
  have m1 : 0 ≤ g.toInt * (q_mx fW 9).toInt := Int.mul_nonneg h1 a
  have m2 : g.toInt * (q_mx fW 9).toInt ≤ 1000000 * 1000 := Int.mul_le_mul h2 b a (by decide)
  rw [e] at q2
  generalize g.toInt * (q_mx fW 9).toInt = x at *
  rw [Int.bmod_eq_of_le (by omega) (by omega)] at q2
  omega
