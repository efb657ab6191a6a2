/-! Sets of rules, bit by bit: what the class keeps as a mask, the reference asks rule by rule. (The first rows are of the kit's laws on bits, turned.) -/
def e_b (x : Int32) (i : Nat) : Bool := x.toBitVec.getLsbD i
theorem e_bext {x y : Int32} (h : ∀ i, i < 32 → e_b x i = e_b y i) : x = y := Int32.toBitVec_inj.mp (BitVec.eq_of_getLsbD_eq (fun i hi => h i hi))
theorem e_bor (x y : Int32) (i : Nat) : e_b (x ||| y) i = (e_b x i || e_b y i) := by unfold e_b; rw [Int32.toBitVec_or, BitVec.getLsbD_or]
theorem e_band (x y : Int32) (i : Nat) : e_b (x &&& y) i = (e_b x i && e_b y i) := by unfold e_b; rw [Int32.toBitVec_and, BitVec.getLsbD_and]
theorem e_bxor (x y : Int32) (i : Nat) : e_b (x ^^^ y) i = (e_b x i ^^ e_b y i) := by unfold e_b; rw [Int32.toBitVec_xor, BitVec.getLsbD_xor]
theorem e_bm1 : ∀ i, i < 32 → e_b (-1) i = true := by decide +kernel
theorem e_b0 : ∀ i, i < 32 → e_b 0 i = false := by decide +kernel
theorem e_b1 : ∀ i, i < 32 → e_b 1 i = decide (i = 0) := by decide +kernel
theorem e_sl : ∀ n, n < 32 → ((nI n &&& 31).toBitVec.smod 32).toNat = n := by decide +kernel
theorem e_bshl (n : Nat) (hn : n < 32) (x : Int32) {i : Nat} (hi : i < 32) : e_b (x <<< (nI n &&& 31)) i = (decide (n ≤ i) && e_b x (i - n)) := by
  unfold e_b
  rw [Int32.toBitVec_shiftLeft]
  show (x.toBitVec <<< ((nI n &&& 31).toBitVec.smod 32).toNat).getLsbD i = _
  rw [e_sl n hn, BitVec.getLsbD_shiftLeft]
  rcases Nat.lt_or_ge i n with h | h
  · simp [h, Nat.not_le.mpr h]
  · simp [hi, h, Nat.not_lt.mpr h]
theorem e_bone {k i : Nat} (hk : k < 32) (hi : i < 32) : e_b (1 <<< (nI k &&& 31)) i = decide (i = k) := by
  rw [e_bshl k hk 1 hi]
  by_cases h : k ≤ i
  · rw [decide_eq_true h, e_b1 _ (by omega), Bool.true_and]
    by_cases q : i = k
    · rw [decide_eq_true q, decide_eq_true (by omega)]
    · rw [decide_eq_false q, decide_eq_false (by omega)]
  · rw [decide_eq_false h, decide_eq_false (by omega), Bool.false_and]
theorem e_sub {a b : Int32} : a &&& b = b ↔ ∀ i, i < 32 → e_b b i = true → e_b a i = true := by
  constructor
  · intro h i hi hb
    rw [← h, e_band] at hb
    exact (Bool.and_eq_true _ _ ▸ hb).1
  · intro h
    refine e_bext (fun i hi => ?_)
    rw [e_band]
    cases hb : e_b b i with
    | false => rw [Bool.and_false]
    | true => rw [h i hi hb]; rfl
theorem e_four (k : Nat) : (4 : Int32) + nI k = nI (4 + k) := nI_add 4 k
theorem e_told0 : ∀ p, p < 5 → ∀ i, i < 32 → e_b ((1 <<< (nI p &&& 31)) - 1) i = decide (i < p) := by decide +kernel
theorem e_told {fM : Nat → Int32} {np i : Nat} (hnp : np ≤ 4) (hi : i < 32) : ∀ n, n ≤ 5 → e_b (q_told (nI np) fM n) i = decide (i < np ∨ (4 ≤ i ∧ i < 4 + n ∧ ¬ fM (i - 4) = -1))
  | 0, _ => by
    rw [q_told, e_told0 np (by omega) i hi]
    exact decide_eq_decide.mpr ⟨Or.inl, fun h => h.elim id (fun q => by omega)⟩
  | n + 1, h => by
    have ih := e_told (fM := fM) hnp hi n (by omega)
    rw [q_told]
    by_cases q : fM n = -1
    · rw [if_pos q, ih]
      refine decide_eq_decide.mpr ⟨fun z => z.imp id (fun z => ⟨z.1, by omega, z.2.2⟩), fun z => z.imp id (fun z => ⟨z.1, ?_, z.2.2⟩)⟩
      rcases Nat.lt_or_ge i (4 + n) with r | r
      · exact r
      · exact absurd (by rw [show i - 4 = n by omega]; exact q) z.2.2
    · rw [if_neg q, e_bor, ih, e_four, e_bone (by omega) hi, ← Bool.decide_or]
      refine decide_eq_decide.mpr ⟨fun z => ?_, fun z => ?_⟩
      · rcases z with (z | z) | z
        · exact Or.inl z
        · exact Or.inr ⟨z.1, by omega, z.2.2⟩
        · exact Or.inr ⟨by omega, by omega, by rw [show i - 4 = n by omega]; exact q⟩
      · rcases z with z | z
        · exact Or.inl (Or.inl z)
        · rcases Nat.lt_or_ge i (4 + n) with r | r
          · exact Or.inl (Or.inr ⟨z.1, r, z.2.2⟩)
          · exact Or.inr (by omega)
theorem e_kp {fG fPo fKi fAb fBe : Nat → Int32} {jv i : Nat} (hi : i < 32) : ∀ n, n ≤ 4 → e_b (q_kp fG fPo fKi fAb fBe jv n) i = decide (i < n ∧ ¬ q_pure fG fAb fBe jv i (fPo i).toNatClampNeg (fKi i).toNatClampNeg = 0)
  | 0, _ => by
    rw [q_kp, e_b0 i hi, decide_eq_false (by omega)]
  | n + 1, h => by
    have ih := e_kp (fG := fG) (fPo := fPo) (fKi := fKi) (fAb := fAb) (fBe := fBe) (jv := jv) hi n (by omega)
    rw [q_kp]
    by_cases q : q_pure fG fAb fBe jv n (fPo n).toNatClampNeg (fKi n).toNatClampNeg = 0
    · rw [if_pos q, ih]
      refine decide_eq_decide.mpr ⟨fun z => ⟨by omega, z.2⟩, fun z => ⟨?_, z.2⟩⟩
      rcases Nat.lt_or_ge i n with r | r
      · exact r
      · exact absurd (by rw [show i = n by omega]; exact q) z.2
    · rw [if_neg q, e_bor, ih, e_bone (by omega) hi, ← Bool.decide_or]
      refine decide_eq_decide.mpr ⟨fun z => z.elim (fun z => ⟨by omega, z.2⟩) (fun z => ⟨by omega, by rw [z]; exact q⟩), fun z => ?_⟩
      rcases Nat.lt_or_ge i n with r | r
      · exact Or.inl ⟨r, z.2⟩
      · exact Or.inr (by omega)
theorem e_km {fO fM : Nat → Int32} {jv i : Nat} {a : Int32} (hi : i < 32) : ∀ n, n ≤ 5 → e_b (q_km fO fM jv a n) i = (e_b a i || decide (4 ≤ i ∧ i < 4 + n ∧ ¬ fM (i - 4) = -1 ∧ ¬ fM (i - 4) < fO (jv * 5 + (i - 4))))
  | 0, _ => by
    rw [q_km, decide_eq_false (by omega), Bool.or_false]
  | n + 1, h => by
    have ih := e_km (fO := fO) (fM := fM) (jv := jv) (a := a) hi n (by omega)
    have keep : (fM n = -1 ∨ fM n < fO (jv * 5 + n)) → decide (4 ≤ i ∧ i < 4 + n ∧ ¬ fM (i - 4) = -1 ∧ ¬ fM (i - 4) < fO (jv * 5 + (i - 4))) = decide (4 ≤ i ∧ i < 4 + (n + 1) ∧ ¬ fM (i - 4) = -1 ∧ ¬ fM (i - 4) < fO (jv * 5 + (i - 4))) := by
      intro q
      refine decide_eq_decide.mpr ⟨fun z => ⟨z.1, by omega, z.2.2⟩, fun z => ⟨z.1, ?_, z.2.2⟩⟩
      rcases Nat.lt_or_ge i (4 + n) with r | r
      · exact r
      · rcases q with q | q
        · exact absurd (by rw [show i - 4 = n by omega]; exact q) z.2.2.1
        · exact absurd (by rw [show i - 4 = n by omega]; exact q) z.2.2.2
    rw [q_km]
    by_cases q : fM n = -1
    · rw [if_pos q, ih, keep (Or.inl q)]
    · rw [if_neg q]
      by_cases q2 : fM n < fO (jv * 5 + n)
      · rw [if_pos q2, ih, keep (Or.inr q2)]
      · rw [if_neg q2, e_bor, ih, e_four, e_bone (by omega) hi, Bool.or_assoc, ← Bool.decide_or]
        congr 1
        refine decide_eq_decide.mpr ⟨fun z => ?_, fun z => ?_⟩
        · rcases z with z | z
          · exact ⟨z.1, by omega, z.2.2⟩
          · refine ⟨by omega, by omega, ?_, ?_⟩
            · rw [show i - 4 = n by omega]; exact q
            · rw [show i - 4 = n by omega]; exact q2
        · rcases Nat.lt_or_ge i (4 + n) with r | r
          · exact Or.inl ⟨z.1, r, z.2.2⟩
          · exact Or.inr (by omega)
theorem e_kept {fG fO fPo fKi fAb fBe fM : Nat → Int32} {np jv i : Nat} (hnp : np ≤ 4) (hi : i < 32) : e_b (q_kept fG fO fPo fKi fAb fBe fM np jv) i = decide ((i < np ∧ ¬ q_pure fG fAb fBe jv i (fPo i).toNatClampNeg (fKi i).toNatClampNeg = 0) ∨ (4 ≤ i ∧ i < 9 ∧ ¬ fM (i - 4) = -1 ∧ ¬ fM (i - 4) < fO (jv * 5 + (i - 4)))) := by
  rw [q_kept, e_km hi 5 (Nat.le_refl _), e_kp hi np hnp, ← Bool.decide_or]
/-- a row of the class and the reference's row jt hold the same -/
abbrev e_cp (fG fO uCa uL : Nat → Int32) (jv jt : Nat) : Prop := (∀ k, k < 9 → fG (jv * 9 + k) = uCa (9 * jt + k)) ∧ ∀ k, k < 5 → fO (jv * 5 + k) = uL (5 * jt + k)
/-- the rules of both are the same -/
abbrev e_ru (fPo fKi uCe fM : Nat → Int32) (np nc : Nat) : Prop := q_okPK fPo fKi np ∧ (∀ j, j < np → uCe j = nI ((fPo j).toNatClampNeg * 3 + (fKi j).toNatClampNeg)) ∧ (∀ j, j < 5 → fM j = -1 ∨ ¬ fM j < 0) ∧ ∀ j, nc ≤ j → j < 5 → fM j = -1
theorem e_all {fG fO uCa uL : Nat → Int32} {jv jt po : Nat} (h : e_cp fG fO uCa uL jv jt) (hp : po < 3) : ∀ n, n ≤ 3 → q_all fG jv po n = q_allr uCa jt po n
  | 0, _ => rfl
  | n + 1, q => by
    simp only [q_all, q_allr]
    rw [e_all h hp n (by omega), h.1 _ (by omega), show 9 * jt + (po * 3 + n) = 9 * jt + 3 * po + n by omega]
theorem e_wo {fG fO uCa uL fW : Nat → Int32} {jv jt : Nat} (h : e_cp fG fO uCa uL jv jt) : ∀ n, n ≤ 9 → q_wo fG fW jv n = q_wor uCa fW jt n
  | 0, _ => rfl
  | n + 1, q => by
    simp only [q_wo, q_wor]
    rw [e_wo h n (by omega), h.1 n (by omega)]
/-- rule by rule -/
theorem e_ke {fG fO fPo fKi fAb fBe fM uCe uCa uL : Nat → Int32} {np nc jv jt i : Nat} (hnp : np ≤ 4) (hnc : nc ≤ 5) (hr : e_ru fPo fKi uCe fM np nc) (h : e_cp fG fO uCa uL jv jt) (hi : i < 9) :
    (e_b (q_told (nI np) fM 5) i = true → (e_b (q_kept fG fO fPo fKi fAb fBe fM np jv) i = true ↔ ¬ q_ke uCe fAb fBe fM uCa uL nc np jt i = 0)) ∧ (e_b (q_told (nI np) fM 5) i = false → q_ke uCe fAb fBe fM uCa uL nc np jt i = 1 ∧ e_b (q_kept fG fO fPo fKi fAb fBe fM np jv) i = false) := by
  rw [e_told hnp (by omega) 5 (Nat.le_refl _), e_kept hnp (by omega)]
  rcases Nat.lt_or_ge i 4 with h4 | h4
  · rcases Nat.lt_or_ge i np with hp | hp
    · have hk := hr.1 i hp
      have e1 : (uCe i).toNatClampNeg = (fPo i).toNatClampNeg * 3 + (fKi i).toNatClampNeg := by rw [hr.2.1 i hp, nI_clamp (by omega)]
      have e2 : ((fPo i).toNatClampNeg * 3 + (fKi i).toNatClampNeg) / 3 = (fPo i).toNatClampNeg := by omega
      have key : q_ke uCe fAb fBe fM uCa uL nc np jt i = q_pure fG fAb fBe jv i (fPo i).toNatClampNeg (fKi i).toNatClampNeg := by
        rw [q_ke, if_neg (by omega), if_neg (by omega), q_pure, e1, e2, h.1 _ (by omega), e_all h hk.1.2 3 (Nat.le_refl _), Int64.mul_comm (fAb i).toInt64]
      refine ⟨fun _ => ?_, fun z => ?_⟩
      · rw [decide_eq_true_iff, key]
        exact ⟨fun z => z.elim (fun z => z.2) (fun z => by omega), fun z => Or.inl ⟨hp, z⟩⟩
      · exact absurd (Or.inl hp) (of_decide_eq_false z)
    · refine ⟨fun z => ?_, fun _ => ⟨?_, decide_eq_false (by omega)⟩⟩
      · rcases of_decide_eq_true z with z | z <;> omega
      · rw [q_ke, if_neg (by omega), if_pos hp]
  · have key : q_ke uCe fAb fBe fM uCa uL nc np jt i = if fM (i - 4) = -1 then 1 else if fM (i - 4) < fO (jv * 5 + (i - 4)) then 0 else 1 := by
      rw [q_ke, if_pos h4, h.2 (i - 4) (by omega)]
      by_cases q : fM (i - 4) = -1
      · rw [if_pos q]
        by_cases q2 : nc ≤ i - 4
        · rw [if_pos q2]
        · rw [if_neg q2, if_pos (by rw [q]; decide)]
      · rw [if_neg q]
        have q2 : ¬ nc ≤ i - 4 := fun z => q (hr.2.2.2 _ z (by omega))
        rw [if_neg q2, if_neg ((hr.2.2.1 (i - 4) (by omega)).resolve_left q)]
    rw [key]
    refine ⟨fun z => ?_, fun z => ?_⟩
    · have z2 := (of_decide_eq_true z).resolve_left (by omega)
      rw [if_neg z2.2.2, decide_eq_true_iff]
      by_cases q : fM (i - 4) < fO (jv * 5 + (i - 4))
      · rw [if_pos q]; exact ⟨fun w => absurd q ((w.resolve_left (by omega)).2.2.2), fun w => absurd rfl w⟩
      · rw [if_neg q]; exact ⟨fun _ => by decide, fun _ => Or.inr ⟨h4, hi, z2.2.2, q⟩⟩
    · have z2 : fM (i - 4) = -1 := Decidable.byContradiction (fun w => of_decide_eq_false z (Or.inr ⟨h4, hi, w⟩))
      rw [if_pos z2]
      exact ⟨rfl, decide_eq_false (fun w => w.elim (fun w => by omega) (fun w => w.2.2.1 z2))⟩
theorem e_hi {fG fO fPo fKi fAb fBe fM : Nat → Int32} {np jv i : Nat} (hnp : np ≤ 4) (hi : 9 ≤ i) (h32 : i < 32) : e_b (q_told (nI np) fM 5) i = false ∧ e_b (q_kept fG fO fPo fKi fAb fBe fM np jv) i = false := by
  rw [e_told hnp h32 5 (Nat.le_refl _), e_kept hnp h32]
  exact ⟨decide_eq_false (by omega), decide_eq_false (by omega)⟩
theorem e_st {ke : Nat → Int32} {x : Int32} : ∀ n, (¬ q_st ke x n = 0) ↔ ∀ i, i < n → nI i = x ∨ ¬ ke i = 0
  | 0 => ⟨fun _ i hi => absurd hi (Nat.not_lt_zero _), fun _ => by rw [q_st]; decide⟩
  | n + 1 => by
    have ih := e_st (ke := ke) (x := x) n
    rw [q_st]
    by_cases h : q_st ke x n = 0
    · rw [if_pos h]
      exact ⟨fun z => absurd rfl z, fun z => absurd h (ih.mpr (fun i hi => z i (by omega)))⟩
    · rw [if_neg h]
      have h' := ih.mp h
      by_cases q : nI n = x
      · rw [if_pos q]
        refine ⟨fun _ i hi => ?_, fun _ => by decide⟩
        rcases Nat.lt_or_ge i n with r | r
        · exact h' i r
        · exact Or.inl (by rw [show i = n by omega]; exact q)
      · rw [if_neg q]
        by_cases q2 : ke n = 0
        · rw [if_pos q2]
          exact ⟨fun z => absurd rfl z, fun z => absurd q2 ((z n (by omega)).resolve_left q)⟩
        · rw [if_neg q2]
          refine ⟨fun _ i hi => ?_, fun _ => by decide⟩
          rcases Nat.lt_or_ge i n with r | r
          · exact h' i r
          · exact Or.inr (by rw [show i = n by omega]; exact q2)
