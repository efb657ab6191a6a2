/-! The clash: sets of rules that no answer keeps. -/
theorem e_sshr (n : Nat) (hn : n < 32) (x : Int32) {i : Nat} (hi : i < 32) : e_b (x >>> (nI n &&& 31)) i = if n + i < 32 then e_b x (n + i) else e_b x 31 := by
  unfold e_b
  rw [Int32.toBitVec_shiftRight]
  show (x.toBitVec.sshiftRight ((nI n &&& 31).toBitVec.smod 32).toNat).getLsbD i = _
  rw [e_sl n hn, BitVec.getLsbD_sshiftRight, BitVec.msb_eq_getLsbD_last]
  simp [hi]
theorem e_bit {x : Int32} {k : Nat} (hk : k < 32) : (x >>> (nI k &&& 31)) &&& 1 = if e_b x k = true then 1 else 0 := by
  refine e_bext (fun i hi => ?_)
  rw [e_band, e_sshr k hk x hi, e_b1 i hi]
  by_cases h : i = 0
  · subst h
    rw [if_pos (by omega), Nat.add_zero]
    cases e_b x k <;> decide
  · rw [decide_eq_false h, Bool.and_false]
    split
    · rw [e_b1 i hi, decide_eq_false h]
    · rw [e_b0 i hi]
theorem e_bit0 {x : Int32} {k : Nat} (hk : k < 32) : (x >>> (nI k &&& 31)) &&& 1 = 0 ↔ ¬ e_b x k = true := by
  rw [e_bit hk]
  by_cases h : e_b x k = true
  · rw [if_pos h]; exact ⟨fun q => absurd q (by decide), fun q => absurd h q⟩
  · rw [if_neg h]; exact ⟨fun _ => h, fun _ => rfl⟩
theorem e_bit1 {x : Int32} {k : Nat} (hk : k < 32) : (x >>> (nI k &&& 31)) &&& 1 = 1 ↔ e_b x k = true := by
  rw [e_bit hk]
  by_cases h : e_b x k = true
  · rw [if_pos h]; exact ⟨fun _ => h, fun _ => rfl⟩
  · rw [if_neg h]; exact ⟨fun q => absurd q (by decide), fun q => absurd q h⟩
theorem e_has {x : Int32} {k : Nat} (hk : k < 32) : x &&& (1 <<< (nI k &&& 31)) = 0 ↔ ¬ e_b x k = true := by
  constructor
  · intro h q
    have := congrArg (fun y => e_b y k) h
    simp only [e_band] at this
    rw [e_bone hk hk, decide_eq_true rfl, q, e_b0 k hk] at this
    cases this
  · intro h
    refine e_bext (fun i hi => ?_)
    rw [e_band, e_bone hk hi, e_b0 i hi]
    by_cases q : i = k
    · subst q
      cases hx : e_b x i with
      | true => exact absurd hx h
      | false => rfl
    · rw [decide_eq_false q, Bool.and_false]
theorem e_na {set k : Int32} : ∀ n j ps, n + j ≤ 9 → q_na set k n j ps = q_nr set k n j ps
  | 0, _, _, _ => rfl
  | n + 1, j, ps, h => by
    simp only [q_na, q_nr]
    by_cases q : e_b set j = true
    · have g1 : ¬ set &&& (1 <<< (nI j &&& 31)) = 0 := fun z => (e_has (by omega)).mp z q
      have g2 : ¬ ¬ (set >>> (nI j &&& 31)) &&& 1 = 1 := fun z => z ((e_bit1 (by omega)).mpr q)
      rw [if_neg g1, if_neg g2]
      by_cases p : ps = k
      · rw [if_pos p, if_pos p]
      · rw [if_neg p, if_neg p]; exact e_na n (j + 1) (ps + 1) (by omega)
    · have g1 : set &&& (1 <<< (nI j &&& 31)) = 0 := (e_has (by omega)).mpr q
      have g2 : ¬ (set >>> (nI j &&& 31)) &&& 1 = 1 := fun z => q ((e_bit1 (by omega)).mp z)
      rw [if_pos g1, if_pos g2]
      exact e_na n (j + 1) ps (by omega)
theorem e_bc : ∀ n, n < 512 → q_bc (nI n) = q_sz (nI n) 9 ∧ ¬ (10 : Int32) ≤ q_bc (nI n) := by decide +kernel
theorem e_tr {it : Nat → Int32} {i : Nat} (hi : i < 32) : ∀ n, n ≤ 9 → e_b (q_tr it n) i = decide (i < n ∧ ¬ it i = 0)
  | 0, _ => by rw [q_tr, e_b0 i hi, decide_eq_false (by omega)]
  | n + 1, h => by
    rw [q_tr, e_bor, e_tr hi n (by omega)]
    by_cases q : it n = 0
    · rw [if_pos q, e_b0 i hi, Bool.or_false]
      refine decide_eq_decide.mpr ⟨fun z => ⟨by omega, z.2⟩, fun z => ⟨?_, z.2⟩⟩
      rcases Nat.lt_or_ge i n with r | r
      · exact r
      · exact absurd (by rw [show i = n by omega]; exact q) z.2
    · rw [if_neg q, e_bone (by omega) hi, ← Bool.decide_or]
      refine decide_eq_decide.mpr ⟨fun z => z.elim (fun z => ⟨by omega, z.2⟩) (fun z => ⟨by omega, by rw [z]; exact q⟩), fun z => ?_⟩
      rcases Nat.lt_or_ge i n with r | r
      · exact Or.inl ⟨r, z.2⟩
      · exact Or.inr (by omega)
theorem e_toldr {fPo fKi uCe fM : Nat → Int32} {np nc : Nat} (hnp : np ≤ 4) (hnc : nc ≤ 5) (hr : e_ru fPo fKi uCe fM np nc) : q_tr (fun j => q_it fM nc np j) 9 = q_told (nI np) fM 5 := by
  refine e_bext (fun i hi => ?_)
  rw [e_tr hi 9 (Nat.le_refl _), e_told hnp hi 5 (Nat.le_refl _)]
  refine decide_eq_decide.mpr ⟨fun z => ?_, fun z => ?_⟩
  · have z2 := z.2
    rw [q_it] at z2
    rcases Nat.lt_or_ge i 4 with h4 | h4
    · rw [if_neg (by omega)] at z2
      rcases Nat.lt_or_ge i np with r | r
      · exact Or.inl r
      · rw [if_pos r] at z2; exact absurd rfl z2
    · rw [if_pos h4] at z2
      refine Or.inr ⟨h4, by omega, fun q => ?_⟩
      rw [q] at z2
      by_cases c : nc ≤ i - 4
      · rw [if_pos c] at z2; exact z2 rfl
      · rw [if_neg c, if_pos (by decide)] at z2; exact z2 rfl
  · rcases z with z | z
    · refine ⟨by omega, ?_⟩
      rw [q_it, if_neg (by omega), if_neg (by omega)]; decide
    · refine ⟨by omega, ?_⟩
      have c : ¬ nc ≤ i - 4 := fun q => z.2.2 (hr.2.2.2 _ q (by omega))
      rw [q_it, if_pos z.1, if_neg c, if_neg ((hr.2.2.1 (i - 4) (by omega)).resolve_left z.2.2)]; decide
theorem e_ca {set a0 : Int32} {ke : Nat → Int32} : ∀ n, n ≤ 9 → ((¬ q_ca set a0 ke n = 0) ↔ (¬ a0 = 0 ∧ ∀ k, k < n → e_b set k = true → ¬ ke k = 0))
  | 0, _ => ⟨fun h => ⟨h, fun k hk => absurd hk (Nat.not_lt_zero _)⟩, fun h => h.1⟩
  | n + 1, h => by
    have ih := e_ca (set := set) (a0 := a0) (ke := ke) n (by omega)
    rw [q_ca]
    by_cases q : q_ca set a0 ke n = 0
    · rw [if_pos q]
      exact ⟨fun z => absurd rfl z, fun z => absurd q (ih.mpr ⟨z.1, fun k hk => z.2 k (by omega)⟩)⟩
    · rw [if_neg q]
      obtain ⟨i1, i2⟩ := ih.mp q
      by_cases b : e_b set n = true
      · rw [if_neg (fun z => (e_bit0 (by omega)).mp z b)]
        by_cases c : ke n = 0
        · rw [if_pos c]
          exact ⟨fun z => absurd rfl z, fun z => absurd c (z.2 n (by omega) b)⟩
        · rw [if_neg c]
          refine ⟨fun _ => ⟨i1, fun k hk hb => ?_⟩, fun _ => by decide⟩
          rcases Nat.lt_or_ge k n with r | r
          · exact i2 k r hb
          · rw [show k = n by omega]; exact c
      · rw [if_pos ((e_bit0 (by omega)).mpr b)]
        refine ⟨fun _ => ⟨i1, fun k hk hb => ?_⟩, fun _ => by decide⟩
        rcases Nat.lt_or_ge k n with r | r
        · exact i2 k r hb
        · exact absurd (by rw [← show k = n by omega]; exact hb) b
theorem e_cb {p : Nat → Int32} : ∀ n, q_cb p n = true ↔ ∃ v, v < n ∧ ¬ p v = 0
  | 0 => ⟨fun h => Bool.noConfusion h, fun h => h.elim (fun v hv => absurd hv.1 (Nat.not_lt_zero _))⟩
  | n + 1 => by
    rw [q_cb, Bool.or_eq_true, e_cb n, decide_eq_true_iff]
    constructor
    · rintro (⟨v, hv, h⟩ | h)
      · exact ⟨v, by omega, h⟩
      · exact ⟨n, by omega, h⟩
    · rintro ⟨v, hv, h⟩
      rcases Nat.lt_or_ge v n with r | r
      · exact Or.inl ⟨v, r, h⟩
      · exact Or.inr (by rw [← show v = n by omega]; exact h)
theorem e_nk_up {f : Nat → Int32} {z x : Int32} {m : Nat} : ∀ n, n ≤ m → q_nk (upd f m x) z n = q_nk f z n
  | 0, _ => rfl
  | n + 1, h => by
    rw [q_nk, q_nk, e_nk_up n (by omega), e_upd, if_neg (by omega)]
theorem e_lk {fK kept f : Nat → Int32} {z : Int32} : ∀ n, q_nk (q_lk fK kept f n).1 z (q_lk fK kept f n).2 = true ↔ ∀ v, v < n → ¬ fK v = 0 → ¬ kept v &&& z = z
  | 0 => ⟨fun _ v hv => absurd hv (Nat.not_lt_zero _), fun _ => rfl⟩
  | n + 1 => by
    have ih := e_lk (fK := fK) (kept := kept) (f := f) (z := z) n
    simp only [q_lk]
    by_cases q : fK n = 0
    · rw [if_pos q, ih]
      refine ⟨fun h v hv hk => ?_, fun h v hv => h v (by omega)⟩
      rcases Nat.lt_or_ge v n with r | r
      · exact h v r hk
      · exact absurd (by rw [show v = n by omega]; exact q) hk
    · rw [if_neg q]
      show q_nk (upd _ _ _) z ((q_lk fK kept f n).2 + 1) = true ↔ _
      rw [q_nk, e_nk_up _ (Nat.le_refl _), e_upd, if_pos rfl, Bool.and_eq_true, ih, decide_eq_true_iff]
      constructor
      · rintro ⟨h1, h2⟩ v hv hk
        rcases Nat.lt_or_ge v n with r | r
        · exact h1 v r hk
        · rw [show v = n by omega]; exact h2
      · intro h
        exact ⟨fun v hv => h v (by omega), h n (by omega) q⟩
/-- a set of told rules: the class finds none that keeps it where the reference finds that it can't be kept -/
theorem e_can {fK fG fO fPo fKi fAb fBe fM uCe uCa uL uK f : Nat → Int32} {np nc nv jf : Nat} {z : Int32} (hnp : np ≤ 4) (hnc : nc ≤ 5) (hnv : nv ≤ 64) (hr : e_ru fPo fKi uCe fM np nc) (h : ∀ v, v < 64 → e_cp fG fO uCa uL v (64 * jf + v)) (hK : ∀ v, v < 64 → fK v = uK (64 * jf + v)) (hK0 : ∀ v, nv ≤ v → v < 64 → fK v = 0) (hz : z &&& q_told (nI np) fM 5 = z) :
    q_nk (q_lk fK (q_kept fG fO fPo fKi fAb fBe fM np) f 64).1 z (q_lk fK (q_kept fG fO fPo fKi fAb fBe fM np) f 64).2 = true ↔ ¬ q_cb (fun v => q_ca z (uK (64 * jf + v)) (fun k => q_ke uCe fAb fBe fM uCa uL nc np (64 * jf + v) k) 9) nv = true := by
  rw [e_lk, e_cb]
  constructor
  · rintro q ⟨v, hv, w⟩
    obtain ⟨w1, w2⟩ := (e_ca 9 (Nat.le_refl _)).mp w
    exact q v (by omega) (by rw [hK v (by omega)]; exact w1) ((e_set hnp hnc hr (h v (by omega)) hz).mpr (fun i hi hb => w2 i hi hb))
  · intro q v hv hk w
    rcases Nat.lt_or_ge v nv with r | r
    · exact q ⟨v, r, (e_ca 9 (Nat.le_refl _)).mpr ⟨by rw [← hK v hv]; exact hk, fun k hk2 hb => (e_set hnp hnc hr (h v hv) hz).mp w k hk2 hb⟩⟩
    · exact hk (hK0 v r hv)
theorem e_fc {told : Int32} {nk cb : Int32 → Bool} (h : ∀ z, z &&& told = z → (nk z = true ↔ ¬ cb z = true)) : ∀ j, j ≤ 511 → (q_fc told nk j).2 = q_cl told cb j ∧ ((q_cl told cb j = 0 ∧ (q_fc told nk j).1 = 10) ∨ ∃ n, 1 ≤ n ∧ n ≤ j ∧ q_cl told cb j = nI n ∧ (q_fc told nk j).1 = q_bc (nI n))
  | 0, _ => ⟨rfl, Or.inl ⟨rfl, rfl⟩⟩
  | j + 1, hj => by
    obtain ⟨i1, i2⟩ := e_fc h j (by omega)
    have hbz := e_bc (j + 1) (by omega)
    simp only [q_fc, q_cl]
    by_cases c1 : nI (j + 1) &&& told = nI (j + 1)
    · have hk := h _ c1
      have c2 : ¬ (q_fc told nk j).1 ≤ q_bc (nI (j + 1)) ↔ (q_cl told cb j = 0 ∨ ¬ q_sz (q_cl told cb j) 9 ≤ q_sz (nI (j + 1)) 9) := by
        rcases i2 with ⟨a, b⟩ | ⟨n, n1, n2, a, b⟩
        · rw [b]; exact ⟨fun _ => Or.inl a, fun _ => hbz.2⟩
        · have hbn := e_bc n (by omega)
          rw [b, a, ← hbz.1, ← hbn.1]
          exact ⟨fun q => Or.inr q, fun q => q.resolve_left (nI_ne0 (by omega) (by omega))⟩
      by_cases c : (nI (j + 1) &&& told = nI (j + 1) ∧ ¬ (q_fc told nk j).1 ≤ q_bc (nI (j + 1)) ∧ nk (nI (j + 1)) = true)
      · rw [if_pos c, if_pos ⟨c1, c2.mp c.2.1, hk.mp c.2.2⟩]
        exact ⟨rfl, Or.inr ⟨j + 1, by omega, by omega, rfl, rfl⟩⟩
      · rw [if_neg c, if_neg (fun q => c ⟨c1, c2.mpr q.2.1, hk.mpr q.2.2⟩)]
        exact ⟨i1, i2.imp id (fun ⟨n, a, b, d⟩ => ⟨n, a, by omega, d⟩)⟩
    · rw [if_neg (fun q => c1 q.1), if_neg (fun q => c1 q.1)]
      exact ⟨i1, i2.imp id (fun ⟨n, a, b, d⟩ => ⟨n, a, by omega, d⟩)⟩
theorem e_cl0 {told : Int32} {cb : Int32 → Bool} (h : ∀ z, z &&& told = z → cb z = true) : ∀ j, q_cl told cb j = 0
  | 0 => rfl
  | j + 1 => by
    rw [q_cl, if_neg (fun q => q.2.2 (h _ q.1))]
    exact e_cl0 h j
/-- the clash of both -/
theorem e_clash {fK fG fO fPo fKi fAb fBe fM uCe uCa uL uK f : Nat → Int32} {np nc nv jf : Nat} {k1 : Int32} (hnp : np ≤ 4) (hnc : nc ≤ 5) (hnv : nv ≤ 64) (hr : e_ru fPo fKi uCe fM np nc) (h : ∀ v, v < 64 → e_cp fG fO uCa uL v (64 * jf + v)) (hK : ∀ v, v < 64 → fK v = uK (64 * jf + v)) (hK0 : ∀ v, nv ≤ v → v < 64 → fK v = 0) :
    q_na (if q_nk (q_lk fK (q_kept fG fO fPo fKi fAb fBe fM np) f 64).1 (q_told (nI np) fM 5) (q_lk fK (q_kept fG fO fPo fKi fAb fBe fM np) f 64).2 = true then (q_fc (q_told (nI np) fM 5) (fun z => q_nk (q_lk fK (q_kept fG fO fPo fKi fAb fBe fM np) f 64).1 z (q_lk fK (q_kept fG fO fPo fKi fAb fBe fM np) f 64).2) 511).2 else 0) k1 9 0 0
      = q_nr (q_cl (q_tr (fun j => q_it fM nc np j) 9) (fun z => q_cb (fun v => q_ca z (uK (64 * jf + v)) (fun k => q_ke uCe fAb fBe fM uCa uL nc np (64 * jf + v) k) 9) nv) 511) k1 9 0 0 := by
  rw [e_toldr hnp hnc hr]
  have hc := fun z hz => e_can (f := f) (fAb := fAb) (fBe := fBe) (z := z) hnp hnc hnv hr h hK hK0 hz
  have hself : q_told (nI np) fM 5 &&& q_told (nI np) fM 5 = q_told (nI np) fM 5 := e_sub.mpr (fun _ _ q => q)
  rw [← e_na 9 0 0 (by omega)]
  congr 1
  by_cases q : q_nk (q_lk fK (q_kept fG fO fPo fKi fAb fBe fM np) f 64).1 (q_told (nI np) fM 5) (q_lk fK (q_kept fG fO fPo fKi fAb fBe fM np) f 64).2 = true
  · rw [if_pos q]
    exact (e_fc hc 511 (Nat.le_refl _)).1
  · rw [if_neg q]
    refine (e_cl0 (fun z hz => ?_) 511).symm
    have hz' := hc z hz
    refine Decidable.byContradiction (fun w => q ?_)
    have w2 := hz'.mpr w
    rw [e_lk] at w2 ⊢
    intro v hv hk he
    refine w2 v hv hk ?_
    rw [e_sub] at he ⊢
    intro i hi hb
    refine he i hi ?_
    rw [← hz, e_band] at hb
    exact (Bool.and_eq_true _ _ ▸ hb).2
